set_option maxHeartbeats 4000000 in
set_option maxRecDepth 100000 in
theorem c_X3_fails {l : Launch} {dC : Nat → ClassId} {dI : Nat → Nat → Nat} {cI cL cJ : ClassId} {o : Nat} {t : Nat → Nat} {A : RW} {i : Nat → Int32} {h : Int64} {b : Int32} : Met l yX3_fails (.code yX3_fails cX3_fails 2 (some .int) :: WG) (rmL 0) (va_Pc [.ref o, .int b] (MDM dC dI cI cL cJ o t A i h)) (bq_M (some (.int (nI 0))) (fun H => va_P (dC, dI) vwCl (MW cI o t A (upd i 2 b) h) H) (fun q => q ∈ MA o t)) 0 0 ((fun q => q ∈ MA o t)) := by
  refine bq_of [some (.ref o), some (.int b)] rfl rfl (Nat.le_of_ble_eq_true rfl) (by decide) ?_
  intro P_ E_ s M_ B_ T_ K_ C hv
  obtain ⟨hP, hD, hK⟩ := hv
  have hS : va_S (fun q => q ∈ MA o t) s.heap s.heap [] := va_S.rf
  refine g_aload0 C dX3_fails_0 ?_
  refine g_iload1 C dX3_fails_1 ?_
  refine g_put (ci := 3) (T := TX3) (N := 16) C inX3 tyX3 tyX3_ok nmX3 hK hP hD hS 0 rfl rfl 5 (by decide) wf_X3_37 ⟨rfl, rfl, rfl⟩ rfl rfl rfl (Nat.le_of_ble_eq_true rfl) dX3_fails_2 (fun H locs hP hD hS => ?_)
  refine g_iconst C (nI 0) (by decide) dX3_fails_5 ?_
  exact g_iretM C hP hS rfl dX3_fails_6

set_option maxHeartbeats 4000000 in
set_option maxRecDepth 100000 in
theorem c_X3_walk {l : Launch} {dC : Nat → ClassId} {dI : Nat → Nat → Nat} {cI cL cJ : ClassId} {o : Nat} {t : Nat → Nat} {A : RW} {i : Nat → Int32} {h : Int64} {b : Int32} (hg0 : (q_nz (A 0)) 3 0 = nI 3) : Met l yX3_walk (.code yX3_walk cX3_walk 6 none :: WG) (rmL 1) (va_Pc [.ref o, .int b] (MDM dC dI cI cL cJ o t A i h)) (bq_M (none) (fun H => ∃ w u : Nat → Int32, va_P (dC, dI) vwCl (MW cI o t (q_s2 A w u) i h) H ∧ ∀ p, p < 40 → (w p = nI 1 ↔ q_rn (q_op (q_nz (A 0)) b) 40 p)) (fun q => q ∈ MA o t)) 0 0 ((fun q => q ∈ MA o t)) := by
  refine bq_of [some (.ref o), some (.int b), none, none, none, none] rfl rfl (Nat.le_of_ble_eq_true rfl) (by decide) ?_
  intro P_ E_ s M_ B_ T_ K_ C hv
  obtain ⟨hP, hD, hK⟩ := hv
  have hS : va_S (fun q => q ∈ MA o t) s.heap s.heap [] := va_S.rf
  refine g_iconst C (nI 0) (by decide) dX3_walk_0 ?_
  refine g_istore2 C rfl dX3_walk_1 ?_
  have hP : va_P (dC, dI) vwCl (MW cI o t (q_s2 A (A 3) (A 4)) (i) (h)) s.heap := hP
  have hD : va_D (fun q => q ∈ MA o t) (MW cI o t (q_s2 A (A 3) (A 4)) (i) (h)) := hD.fst rfl
  refine g_lpH (A1 := Nat × (Nat → Int32)) (fun a H locs => a.1 ≤ 40 ∧ (∀ p, p < a.1 → a.2 p = nI 0) ∧ va_P (dC, dI) vwCl (MW cI o t (q_s2 A a.2 (A 4)) i h) H ∧ va_D (fun q => q ∈ MA o t) (MW cI o t (q_s2 A a.2 (A 4)) i h) ∧ va_S (fun q => q ∈ MA o t) s.heap H locs) (fun a => 40 - a.1) (fun a => [some (.ref o), some (.int b), some (.int (nI a.1)), none, none, none]) (0, A 3) ⟨by omega, fun p hp => absurd hp (Nat.not_lt_zero p), hP, hD, hS⟩ rfl ?_
  rintro ⟨j, w⟩ H locs ⟨hj, hw0, hP, hD, hS⟩ ih
  try dsimp only at hj hw0 hP hD hS ih ⊢
  refine g_iload2 C dX3_walk_2 ?_
  refine g_bipush C (nI 40) (by decide) dX3_walk_3 ?_
  refine g_icmp_geN C (by omega) (by omega) 21 dX3_walk_5 (by decide) (fun h5 => ?_) (fun h5 => ?_)
  · obtain rfl : j = 40 := by omega
    refine g_iconst C (nI 0) (by decide) dX3_walk_21 ?_
    refine g_istore2 C rfl dX3_walk_22 ?_
    refine g_iload1 C dX3_walk_23 ?_
    refine g_if_eq C 43 dX3_walk_24 (by decide) (fun h24 => ?_) (fun h24 => ?_)
    · refine g_iconst C (nI 0) (by decide) dX3_walk_43 ?_
      refine g_istore3 C rfl dX3_walk_44 ?_
      have hP : va_P (dC, dI) vwCl (MW cI o t (q_s2 A (w) (A 4)) (i) (h)) H := hP
      have hD : va_D (fun q => q ∈ MA o t) (MW cI o t (q_s2 A (w) (A 4)) (i) (h)) := hD.fst rfl
      refine g_lpH (A1 := Nat × Nat × (Nat → Int32) × (Nat → Int32)) (fun a H locs => a.1 ≤ a.2.1 ∧ q_I1 (q_op (q_nz (A 0)) b) b a.2.1 a.2.2.1 a.2.2.2 ∧ q_cl (q_op (q_nz (A 0)) b) a.2.2.1 a.2.2.2 a.1 ∧ va_P (dC, dI) vwCl (MW cI o t (q_s2 A a.2.2.1 a.2.2.2) i h) H ∧ va_D (fun q => q ∈ MA o t) (MW cI o t (q_s2 A a.2.2.1 a.2.2.2) i h) ∧ va_S (fun q => q ∈ MA o t) s.heap H locs) (fun a => 40 - a.1) (fun a => [some (.ref o), some (.int b), some (.int (nI a.2.1)), some (.int (nI a.1)), none, none]) (0, 0, w, A 4) ⟨Nat.zero_le _, q_I1_0 hw0 h24, fun j hj => absurd hj (Nat.not_lt_zero j), hP, hD, hS⟩ rfl ?_
      rintro ⟨k, e, w, u⟩ H locs ⟨hke, hI, hcl, hP, hD, hS⟩ ih
      try dsimp only at hke hI hcl hP hD hS ih ⊢
      have he40 := q_I1_le hI
      refine g_iload3 C dX3_walk_45 ?_
      refine g_iload2 C dX3_walk_46 ?_
      refine g_icmp_geN C (by omega) (by omega) 145 dX3_walk_47 (by decide) (fun h47 => ?_) (fun h47 => ?_)
      · obtain rfl : e = k := by omega
        exact g_vretM C ⟨w, u, hP, q_I1_end hI hcl (fun z hb0 => z.1 hb0.symm)⟩ hS dX3_walk_145
      · refine g_iconst C (nI 0) (by decide) dX3_walk_50 ?_
        refine g_istore4 C rfl dX3_walk_51 ?_
        obtain ⟨q, hq40, huq, hwq, hrn⟩ := hI.1 k h47
        have hr1 : ∃ z, z = e := ⟨e, rfl⟩
        refine g_lpH (A1 := Nat × Nat × (Nat → Int32) × (Nat → Int32)) (fun a H locs => a.1 ≤ 4 ∧ k < a.2.1 ∧ q_I1 (q_op (q_nz (A 0)) b) b a.2.1 a.2.2.1 a.2.2.2 ∧ q_cl (q_op (q_nz (A 0)) b) a.2.2.1 a.2.2.2 k ∧ a.2.2.2 k = nI q ∧ (∀ s1, s1 < a.1 → ∀ q2, q_bsd q s1 = some q2 → q_op (q_nz (A 0)) b q2 → a.2.2.1 q2 = nI 1) ∧ va_P (dC, dI) vwCl (MW cI o t (q_s2 A a.2.2.1 a.2.2.2) i h) H ∧ va_D (fun q => q ∈ MA o t) (MW cI o t (q_s2 A a.2.2.1 a.2.2.2) i h) ∧ va_S (fun q => q ∈ MA o t) s.heap H locs) (fun a => 4 - a.1) (fun a => [some (.ref o), some (.int b), some (.int (nI a.2.1)), some (.int (nI k)), some (.int (nI a.1)), none]) (0, e, w, u) ⟨by show 0 ≤ 4; omega, h47, hI, hcl, huq, fun s1 hs1 => absurd hs1 (Nat.not_lt_zero s1), hP, hD, hS⟩ rfl ?_
        rintro ⟨sd, e, w, u⟩ H locs ⟨hsd, hke2, hI, hcl, huq, hpart, hP, hD, hS⟩ ih2
        try dsimp only at hsd hke2 hI hcl huq hpart hP hD hS ih2 ⊢
        have he40 := q_I1_le hI
        refine g_iload4 C dX3_walk_53 ?_
        refine g_iconst C (nI 4) (by decide) dX3_walk_55 ?_
        refine g_icmp_geN C (by omega) (by omega) 139 dX3_walk_56 (by decide) (fun h56 => ?_) (fun h56 => ?_)
        · have hsd4 : sd = 4 := by omega
          subst hsd4
          have hcl2 : q_cl (q_op (q_nz (A 0)) b) w u (k + 1) := by
            intro j hj q3 hq3 hu3 s1 hs1 q4 hb4 ho4
            rcases Nat.lt_succ_iff_lt_or_eq.mp hj with hj2 | hj2
            · exact hcl j hj2 q3 hq3 hu3 s1 hs1 q4 hb4 ho4
            · subst hj2
              have e1 : q3 = q := (nI_eq (by omega) (by omega)).mp (hu3.symm.trans huq)
              subst e1
              exact hpart s1 hs1 q4 hb4 ho4
          refine g_iinc3 C _ rfl dX3_walk_139 (nI_1 _) ?_
          refine g_goto C 45 dX3_walk_142 (by decide) ?_
          refine g_fg4 (g_fg5 ?_)
          exact ih (k + 1, e, w, u) H locs ⟨hke2, hI, hcl2, hP, hD, hS⟩ (by show 40 - (k + 1) < 40 - k; omega)
        · refine g_aload0 C dX3_walk_59 ?_
          refine g_get (ci := 3) (T := TX3) (N := 16) C inX3 hK hP 0 rfl rfl 8 (by decide) wf_X3_22 ⟨rfl, rfl, rfl⟩ rfl dX3_walk_60 ?_
          refine g_iload3 C dX3_walk_63 ?_
          refine g_iald C hK hP 5 0 rfl rfl (by omega) (by decide) dX3_walk_64 ?_
          rw [show q_s2 A w u 4 k = u k from rfl, huq]
          refine g_iload4 C dX3_walk_65 ?_
          refine g_scS2 C (c_X3_beside (by omega) (by omega)) wl_X3_63 wt_X3_beside wn_X3 wc_X3_beside (by decide +kernel) ⟨rfl, rfl, by decide, by decide⟩ rfl (by simp [Value.category]) ⟨by decide, by decide⟩ dX3_walk_67 ?_
          refine g_istore5 C rfl dX3_walk_70 ?_
          refine g_iload5 C dX3_walk_72 ?_
          refine g_iconst C (-1) (by decide) dX3_walk_74 ?_
          refine g_icmp_eq C 133 dX3_walk_75 (by decide) (fun h75 => ?_) (fun h75 => ?_)
          · refine g_iinc4 C _ rfl dX3_walk_133 (nI_1 _) ?_
            refine g_goto C 53 dX3_walk_136 (by decide) ?_
            refine g_fg5 ?_
            exact ih2 (sd + 1, e, w, u) H locs ⟨by show sd + 1 ≤ 4; omega, hke2, hI, hcl, huq, lt_s hpart (by intro q2 hb2; rw [hb2] at h75; exact absurd ((oN_n (fun b hb => by cases hb; exact q_bsd_lt hq40 hb2)).mp h75) (by simp)), hP, hD, hS⟩ (by show 4 - (sd + 1) < 4 - sd; omega)
          · have ho : ∃ q2, q_bsd q sd = some q2 := by cases hq : q_bsd q sd with | none => rw [hq] at h75; exact absurd rfl h75 | some q2 => exact ⟨q2, rfl⟩
            obtain ⟨q2, hq2⟩ := ho
            have hq240 := q_bsd_lt hq40 hq2
            rw [hq2]
            refine g_iload5 C dX3_walk_78 ?_
            refine g_iload1 C dX3_walk_80 ?_
            refine g_icmp_eq C 133 dX3_walk_81 (by decide) (fun h81 => ?_) (fun h81 => ?_)
            · refine g_iinc4 C _ rfl dX3_walk_133 (nI_1 _) ?_
              refine g_goto C 53 dX3_walk_136 (by decide) ?_
              refine g_fg5 ?_
              exact ih2 (sd + 1, e, w, u) H locs ⟨by show sd + 1 ≤ 4; omega, hke2, hI, hcl, huq, lt_s hpart (by intro q3 hb3 ho3; rw [hq2] at hb3; cases hb3; exact absurd h81 ho3.1), hP, hD, hS⟩ (by show 4 - (sd + 1) < 4 - sd; omega)
            · refine g_aload0 C dX3_walk_84 ?_
              refine g_get (ci := 3) (T := TX3) (N := 16) C inX3 hK hP 0 rfl rfl 7 (by decide) wf_X3_19 ⟨rfl, rfl, rfl⟩ rfl dX3_walk_85 ?_
              refine g_iload5 C dX3_walk_88 ?_
              refine g_iald C hK hP 4 0 rfl rfl (by omega) (by decide) dX3_walk_90 ?_
              refine g_if_ne C 133 dX3_walk_91 (by decide) (fun h91 => ?_) (fun h91 => ?_)
              · refine g_iinc4 C _ rfl dX3_walk_133 (nI_1 _) ?_
                refine g_goto C 53 dX3_walk_136 (by decide) ?_
                refine g_fg5 ?_
                exact ih2 (sd + 1, e, w, u) H locs ⟨by show sd + 1 ≤ 4; omega, hke2, hI, hcl, huq, lt_s hpart (by intro q3 hb3 ho3; rw [hq2] at hb3; cases hb3; rcases hI.2.2.1 q2 hq240 with z | z <;> first | exact z | exact absurd z h91), hP, hD, hS⟩ (by show 4 - (sd + 1) < 4 - sd; omega)
              · refine g_aload0 C dX3_walk_94 ?_
                refine g_get (ci := 3) (T := TX3) (N := 16) C inX3 hK hP 0 rfl rfl 0 (by decide) wf_X3_7 ⟨rfl, rfl, rfl⟩ rfl dX3_walk_95 ?_
                refine g_iload5 C dX3_walk_98 ?_
                refine g_iald C hK hP 1 0 rfl rfl (by omega) (by decide) dX3_walk_100 ?_
                rw [show q_s2 A w u 0 q2 = q_nz (A 0) 3 q2 from zr3 hq240 rfl]
                refine g_iconst C (nI 3) (by decide) dX3_walk_101 ?_
                refine g_icmp_eq C 114 dX3_walk_102 (by decide) (fun h102 => ?_) (fun h102 => ?_)
                · have hop : q_op (q_nz (A 0)) b q2 := ⟨h81, by first | exact Or.inl h102 | exact Or.inr h111⟩
                  have hw2 : w q2 = nI 0 := h91
                  have hadd := q_I1_add hI hke2 hq40 huq (q_cl_rn hI hke2 hq40 huq) (by omega : sd < 4) hq2 hop hw2
                  have he1 := hadd.1
                  have hpart2 : ∀ s1, s1 < sd + 1 → ∀ q3, q_bsd q s1 = some q3 → q_op (q_nz (A 0)) b q3 → upd w q2 (nI 1) q3 = nI 1 := by
                    intro s1 hs1 q3 hb3 ho3
                    by_cases e1 : q3 = q2
                    · exact if_pos e1
                    · refine (if_neg e1).trans ?_
                      rcases Nat.lt_succ_iff_lt_or_eq.mp hs1 with hs2 | hs2
                      · exact hpart s1 hs2 q3 hb3 ho3
                      · subst hs2; rw [hq2] at hb3; cases hb3; exact absurd rfl e1
                  refine g_aload0 C dX3_walk_114 ?_
                  refine g_get (ci := 3) (T := TX3) (N := 16) C inX3 hK hP 0 rfl rfl 7 (by decide) wf_X3_19 ⟨rfl, rfl, rfl⟩ rfl dX3_walk_115 ?_
                  refine g_iload5 C dX3_walk_118 ?_
                  refine g_iconst C (nI 1) (by decide) dX3_walk_120 ?_
                  refine g_iast C hK hP hD hS 4 0 rfl rfl (by omega) (by decide) dX3_walk_121 (fun H locs hP hD hS => ?_)
                  refine g_aload0 C dX3_walk_122 ?_
                  refine g_get (ci := 3) (T := TX3) (N := 16) C inX3 hK hP 0 rfl rfl 8 (by decide) wf_X3_22 ⟨rfl, rfl, rfl⟩ rfl dX3_walk_123 ?_
                  refine g_iload2 C dX3_walk_126 ?_
                  refine g_iload5 C dX3_walk_127 ?_
                  refine g_iast C hK hP hD hS 5 0 rfl rfl (by omega) (by decide) dX3_walk_129 (fun H locs hP hD hS => ?_)
                  have hP : va_P (dC, dI) vwCl (MW cI o t (q_s2 A (upd w q2 (nI 1)) (upd u e (nI q2))) (i) (h)) H := hP
                  have hD : va_D (fun q => q ∈ MA o t) (MW cI o t (q_s2 A (upd w q2 (nI 1)) (upd u e (nI q2))) (i) (h)) := hD.fst rfl
                  refine g_iinc2 C _ rfl dX3_walk_130 (nI_1 _) ?_
                  refine g_iinc4 C _ rfl dX3_walk_133 (nI_1 _) ?_
                  refine g_goto C 53 dX3_walk_136 (by decide) ?_
                  refine g_fg5 ?_
                  exact ih2 (sd + 1, e + 1, upd w q2 (nI 1), upd u e (nI q2)) H locs ⟨by show sd + 1 ≤ 4; omega, by show k < e + 1; omega, hadd.2, q_cl_add (b := 0) (by omega) hcl, (if_neg (by omega)).trans huq, hpart2, hP, hD, hS⟩ (by show 4 - (sd + 1) < 4 - sd; omega)
                · refine g_aload0 C dX3_walk_105 ?_
                  refine g_iload5 C dX3_walk_106 ?_
                  refine g_mcV1 C hK hP (c_X3_buried (by omega)) wl_X3_67 wi_X3_buried wv_X3_buried wc_X3_buried (by decide +kernel) ⟨rfl, rfl, by decide, by decide⟩ rfl (by simp [Value.category]) ⟨by decide, by decide⟩ dX3_walk_108 ?_
                  have hbu : q_bur (q_nz (q_s2 A w u 0)) q2 ≤ 3 := q_cn_le _ 3
                  refine g_if_neN C (by omega) 133 dX3_walk_111 (by decide) (fun h111 => ?_) (fun h111 => ?_)
                  · refine g_iinc4 C _ rfl dX3_walk_133 (nI_1 _) ?_
                    refine g_goto C 53 dX3_walk_136 (by decide) ?_
                    refine g_fg5 ?_
                    exact ih2 (sd + 1, e, w, u) H locs ⟨by show sd + 1 ≤ 4; omega, hke2, hI, hcl, huq, lt_s hpart (by intro q3 hb3 ho3; rw [hq2] at hb3; cases hb3; exact absurd ho3.2 (fun z => z.elim h102 h111)), hP, hD, hS⟩ (by show 4 - (sd + 1) < 4 - sd; omega)
                  · have hop : q_op (q_nz (A 0)) b q2 := ⟨h81, by first | exact Or.inl h102 | exact Or.inr h111⟩
                    have hw2 : w q2 = nI 0 := h91
                    have hadd := q_I1_add hI hke2 hq40 huq (q_cl_rn hI hke2 hq40 huq) (by omega : sd < 4) hq2 hop hw2
                    have he1 := hadd.1
                    have hpart2 : ∀ s1, s1 < sd + 1 → ∀ q3, q_bsd q s1 = some q3 → q_op (q_nz (A 0)) b q3 → upd w q2 (nI 1) q3 = nI 1 := by
                      intro s1 hs1 q3 hb3 ho3
                      by_cases e1 : q3 = q2
                      · exact if_pos e1
                      · refine (if_neg e1).trans ?_
                        rcases Nat.lt_succ_iff_lt_or_eq.mp hs1 with hs2 | hs2
                        · exact hpart s1 hs2 q3 hb3 ho3
                        · subst hs2; rw [hq2] at hb3; cases hb3; exact absurd rfl e1
                    refine g_aload0 C dX3_walk_114 ?_
                    refine g_get (ci := 3) (T := TX3) (N := 16) C inX3 hK hP 0 rfl rfl 7 (by decide) wf_X3_19 ⟨rfl, rfl, rfl⟩ rfl dX3_walk_115 ?_
                    refine g_iload5 C dX3_walk_118 ?_
                    refine g_iconst C (nI 1) (by decide) dX3_walk_120 ?_
                    refine g_iast C hK hP hD hS 4 0 rfl rfl (by omega) (by decide) dX3_walk_121 (fun H locs hP hD hS => ?_)
                    refine g_aload0 C dX3_walk_122 ?_
                    refine g_get (ci := 3) (T := TX3) (N := 16) C inX3 hK hP 0 rfl rfl 8 (by decide) wf_X3_22 ⟨rfl, rfl, rfl⟩ rfl dX3_walk_123 ?_
                    refine g_iload2 C dX3_walk_126 ?_
                    refine g_iload5 C dX3_walk_127 ?_
                    refine g_iast C hK hP hD hS 5 0 rfl rfl (by omega) (by decide) dX3_walk_129 (fun H locs hP hD hS => ?_)
                    have hP : va_P (dC, dI) vwCl (MW cI o t (q_s2 A (upd w q2 (nI 1)) (upd u e (nI q2))) (i) (h)) H := hP
                    have hD : va_D (fun q => q ∈ MA o t) (MW cI o t (q_s2 A (upd w q2 (nI 1)) (upd u e (nI q2))) (i) (h)) := hD.fst rfl
                    refine g_iinc2 C _ rfl dX3_walk_130 (nI_1 _) ?_
                    refine g_iinc4 C _ rfl dX3_walk_133 (nI_1 _) ?_
                    refine g_goto C 53 dX3_walk_136 (by decide) ?_
                    refine g_fg5 ?_
                    exact ih2 (sd + 1, e + 1, upd w q2 (nI 1), upd u e (nI q2)) H locs ⟨by show sd + 1 ≤ 4; omega, by show k < e + 1; omega, hadd.2, q_cl_add (b := 0) (by omega) hcl, (if_neg (by omega)).trans huq, hpart2, hP, hD, hS⟩ (by show 4 - (sd + 1) < 4 - sd; omega)
    · refine g_aload0 C dX3_walk_27 ?_
      refine g_get (ci := 3) (T := TX3) (N := 16) C inX3 hK hP 0 rfl rfl 7 (by decide) wf_X3_19 ⟨rfl, rfl, rfl⟩ rfl dX3_walk_28 ?_
      refine g_iconst C (nI 0) (by decide) dX3_walk_31 ?_
      refine g_iconst C (nI 1) (by decide) dX3_walk_32 ?_
      refine g_iast C hK hP hD hS 4 0 rfl rfl (by omega) (by decide) dX3_walk_33 (fun H locs hP hD hS => ?_)
      refine g_aload0 C dX3_walk_34 ?_
      refine g_get (ci := 3) (T := TX3) (N := 16) C inX3 hK hP 0 rfl rfl 8 (by decide) wf_X3_22 ⟨rfl, rfl, rfl⟩ rfl dX3_walk_35 ?_
      refine g_iconst C (nI 0) (by decide) dX3_walk_38 ?_
      refine g_iconst C (nI 0) (by decide) dX3_walk_39 ?_
      refine g_iast C hK hP hD hS 5 0 rfl rfl (by omega) (by decide) dX3_walk_40 (fun H locs hP hD hS => ?_)
      refine g_iconst C (nI 1) (by decide) dX3_walk_41 ?_
      refine g_istore2 C rfl dX3_walk_42 ?_
      refine g_iconst C (nI 0) (by decide) dX3_walk_43 ?_
      refine g_istore3 C rfl dX3_walk_44 ?_
      have hP : va_P (dC, dI) vwCl (MW cI o t (q_s2 A (upd w 0 (nI 1)) (upd (A 4) 0 (nI 0))) (i) (h)) H := hP
      have hD : va_D (fun q => q ∈ MA o t) (MW cI o t (q_s2 A (upd w 0 (nI 1)) (upd (A 4) 0 (nI 0))) (i) (h)) := hD.fst rfl
      refine g_lpH (A1 := Nat × Nat × (Nat → Int32) × (Nat → Int32)) (fun a H locs => a.1 ≤ a.2.1 ∧ q_I1 (q_op (q_nz (A 0)) b) b a.2.1 a.2.2.1 a.2.2.2 ∧ q_cl (q_op (q_nz (A 0)) b) a.2.2.1 a.2.2.2 a.1 ∧ va_P (dC, dI) vwCl (MW cI o t (q_s2 A a.2.2.1 a.2.2.2) i h) H ∧ va_D (fun q => q ∈ MA o t) (MW cI o t (q_s2 A a.2.2.1 a.2.2.2) i h) ∧ va_S (fun q => q ∈ MA o t) s.heap H locs) (fun a => 40 - a.1) (fun a => [some (.ref o), some (.int b), some (.int (nI a.2.1)), some (.int (nI a.1)), none, none]) (0, 1, upd w 0 (nI 1), upd (A 4) 0 (nI 0)) ⟨Nat.zero_le _, q_I1_1 hw0 ⟨fun z => h24 z.symm, Or.inl hg0⟩, fun j hj => absurd hj (Nat.not_lt_zero j), hP, hD, hS⟩ rfl ?_
      rintro ⟨k, e, w, u⟩ H locs ⟨hke, hI, hcl, hP, hD, hS⟩ ih
      try dsimp only at hke hI hcl hP hD hS ih ⊢
      have he40 := q_I1_le hI
      refine g_iload3 C dX3_walk_45 ?_
      refine g_iload2 C dX3_walk_46 ?_
      refine g_icmp_geN C (by omega) (by omega) 145 dX3_walk_47 (by decide) (fun h47 => ?_) (fun h47 => ?_)
      · obtain rfl : e = k := by omega
        exact g_vretM C ⟨w, u, hP, q_I1_end hI hcl (fun z hb0 => z.1 hb0.symm)⟩ hS dX3_walk_145
      · refine g_iconst C (nI 0) (by decide) dX3_walk_50 ?_
        refine g_istore4 C rfl dX3_walk_51 ?_
        obtain ⟨q, hq40, huq, hwq, hrn⟩ := hI.1 k h47
        have hr1 : ∃ z, z = e := ⟨e, rfl⟩
        refine g_lpH (A1 := Nat × Nat × (Nat → Int32) × (Nat → Int32)) (fun a H locs => a.1 ≤ 4 ∧ k < a.2.1 ∧ q_I1 (q_op (q_nz (A 0)) b) b a.2.1 a.2.2.1 a.2.2.2 ∧ q_cl (q_op (q_nz (A 0)) b) a.2.2.1 a.2.2.2 k ∧ a.2.2.2 k = nI q ∧ (∀ s1, s1 < a.1 → ∀ q2, q_bsd q s1 = some q2 → q_op (q_nz (A 0)) b q2 → a.2.2.1 q2 = nI 1) ∧ va_P (dC, dI) vwCl (MW cI o t (q_s2 A a.2.2.1 a.2.2.2) i h) H ∧ va_D (fun q => q ∈ MA o t) (MW cI o t (q_s2 A a.2.2.1 a.2.2.2) i h) ∧ va_S (fun q => q ∈ MA o t) s.heap H locs) (fun a => 4 - a.1) (fun a => [some (.ref o), some (.int b), some (.int (nI a.2.1)), some (.int (nI k)), some (.int (nI a.1)), none]) (0, e, w, u) ⟨by show 0 ≤ 4; omega, h47, hI, hcl, huq, fun s1 hs1 => absurd hs1 (Nat.not_lt_zero s1), hP, hD, hS⟩ rfl ?_
        rintro ⟨sd, e, w, u⟩ H locs ⟨hsd, hke2, hI, hcl, huq, hpart, hP, hD, hS⟩ ih2
        try dsimp only at hsd hke2 hI hcl huq hpart hP hD hS ih2 ⊢
        have he40 := q_I1_le hI
        refine g_iload4 C dX3_walk_53 ?_
        refine g_iconst C (nI 4) (by decide) dX3_walk_55 ?_
        refine g_icmp_geN C (by omega) (by omega) 139 dX3_walk_56 (by decide) (fun h56 => ?_) (fun h56 => ?_)
        · have hsd4 : sd = 4 := by omega
          subst hsd4
          have hcl2 : q_cl (q_op (q_nz (A 0)) b) w u (k + 1) := by
            intro j hj q3 hq3 hu3 s1 hs1 q4 hb4 ho4
            rcases Nat.lt_succ_iff_lt_or_eq.mp hj with hj2 | hj2
            · exact hcl j hj2 q3 hq3 hu3 s1 hs1 q4 hb4 ho4
            · subst hj2
              have e1 : q3 = q := (nI_eq (by omega) (by omega)).mp (hu3.symm.trans huq)
              subst e1
              exact hpart s1 hs1 q4 hb4 ho4
          refine g_iinc3 C _ rfl dX3_walk_139 (nI_1 _) ?_
          refine g_goto C 45 dX3_walk_142 (by decide) ?_
          refine g_fg4 (g_fg5 ?_)
          exact ih (k + 1, e, w, u) H locs ⟨hke2, hI, hcl2, hP, hD, hS⟩ (by show 40 - (k + 1) < 40 - k; omega)
        · refine g_aload0 C dX3_walk_59 ?_
          refine g_get (ci := 3) (T := TX3) (N := 16) C inX3 hK hP 0 rfl rfl 8 (by decide) wf_X3_22 ⟨rfl, rfl, rfl⟩ rfl dX3_walk_60 ?_
          refine g_iload3 C dX3_walk_63 ?_
          refine g_iald C hK hP 5 0 rfl rfl (by omega) (by decide) dX3_walk_64 ?_
          rw [show q_s2 A w u 4 k = u k from rfl, huq]
          refine g_iload4 C dX3_walk_65 ?_
          refine g_scS2 C (c_X3_beside (by omega) (by omega)) wl_X3_63 wt_X3_beside wn_X3 wc_X3_beside (by decide +kernel) ⟨rfl, rfl, by decide, by decide⟩ rfl (by simp [Value.category]) ⟨by decide, by decide⟩ dX3_walk_67 ?_
          refine g_istore5 C rfl dX3_walk_70 ?_
          refine g_iload5 C dX3_walk_72 ?_
          refine g_iconst C (-1) (by decide) dX3_walk_74 ?_
          refine g_icmp_eq C 133 dX3_walk_75 (by decide) (fun h75 => ?_) (fun h75 => ?_)
          · refine g_iinc4 C _ rfl dX3_walk_133 (nI_1 _) ?_
            refine g_goto C 53 dX3_walk_136 (by decide) ?_
            refine g_fg5 ?_
            exact ih2 (sd + 1, e, w, u) H locs ⟨by show sd + 1 ≤ 4; omega, hke2, hI, hcl, huq, lt_s hpart (by intro q2 hb2; rw [hb2] at h75; exact absurd ((oN_n (fun b hb => by cases hb; exact q_bsd_lt hq40 hb2)).mp h75) (by simp)), hP, hD, hS⟩ (by show 4 - (sd + 1) < 4 - sd; omega)
          · have ho : ∃ q2, q_bsd q sd = some q2 := by cases hq : q_bsd q sd with | none => rw [hq] at h75; exact absurd rfl h75 | some q2 => exact ⟨q2, rfl⟩
            obtain ⟨q2, hq2⟩ := ho
            have hq240 := q_bsd_lt hq40 hq2
            rw [hq2]
            refine g_iload5 C dX3_walk_78 ?_
            refine g_iload1 C dX3_walk_80 ?_
            refine g_icmp_eq C 133 dX3_walk_81 (by decide) (fun h81 => ?_) (fun h81 => ?_)
            · refine g_iinc4 C _ rfl dX3_walk_133 (nI_1 _) ?_
              refine g_goto C 53 dX3_walk_136 (by decide) ?_
              refine g_fg5 ?_
              exact ih2 (sd + 1, e, w, u) H locs ⟨by show sd + 1 ≤ 4; omega, hke2, hI, hcl, huq, lt_s hpart (by intro q3 hb3 ho3; rw [hq2] at hb3; cases hb3; exact absurd h81 ho3.1), hP, hD, hS⟩ (by show 4 - (sd + 1) < 4 - sd; omega)
            · refine g_aload0 C dX3_walk_84 ?_
              refine g_get (ci := 3) (T := TX3) (N := 16) C inX3 hK hP 0 rfl rfl 7 (by decide) wf_X3_19 ⟨rfl, rfl, rfl⟩ rfl dX3_walk_85 ?_
              refine g_iload5 C dX3_walk_88 ?_
              refine g_iald C hK hP 4 0 rfl rfl (by omega) (by decide) dX3_walk_90 ?_
              refine g_if_ne C 133 dX3_walk_91 (by decide) (fun h91 => ?_) (fun h91 => ?_)
              · refine g_iinc4 C _ rfl dX3_walk_133 (nI_1 _) ?_
                refine g_goto C 53 dX3_walk_136 (by decide) ?_
                refine g_fg5 ?_
                exact ih2 (sd + 1, e, w, u) H locs ⟨by show sd + 1 ≤ 4; omega, hke2, hI, hcl, huq, lt_s hpart (by intro q3 hb3 ho3; rw [hq2] at hb3; cases hb3; rcases hI.2.2.1 q2 hq240 with z | z <;> first | exact z | exact absurd z h91), hP, hD, hS⟩ (by show 4 - (sd + 1) < 4 - sd; omega)
              · refine g_aload0 C dX3_walk_94 ?_
                refine g_get (ci := 3) (T := TX3) (N := 16) C inX3 hK hP 0 rfl rfl 0 (by decide) wf_X3_7 ⟨rfl, rfl, rfl⟩ rfl dX3_walk_95 ?_
                refine g_iload5 C dX3_walk_98 ?_
                refine g_iald C hK hP 1 0 rfl rfl (by omega) (by decide) dX3_walk_100 ?_
                rw [show q_s2 A w u 0 q2 = q_nz (A 0) 3 q2 from zr3 hq240 rfl]
                refine g_iconst C (nI 3) (by decide) dX3_walk_101 ?_
                refine g_icmp_eq C 114 dX3_walk_102 (by decide) (fun h102 => ?_) (fun h102 => ?_)
                · have hop : q_op (q_nz (A 0)) b q2 := ⟨h81, by first | exact Or.inl h102 | exact Or.inr h111⟩
                  have hw2 : w q2 = nI 0 := h91
                  have hadd := q_I1_add hI hke2 hq40 huq (q_cl_rn hI hke2 hq40 huq) (by omega : sd < 4) hq2 hop hw2
                  have he1 := hadd.1
                  have hpart2 : ∀ s1, s1 < sd + 1 → ∀ q3, q_bsd q s1 = some q3 → q_op (q_nz (A 0)) b q3 → upd w q2 (nI 1) q3 = nI 1 := by
                    intro s1 hs1 q3 hb3 ho3
                    by_cases e1 : q3 = q2
                    · exact if_pos e1
                    · refine (if_neg e1).trans ?_
                      rcases Nat.lt_succ_iff_lt_or_eq.mp hs1 with hs2 | hs2
                      · exact hpart s1 hs2 q3 hb3 ho3
                      · subst hs2; rw [hq2] at hb3; cases hb3; exact absurd rfl e1
                  refine g_aload0 C dX3_walk_114 ?_
                  refine g_get (ci := 3) (T := TX3) (N := 16) C inX3 hK hP 0 rfl rfl 7 (by decide) wf_X3_19 ⟨rfl, rfl, rfl⟩ rfl dX3_walk_115 ?_
                  refine g_iload5 C dX3_walk_118 ?_
                  refine g_iconst C (nI 1) (by decide) dX3_walk_120 ?_
                  refine g_iast C hK hP hD hS 4 0 rfl rfl (by omega) (by decide) dX3_walk_121 (fun H locs hP hD hS => ?_)
                  refine g_aload0 C dX3_walk_122 ?_
                  refine g_get (ci := 3) (T := TX3) (N := 16) C inX3 hK hP 0 rfl rfl 8 (by decide) wf_X3_22 ⟨rfl, rfl, rfl⟩ rfl dX3_walk_123 ?_
                  refine g_iload2 C dX3_walk_126 ?_
                  refine g_iload5 C dX3_walk_127 ?_
                  refine g_iast C hK hP hD hS 5 0 rfl rfl (by omega) (by decide) dX3_walk_129 (fun H locs hP hD hS => ?_)
                  have hP : va_P (dC, dI) vwCl (MW cI o t (q_s2 A (upd w q2 (nI 1)) (upd u e (nI q2))) (i) (h)) H := hP
                  have hD : va_D (fun q => q ∈ MA o t) (MW cI o t (q_s2 A (upd w q2 (nI 1)) (upd u e (nI q2))) (i) (h)) := hD.fst rfl
                  refine g_iinc2 C _ rfl dX3_walk_130 (nI_1 _) ?_
                  refine g_iinc4 C _ rfl dX3_walk_133 (nI_1 _) ?_
                  refine g_goto C 53 dX3_walk_136 (by decide) ?_
                  refine g_fg5 ?_
                  exact ih2 (sd + 1, e + 1, upd w q2 (nI 1), upd u e (nI q2)) H locs ⟨by show sd + 1 ≤ 4; omega, by show k < e + 1; omega, hadd.2, q_cl_add (b := 0) (by omega) hcl, (if_neg (by omega)).trans huq, hpart2, hP, hD, hS⟩ (by show 4 - (sd + 1) < 4 - sd; omega)
                · refine g_aload0 C dX3_walk_105 ?_
                  refine g_iload5 C dX3_walk_106 ?_
                  refine g_mcV1 C hK hP (c_X3_buried (by omega)) wl_X3_67 wi_X3_buried wv_X3_buried wc_X3_buried (by decide +kernel) ⟨rfl, rfl, by decide, by decide⟩ rfl (by simp [Value.category]) ⟨by decide, by decide⟩ dX3_walk_108 ?_
                  have hbu : q_bur (q_nz (q_s2 A w u 0)) q2 ≤ 3 := q_cn_le _ 3
                  refine g_if_neN C (by omega) 133 dX3_walk_111 (by decide) (fun h111 => ?_) (fun h111 => ?_)
                  · refine g_iinc4 C _ rfl dX3_walk_133 (nI_1 _) ?_
                    refine g_goto C 53 dX3_walk_136 (by decide) ?_
                    refine g_fg5 ?_
                    exact ih2 (sd + 1, e, w, u) H locs ⟨by show sd + 1 ≤ 4; omega, hke2, hI, hcl, huq, lt_s hpart (by intro q3 hb3 ho3; rw [hq2] at hb3; cases hb3; exact absurd ho3.2 (fun z => z.elim h102 h111)), hP, hD, hS⟩ (by show 4 - (sd + 1) < 4 - sd; omega)
                  · have hop : q_op (q_nz (A 0)) b q2 := ⟨h81, by first | exact Or.inl h102 | exact Or.inr h111⟩
                    have hw2 : w q2 = nI 0 := h91
                    have hadd := q_I1_add hI hke2 hq40 huq (q_cl_rn hI hke2 hq40 huq) (by omega : sd < 4) hq2 hop hw2
                    have he1 := hadd.1
                    have hpart2 : ∀ s1, s1 < sd + 1 → ∀ q3, q_bsd q s1 = some q3 → q_op (q_nz (A 0)) b q3 → upd w q2 (nI 1) q3 = nI 1 := by
                      intro s1 hs1 q3 hb3 ho3
                      by_cases e1 : q3 = q2
                      · exact if_pos e1
                      · refine (if_neg e1).trans ?_
                        rcases Nat.lt_succ_iff_lt_or_eq.mp hs1 with hs2 | hs2
                        · exact hpart s1 hs2 q3 hb3 ho3
                        · subst hs2; rw [hq2] at hb3; cases hb3; exact absurd rfl e1
                    refine g_aload0 C dX3_walk_114 ?_
                    refine g_get (ci := 3) (T := TX3) (N := 16) C inX3 hK hP 0 rfl rfl 7 (by decide) wf_X3_19 ⟨rfl, rfl, rfl⟩ rfl dX3_walk_115 ?_
                    refine g_iload5 C dX3_walk_118 ?_
                    refine g_iconst C (nI 1) (by decide) dX3_walk_120 ?_
                    refine g_iast C hK hP hD hS 4 0 rfl rfl (by omega) (by decide) dX3_walk_121 (fun H locs hP hD hS => ?_)
                    refine g_aload0 C dX3_walk_122 ?_
                    refine g_get (ci := 3) (T := TX3) (N := 16) C inX3 hK hP 0 rfl rfl 8 (by decide) wf_X3_22 ⟨rfl, rfl, rfl⟩ rfl dX3_walk_123 ?_
                    refine g_iload2 C dX3_walk_126 ?_
                    refine g_iload5 C dX3_walk_127 ?_
                    refine g_iast C hK hP hD hS 5 0 rfl rfl (by omega) (by decide) dX3_walk_129 (fun H locs hP hD hS => ?_)
                    have hP : va_P (dC, dI) vwCl (MW cI o t (q_s2 A (upd w q2 (nI 1)) (upd u e (nI q2))) (i) (h)) H := hP
                    have hD : va_D (fun q => q ∈ MA o t) (MW cI o t (q_s2 A (upd w q2 (nI 1)) (upd u e (nI q2))) (i) (h)) := hD.fst rfl
                    refine g_iinc2 C _ rfl dX3_walk_130 (nI_1 _) ?_
                    refine g_iinc4 C _ rfl dX3_walk_133 (nI_1 _) ?_
                    refine g_goto C 53 dX3_walk_136 (by decide) ?_
                    refine g_fg5 ?_
                    exact ih2 (sd + 1, e + 1, upd w q2 (nI 1), upd u e (nI q2)) H locs ⟨by show sd + 1 ≤ 4; omega, by show k < e + 1; omega, hadd.2, q_cl_add (b := 0) (by omega) hcl, (if_neg (by omega)).trans huq, hpart2, hP, hD, hS⟩ (by show 4 - (sd + 1) < 4 - sd; omega)
  · refine g_aload0 C dX3_walk_8 ?_
    refine g_get (ci := 3) (T := TX3) (N := 16) C inX3 hK hP 0 rfl rfl 7 (by decide) wf_X3_19 ⟨rfl, rfl, rfl⟩ rfl dX3_walk_9 ?_
    refine g_iload2 C dX3_walk_12 ?_
    refine g_iconst C (nI 0) (by decide) dX3_walk_13 ?_
    refine g_iast C hK hP hD hS 4 0 rfl rfl (by omega) (by decide) dX3_walk_14 (fun H locs hP hD hS => ?_)
    refine g_iinc2 C _ rfl dX3_walk_15 (nI_1 _) ?_
    refine g_goto C 2 dX3_walk_18 (by decide) ?_
    exact ih (j + 1, upd w j (nI 0)) H locs ⟨by show j + 1 ≤ 40; omega, fun p hp => (by rcases Classical.em (p = j) with e1 | e1 <;> first | exact if_pos e1 | exact (if_neg e1).trans (hw0 p (by have hp : p < j + 1 := hp; omega))), hP, hD, hS⟩ (by show 40 - (j + 1) < 40 - j; omega)
