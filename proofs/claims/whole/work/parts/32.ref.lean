set_option maxHeartbeats 4000000 in
set_option maxRecDepth 100000 in
theorem c_X3_thrown {l : Launch} {dC : Nat → ClassId} {dI : Nat → Nat → Nat} {cI cL cJ : ClassId} {o : Nat} {t : Nat → Nat} {A : RW} {i : Nat → Int32} {h : Int64}  : Met l yX3_thrown (.code yX3_thrown cX3_thrown 1 (some .int) :: WG) (rmL 0) (va_Pc [.ref o] (MDP dC dI cI cL cJ o t A i h)) (bq_S (.int (i 2))) 0 0 (fun _ => False) := by
  refine bq_of [some (.ref o)] rfl rfl (Nat.le_of_ble_eq_true rfl) (by decide) ?_
  intro P_ E_ s M_ B_ T_ K_ C hv
  obtain ⟨hP, hK⟩ := hv
  refine g_aload0 C dX3_thrown_0 ?_
  refine g_get (ci := 3) (T := TX3) (N := 16) C inX3 hK hP 0 rfl rfl 5 (by decide) wf_X3_37 ⟨rfl, rfl, rfl⟩ rfl dX3_thrown_1 ?_
  exact g_ireti C (rfl) dX3_thrown_4

set_option maxHeartbeats 4000000 in
set_option maxRecDepth 100000 in
theorem c_X3_counted {l : Launch} {dC : Nat → ClassId} {dI : Nat → Nat → Nat} {cI cL cJ : ClassId} {o : Nat} {t : Nat → Nat} {A : RW} {i : Nat → Int32} {h : Int64} {what : Nat} (hw : what ≤ 8) : Met l yX3_counted (.code yX3_counted cX3_counted 5 (some .int) :: WG) (rmL 3) (va_Pc [.ref o, .int (nI what)] (MDP dC dI cI cL cJ o t A i h)) (bq_S (.int (q_ctM (q_nz (A 0)) (i 3) (A 0 550) (i 0) (q_wr (A 3)) what))) 0 0 (fun _ => False) := by
  refine bq_of [some (.ref o), some (.int (nI what)), none, none, none] rfl rfl (Nat.le_of_ble_eq_true rfl) (by decide) ?_
  intro P_ E_ s M_ B_ T_ K_ C hv
  obtain ⟨hP, hK⟩ := hv
  refine g_iload1 C dX3_counted_0 ?_
  refine g_if_eqN C (by omega) 10 dX3_counted_1 (by decide) (fun h1 => ?_) (fun h1 => ?_)
  · refine g_iload1 C dX3_counted_10 ?_
    refine g_if_neN C (by omega) 25 dX3_counted_11 (by decide) (fun h11 => ?_) (fun h11 => ?_)
    · refine g_aload0 C dX3_counted_25 ?_
      refine g_get (ci := 3) (T := TX3) (N := 16) C inX3 hK hP 0 rfl rfl 2 (by decide) wf_X3_85 ⟨rfl, rfl, rfl⟩ rfl dX3_counted_26 ?_
      exact g_ireti C (by unfold q_ctM; rw [if_neg (by omega), if_pos (by omega)]) dX3_counted_29
    · refine g_aload0 C dX3_counted_14 ?_
      refine g_get (ci := 3) (T := TX3) (N := 16) C inX3 hK hP 0 rfl rfl 0 (by decide) wf_X3_7 ⟨rfl, rfl, rfl⟩ rfl dX3_counted_15 ?_
      refine g_sipush C (nI 550) (by decide) dX3_counted_18 ?_
      refine g_zal C hK hP (by omega) (rfl) dX3_counted_21 ?_
      refine g_goto C 29 dX3_counted_22 (by decide) ?_
      exact g_ireti C (by unfold q_ctM; rw [if_pos (by omega)]) dX3_counted_29
  · refine g_iload1 C dX3_counted_4 ?_
    refine g_bipush C (nI 8) (by decide) dX3_counted_5 ?_
    refine g_icmp_neN C (by omega) (by omega) 30 dX3_counted_7 (by decide) (fun h7 => ?_) (fun h7 => ?_)
    · refine g_iconst C (nI 0) (by decide) dX3_counted_30 ?_
      refine g_istore2 C rfl dX3_counted_31 ?_
      refine g_iconst C (nI 0) (by decide) dX3_counted_32 ?_
      refine g_istore3 C rfl dX3_counted_33 ?_
      refine g_lp2 (fun (f : Nat) (x : Int32) => f ≤ 10 ∧ x = q_ct1 (q_nz (A 0)) what f) (fun (f : Nat) (x : Int32) => 10 - f) (fun (f : Nat) (x : Int32) => [some (.ref o), some (.int (nI what)), some (.int x), some (.int (nI f)), none]) 0 (nI 0) ⟨by omega, rfl⟩ rfl ?_
      rintro f x ⟨hf, hx⟩ ih
      try dsimp only at ih ⊢
      refine g_iload3 C dX3_counted_34 ?_
      refine g_bipush C (nI 10) (by decide) dX3_counted_35 ?_
      refine g_icmp_geN C (by omega) (by omega) 69 dX3_counted_37 (by decide) (fun h37 => ?_) (fun h37 => ?_)
      · refine g_iconst C (nI 0) (by decide) dX3_counted_69 ?_
        refine g_istore3 C rfl dX3_counted_70 ?_
        refine g_lp2 (fun (p : Nat) (x2 : Int32) => p ≤ 40 ∧ x2 = q_ct2 (q_nz (A 0)) (i 3) (q_wr (A 3)) what p) (fun (p : Nat) (_ : Int32) => 40 - p) (fun (p : Nat) (x2 : Int32) => [some (.ref o), some (.int (nI what)), some (.int x2), some (.int (nI p)), none]) 0 _ ⟨by omega, by rw [hx, show f = 10 by omega]; rfl⟩ rfl ?_
        rintro p x2 ⟨hp, hx2⟩ ih2
        try dsimp only at ih2 ⊢
        refine g_iload3 C dX3_counted_71 ?_
        refine g_bipush C (nI 40) (by decide) dX3_counted_72 ?_
        refine g_icmp_geN C (by omega) (by omega) 214 dX3_counted_74 (by decide) (fun h74 => ?_) (fun h74 => ?_)
        · refine g_iload2 C dX3_counted_214 ?_
          exact g_ireti C (by unfold q_ctM; rw [if_neg (by omega), if_neg (by omega), hx2, show p = 40 by omega]) dX3_counted_215
        · refine g_aload0 C dX3_counted_77 ?_
          refine g_get (ci := 3) (T := TX3) (N := 16) C inX3 hK hP 0 rfl rfl 0 (by decide) wf_X3_7 ⟨rfl, rfl, rfl⟩ rfl dX3_counted_78 ?_
          refine g_iload3 C dX3_counted_81 ?_
          refine g_zal C hK hP (by omega) (zr3 (k := p) (by omega) (by omega)) dX3_counted_82 ?_
          refine g_iconst C (nI 3) (by decide) dX3_counted_83 ?_
          refine g_d2 (v := bI ((q_nz (A 0)) 3 p ≠ nI 3)) 92 (fun K84 => ?_) ?_
          · skip
            refine g_icmp_eq C 91 dX3_counted_84 (by decide) (fun h84 => ?_) (fun h84 => ?_)
            · refine g_iconst C (nI 0) (by decide) dX3_counted_91 ?_
              exact K84 _ (bI_f (fun z => z h84))
            · refine g_iconst C (nI 1) (by decide) dX3_counted_87 ?_
              refine g_goto C 92 dX3_counted_88 (by decide) ?_
              exact K84 _ (bI_t h84)
          refine g_istore4 C rfl dX3_counted_92 ?_
          refine g_iload2 C dX3_counted_94 ?_
          refine g_iload1 C dX3_counted_95 ?_
          refine g_iconst C (nI 1) (by decide) dX3_counted_96 ?_
          refine g_d2 (v := nI (q_i1 (q_nz (A 0)) (i 3) what p)) 122 (fun K97 => ?_) ?_
          · skip
            refine g_icmp_neN C (by omega) (by omega) 108 dX3_counted_97 (by decide) (fun h97 => ?_) (fun h97 => ?_)
            · refine g_iload1 C dX3_counted_108 ?_
              refine g_iconst C (nI 2) (by decide) dX3_counted_109 ?_
              refine g_icmp_neN C (by omega) (by omega) 121 dX3_counted_110 (by decide) (fun h110 => ?_) (fun h110 => ?_)
              · refine g_iconst C (nI 0) (by decide) dX3_counted_121 ?_
                exact K97 _ (by simp [q_i1, h97, h110])
              · refine g_aload0 C dX3_counted_113 ?_
                refine g_iload3 C dX3_counted_114 ?_
                refine g_mcV1 C hK hP (c_X3_fresh (by omega)) wl_X3_127 wi_X3_fresh wv_X3_fresh wc_X3_fresh (by decide +kernel) ⟨rfl, rfl, by decide, by decide⟩ rfl (by simp [Value.category]) ⟨by decide, by decide⟩ dX3_counted_115 ?_
                refine g_goto C 122 dX3_counted_118 (by decide) ?_
                exact K97 _ (by simp [q_i1, h97, h110])
            · refine g_aload0 C dX3_counted_100 ?_
              refine g_iload3 C dX3_counted_101 ?_
              refine g_mcV1 C hK hP (c_X3_buried (by omega)) wl_X3_67 wi_X3_buried wv_X3_buried wc_X3_buried (by decide +kernel) ⟨rfl, rfl, by decide, by decide⟩ rfl (by simp [Value.category]) ⟨by decide, by decide⟩ dX3_counted_102 ?_
              refine g_goto C 122 dX3_counted_105 (by decide) ?_
              exact K97 _ (by simp [q_i1, h97])
          refine g_iadd C dX3_counted_122 ?_
          refine g_istore2 C rfl dX3_counted_123 ?_
          refine g_iload2 C dX3_counted_124 ?_
          refine g_iload1 C dX3_counted_125 ?_
          refine g_iconst C (nI 3) (by decide) dX3_counted_126 ?_
          refine g_d2 (v := nI (q_i2 (q_nz (A 0)) (q_wr (A 3)) what p)) 166 (fun K127 => ?_) ?_
          · skip
            refine g_icmp_neN C (by omega) (by omega) 143 dX3_counted_127 (by decide) (fun h127 => ?_) (fun h127 => ?_)
            · refine g_iload1 C dX3_counted_143 ?_
              refine g_iconst C (nI 4) (by decide) dX3_counted_144 ?_
              refine g_icmp_neN C (by omega) (by omega) 165 dX3_counted_145 (by decide) (fun h145 => ?_) (fun h145 => ?_)
              · refine g_iconst C (nI 0) (by decide) dX3_counted_165 ?_
                exact K127 _ (by unfold q_i2; rw [if_neg (fun z => z.elim (fun z => h127 z.1) (fun z => h145 z.1))])
              · refine g_iload4 C dX3_counted_148 ?_
                refine g_if_eqB C 165 dX3_counted_150 (by decide) (fun h150 => ?_) (fun h150 => ?_)
                · refine g_iconst C (nI 0) (by decide) dX3_counted_165 ?_
                  exact K127 _ (by unfold q_i2; rw [if_neg (fun z => z.elim (fun z => h127 z.1) (fun z => h150 z.2.1))])
                · refine g_aload0 C dX3_counted_153 ?_
                  refine g_iload3 C dX3_counted_154 ?_
                  refine g_mcV1 C hK hP (c_X3_isReached (by omega)) wl_X3_79 wi_X3_isReached wv_X3_isReached wc_X3_isReached (by decide +kernel) ⟨rfl, rfl, by decide, by decide⟩ rfl (by simp [Value.category]) ⟨by decide, by decide⟩ dX3_counted_155 ?_
                  refine g_if_neB C 165 dX3_counted_158 (by decide) (fun h158 => ?_) (fun h158 => ?_)
                  · refine g_iconst C (nI 0) (by decide) dX3_counted_165 ?_
                    exact K127 _ (by unfold q_i2; rw [if_neg (fun z => z.elim (fun z => h127 z.1) (fun z => absurd z.2.2 (by simp [h158])))])
                  · refine g_iconst C (nI 1) (by decide) dX3_counted_161 ?_
                    refine g_goto C 166 dX3_counted_162 (by decide) ?_
                    exact K127 _ (by unfold q_i2; rw [if_pos (Or.inr ⟨h145, h150, by simpa using h158⟩)])
            · refine g_iload4 C dX3_counted_130 ?_
              refine g_if_eqB C 143 dX3_counted_132 (by decide) (fun h132 => ?_) (fun h132 => ?_)
              · refine g_iload1 C dX3_counted_143 ?_
                refine g_iconst C (nI 4) (by decide) dX3_counted_144 ?_
                refine g_icmp_neN C (by omega) (by omega) 165 dX3_counted_145 (by decide) (fun h145 => ?_) (fun h145 => ?_)
                · refine g_iconst C (nI 0) (by decide) dX3_counted_165 ?_
                  exact K127 _ (by unfold q_i2; rw [if_neg (fun z => z.elim (fun z => h132 z.2.1) (fun z => h145 z.1))])
                · refine g_iload4 C dX3_counted_148 ?_
                  refine g_if_eqB C 165 dX3_counted_150 (by decide) (fun h150 => ?_) (fun h150 => ?_)
                  · refine g_iconst C (nI 0) (by decide) dX3_counted_165 ?_
                    exact K127 _ (by unfold q_i2; rw [if_neg (fun z => z.elim (fun z => h132 z.2.1) (fun z => h150 z.2.1))])
                  · refine g_aload0 C dX3_counted_153 ?_
                    refine g_iload3 C dX3_counted_154 ?_
                    refine g_mcV1 C hK hP (c_X3_isReached (by omega)) wl_X3_79 wi_X3_isReached wv_X3_isReached wc_X3_isReached (by decide +kernel) ⟨rfl, rfl, by decide, by decide⟩ rfl (by simp [Value.category]) ⟨by decide, by decide⟩ dX3_counted_155 ?_
                    refine g_if_neB C 165 dX3_counted_158 (by decide) (fun h158 => ?_) (fun h158 => ?_)
                    · refine g_iconst C (nI 0) (by decide) dX3_counted_165 ?_
                      exact K127 _ (by unfold q_i2; rw [if_neg (fun z => z.elim (fun z => h132 z.2.1) (fun z => absurd z.2.2 (by simp [h158])))])
                    · refine g_iconst C (nI 1) (by decide) dX3_counted_161 ?_
                      refine g_goto C 166 dX3_counted_162 (by decide) ?_
                      exact K127 _ (by unfold q_i2; rw [if_pos (Or.inr ⟨h145, h150, by simpa using h158⟩)])
              · refine g_aload0 C dX3_counted_135 ?_
                refine g_iload3 C dX3_counted_136 ?_
                refine g_mcV1 C hK hP (c_X3_buried (by omega)) wl_X3_67 wi_X3_buried wv_X3_buried wc_X3_buried (by decide +kernel) ⟨rfl, rfl, by decide, by decide⟩ rfl (by simp [Value.category]) ⟨by decide, by decide⟩ dX3_counted_137 ?_
                have hbu : q_bur (q_nz (A 0)) p ≤ 3 := q_cn_le _ 3
                refine g_if_eqN C (by omega) 161 dX3_counted_140 (by decide) (fun h140 => ?_) (fun h140 => ?_)
                · refine g_iconst C (nI 1) (by decide) dX3_counted_161 ?_
                  refine g_goto C 166 dX3_counted_162 (by decide) ?_
                  exact K127 _ (by unfold q_i2; rw [if_pos (Or.inl ⟨h127, h132, h140⟩)])
                · refine g_iload1 C dX3_counted_143 ?_
                  refine g_iconst C (nI 4) (by decide) dX3_counted_144 ?_
                  refine g_icmp_neN C (by omega) (by omega) 165 dX3_counted_145 (by decide) (fun h145 => ?_) (fun h145 => ?_)
                  · refine g_iconst C (nI 0) (by decide) dX3_counted_165 ?_
                    exact K127 _ (by unfold q_i2; rw [if_neg (fun z => z.elim (fun z => h140 z.2.2) (fun z => h145 z.1))])
                  · refine g_iload4 C dX3_counted_148 ?_
                    refine g_if_eqB C 165 dX3_counted_150 (by decide) (fun h150 => ?_) (fun h150 => ?_)
                    · refine g_iconst C (nI 0) (by decide) dX3_counted_165 ?_
                      exact K127 _ (by unfold q_i2; rw [if_neg (fun z => z.elim (fun z => h140 z.2.2) (fun z => h150 z.2.1))])
                    · refine g_aload0 C dX3_counted_153 ?_
                      refine g_iload3 C dX3_counted_154 ?_
                      refine g_mcV1 C hK hP (c_X3_isReached (by omega)) wl_X3_79 wi_X3_isReached wv_X3_isReached wc_X3_isReached (by decide +kernel) ⟨rfl, rfl, by decide, by decide⟩ rfl (by simp [Value.category]) ⟨by decide, by decide⟩ dX3_counted_155 ?_
                      refine g_if_neB C 165 dX3_counted_158 (by decide) (fun h158 => ?_) (fun h158 => ?_)
                      · refine g_iconst C (nI 0) (by decide) dX3_counted_165 ?_
                        exact K127 _ (by unfold q_i2; rw [if_neg (fun z => z.elim (fun z => h140 z.2.2) (fun z => absurd z.2.2 (by simp [h158])))])
                      · refine g_iconst C (nI 1) (by decide) dX3_counted_161 ?_
                        refine g_goto C 166 dX3_counted_162 (by decide) ?_
                        exact K127 _ (by unfold q_i2; rw [if_pos (Or.inr ⟨h145, h150, by simpa using h158⟩)])
          refine g_iadd C dX3_counted_166 ?_
          refine g_istore2 C rfl dX3_counted_167 ?_
          refine g_iload2 C dX3_counted_168 ?_
          refine g_iload1 C dX3_counted_169 ?_
          refine g_iconst C (nI 5) (by decide) dX3_counted_170 ?_
          refine g_d2 (v := nI (q_i3 (q_nz (A 0)) (i 3) what p)) 206 (fun K171 => ?_) ?_
          · skip
            refine g_icmp_neN C (by omega) (by omega) 182 dX3_counted_171 (by decide) (fun h171 => ?_) (fun h171 => ?_)
            · refine g_iload1 C dX3_counted_182 ?_
              refine g_bipush C (nI 6) (by decide) dX3_counted_183 ?_
              refine g_icmp_neN C (by omega) (by omega) 205 dX3_counted_185 (by decide) (fun h185 => ?_) (fun h185 => ?_)
              · refine g_iconst C (nI 0) (by decide) dX3_counted_205 ?_
                exact K171 _ (by unfold q_i3; rw [if_neg (fun z => z.elim (fun z => h171 z.1) (fun z => h185 z.1))])
              · refine g_aload0 C dX3_counted_188 ?_
                refine g_get (ci := 3) (T := TX3) (N := 16) C inX3 hK hP 0 rfl rfl 0 (by decide) wf_X3_7 ⟨rfl, rfl, rfl⟩ rfl dX3_counted_189 ?_
                refine g_bipush C (nI 40) (by decide) dX3_counted_192 ?_
                refine g_iload3 C dX3_counted_194 ?_
                refine g_iaddN C dX3_counted_195 ?_
                refine g_zal C hK hP (by omega) (zr4 (k := p) (by omega) (by omega)) dX3_counted_196 ?_
                refine g_iconst C (-1) (by decide) dX3_counted_197 ?_
                refine g_icmp_eq C 205 dX3_counted_198 (by decide) (fun h198 => ?_) (fun h198 => ?_)
                · refine g_iconst C (nI 0) (by decide) dX3_counted_205 ?_
                  exact K171 _ (by unfold q_i3; rw [if_neg (fun z => z.elim (fun z => h171 z.1) (fun z => z.2 h198))])
                · refine g_iconst C (nI 1) (by decide) dX3_counted_201 ?_
                  refine g_goto C 206 dX3_counted_202 (by decide) ?_
                  exact K171 _ (by unfold q_i3; rw [if_pos (Or.inr ⟨h185, h198⟩)])
            · refine g_aload0 C dX3_counted_174 ?_
              refine g_iload3 C dX3_counted_175 ?_
              refine g_mcV1 C hK hP (c_X3_isKept (by omega)) wl_X3_56 wi_X3_isKept wv_X3_isKept wc_X3_isKept (by decide +kernel) ⟨rfl, rfl, by decide, by decide⟩ rfl (by simp [Value.category]) ⟨by decide, by decide⟩ dX3_counted_176 ?_
              refine g_if_neB C 201 dX3_counted_179 (by decide) (fun h179 => ?_) (fun h179 => ?_)
              · refine g_iconst C (nI 1) (by decide) dX3_counted_201 ?_
                refine g_goto C 206 dX3_counted_202 (by decide) ?_
                exact K171 _ (by unfold q_i3; rw [if_pos (Or.inl ⟨h171, h179⟩)])
              · refine g_iload1 C dX3_counted_182 ?_
                refine g_bipush C (nI 6) (by decide) dX3_counted_183 ?_
                refine g_icmp_neN C (by omega) (by omega) 205 dX3_counted_185 (by decide) (fun h185 => ?_) (fun h185 => ?_)
                · refine g_iconst C (nI 0) (by decide) dX3_counted_205 ?_
                  exact K171 _ (by unfold q_i3; rw [if_neg (fun z => z.elim (fun z => h179 z.2) (fun z => h185 z.1))])
                · refine g_aload0 C dX3_counted_188 ?_
                  refine g_get (ci := 3) (T := TX3) (N := 16) C inX3 hK hP 0 rfl rfl 0 (by decide) wf_X3_7 ⟨rfl, rfl, rfl⟩ rfl dX3_counted_189 ?_
                  refine g_bipush C (nI 40) (by decide) dX3_counted_192 ?_
                  refine g_iload3 C dX3_counted_194 ?_
                  refine g_iaddN C dX3_counted_195 ?_
                  refine g_zal C hK hP (by omega) (zr4 (k := p) (by omega) (by omega)) dX3_counted_196 ?_
                  refine g_iconst C (-1) (by decide) dX3_counted_197 ?_
                  refine g_icmp_eq C 205 dX3_counted_198 (by decide) (fun h198 => ?_) (fun h198 => ?_)
                  · refine g_iconst C (nI 0) (by decide) dX3_counted_205 ?_
                    exact K171 _ (by unfold q_i3; rw [if_neg (fun z => z.elim (fun z => h179 z.2) (fun z => z.2 h198))])
                  · refine g_iconst C (nI 1) (by decide) dX3_counted_201 ?_
                    refine g_goto C 206 dX3_counted_202 (by decide) ?_
                    exact K171 _ (by unfold q_i3; rw [if_pos (Or.inr ⟨h185, h198⟩)])
          refine g_iadd C dX3_counted_206 ?_
          refine g_istore2 C rfl dX3_counted_207 ?_
          refine g_iinc3 C _ rfl dX3_counted_208 (nI_1 _) ?_
          refine g_goto C 71 dX3_counted_211 (by decide) ?_
          refine g_fg4 ?_
          exact ih2 (p + 1) _ ⟨by omega, by rw [hx2]; rfl⟩ (by show 40 - (p + 1) < 40 - p; omega)
      · refine g_iload2 C dX3_counted_40 ?_
        refine g_iload1 C dX3_counted_41 ?_
        refine g_bipush C (nI 7) (by decide) dX3_counted_42 ?_
        refine g_d2 (v := if what = 7 then (q_nz (A 0)) 1 f else nI 0) 61 (fun K44 => ?_) ?_
        · skip
          refine g_icmp_neN C (by omega) (by omega) 60 dX3_counted_44 (by decide) (fun h44 => ?_) (fun h44 => ?_)
          · refine g_iconst C (nI 0) (by decide) dX3_counted_60 ?_
            exact K44 _ (by exact (if_neg h44).symm)
          · refine g_aload0 C dX3_counted_47 ?_
            refine g_get (ci := 3) (T := TX3) (N := 16) C inX3 hK hP 0 rfl rfl 0 (by decide) wf_X3_7 ⟨rfl, rfl, rfl⟩ rfl dX3_counted_48 ?_
            refine g_sipush C (nI 530) (by decide) dX3_counted_51 ?_
            refine g_iload3 C dX3_counted_54 ?_
            refine g_iaddN C dX3_counted_55 ?_
            refine g_zal C hK hP (by omega) (zr1 (k := f) (by omega) (by omega)) dX3_counted_56 ?_
            refine g_goto C 61 dX3_counted_57 (by decide) ?_
            exact K44 _ (by exact (if_pos h44).symm)
        refine g_iadd C dX3_counted_61 ?_
        refine g_istore2 C rfl dX3_counted_62 ?_
        refine g_iinc3 C _ rfl dX3_counted_63 (nI_1 _) ?_
        refine g_goto C 34 dX3_counted_66 (by decide) ?_
        exact ih (f + 1) _ ⟨by omega, by rw [hx]; rfl⟩ (by show 10 - (f + 1) < 10 - f; omega)
    · refine g_iload1 C dX3_counted_10 ?_
      refine g_if_neN C (by omega) 25 dX3_counted_11 (by decide) (fun h11 => ?_) (fun h11 => ?_)
      · refine g_aload0 C dX3_counted_25 ?_
        refine g_get (ci := 3) (T := TX3) (N := 16) C inX3 hK hP 0 rfl rfl 2 (by decide) wf_X3_85 ⟨rfl, rfl, rfl⟩ rfl dX3_counted_26 ?_
        exact g_ireti C (by unfold q_ctM; rw [if_neg (by omega), if_pos (by omega)]) dX3_counted_29
      · refine g_aload0 C dX3_counted_14 ?_
        refine g_get (ci := 3) (T := TX3) (N := 16) C inX3 hK hP 0 rfl rfl 0 (by decide) wf_X3_7 ⟨rfl, rfl, rfl⟩ rfl dX3_counted_15 ?_
        refine g_sipush C (nI 550) (by decide) dX3_counted_18 ?_
        refine g_zal C hK hP (by omega) (rfl) dX3_counted_21 ?_
        refine g_goto C 29 dX3_counted_22 (by decide) ?_
        exact g_ireti C (by unfold q_ctM; rw [if_pos (by omega)]) dX3_counted_29

set_option maxHeartbeats 4000000 in
set_option maxRecDepth 100000 in
theorem c_X3_bestNow {l : Launch} {dC : Nat → ClassId} {dI : Nat → Nat → Nat} {cI cL cJ : ClassId} {o : Nat} {t : Nat → Nat} {A : RW} {i : Nat → Int32} {h : Int64} {f : Nat} (hf : f < 10) (hki : INV (q_nz (A 0))) : Met l yX3_bestNow (.code yX3_bestNow cX3_bestNow 7 (some .int) :: WG) (rmL 5) (va_Pc [.ref o, .int (nI f)] (MDP dC dI cI cL cJ o t A i h)) (bq_S (.int (oN (q_bestM (q_nz (A 0)) (i 3) (q_wr (A 3)) f 40).1))) 0 0 (fun _ => False) := by
  refine bq_of [some (.ref o), some (.int (nI f)), none, none, none, none, none] rfl rfl (Nat.le_of_ble_eq_true rfl) (by decide) ?_
  intro P_ E_ s M_ B_ T_ K_ C hv
  obtain ⟨hP, hK⟩ := hv
  refine g_iconst C (-1) (by decide) dX3_bestNow_0 ?_
  refine g_istore2 C rfl dX3_bestNow_1 ?_
  refine g_iconst C (nI 0) (by decide) dX3_bestNow_2 ?_
  refine g_istore3 C rfl dX3_bestNow_3 ?_
  refine g_iconst C (nI 0) (by decide) dX3_bestNow_4 ?_
  refine g_istore4 C rfl dX3_bestNow_5 ?_
  refine g_lp3 (fun (p : Nat) (q : Option Nat) (w : Int32) => p ≤ 40 ∧ q_bestM (q_nz (A 0)) (i 3) (q_wr (A 3)) f p = (q, w) ∧ ∀ b, q = some b → b < 40) (fun (p : Nat) (q : Option Nat) (w : Int32) => 40 - p) (fun (p : Nat) (q : Option Nat) (w : Int32) => [some (.ref o), some (.int (nI f)), some (.int (oN q)), some (.int w), some (.int (nI p)), none, none]) 0 none (nI 0) ⟨by omega, rfl, fun b h => by cases h⟩ rfl ?_
  rintro p q w ⟨hp, hx, hb⟩ ih
  try dsimp only at ih ⊢
  refine g_iload4 C dX3_bestNow_7 ?_
  refine g_bipush C (nI 40) (by decide) dX3_bestNow_9 ?_
  refine g_icmp_geN C (by omega) (by omega) 120 dX3_bestNow_11 (by decide) (fun h11 => ?_) (fun h11 => ?_)
  · refine g_iload2 C dX3_bestNow_120 ?_
    exact g_ireti C (by rw [show p = 40 by omega] at hx; rw [hx]) dX3_bestNow_121
  · refine g_iconst C (-1) (by decide) dX3_bestNow_14 ?_
    refine g_istore5 C rfl dX3_bestNow_15 ?_
    refine g_iconst C (nI 3) (by decide) dX3_bestNow_17 ?_
    refine g_istore6 C rfl dX3_bestNow_18 ?_
    refine g_lp2 (fun (n : Nat) (x : Int32) => n ≤ 3 ∧ x = q_ow (q_nz (A 0)) (i 3) (q_wr (A 3)) f p n) (fun (n : Nat) (_ : Int32) => 3 - n) (fun (n : Nat) (x : Int32) => [some (.ref o), some (.int (nI f)), some (.int (oN q)), some (.int w), some (.int (nI p)), some (.int x), some (.int (nI (3 - n)))]) 0 (-1) ⟨by omega, rfl⟩ rfl ?_
    rintro n x ⟨hn, hx2⟩ ih2
    try dsimp only at ih2 ⊢
    refine g_iload6 C dX3_bestNow_20 ?_
    refine g_if_leN C (by omega) 59 dX3_bestNow_22 (by decide) (fun h22 => ?_) (fun h22 => ?_)
    · obtain rfl : n = 3 := by omega
      subst hx2
      refine g_iload2 C dX3_bestNow_59 ?_
      refine g_iconst C (-1) (by decide) dX3_bestNow_60 ?_
      refine g_d2 (v := bI (q_btr (q_nz (A 0)) q w (q_ow (q_nz (A 0)) (i 3) (q_wr (A 3)) f p 3) p)) 95 (fun K61 => ?_) ?_
      · skip
        refine g_icmp_eq C 90 dX3_bestNow_61 (by decide) (fun h61 => ?_) (fun h61 => ?_)
        · refine g_iconst C (nI 1) (by decide) dX3_bestNow_90 ?_
          refine g_goto C 95 dX3_bestNow_91 (by decide) ?_
          exact K61 _ (by exact bI_t (Or.inl ((oN_n hb).mp h61)))
        · have ho : ∃ b, q = some b := by cases q with | none => exact absurd rfl h61 | some b => exact ⟨b, rfl⟩
          obtain ⟨b0, rfl⟩ := ho
          have hb0 := hb b0 rfl
          refine g_iload5 C dX3_bestNow_64 ?_
          refine g_iload3 C dX3_bestNow_66 ?_
          refine g_icmp_lt C 90 dX3_bestNow_67 (by decide) (fun h67 => ?_) (fun h67 => ?_)
          · refine g_iconst C (nI 1) (by decide) dX3_bestNow_90 ?_
            refine g_goto C 95 dX3_bestNow_91 (by decide) ?_
            exact K61 _ (by exact bI_t (Or.inr (Or.inl h67)))
          · refine g_iload5 C dX3_bestNow_70 ?_
            refine g_iload3 C dX3_bestNow_72 ?_
            refine g_icmp_ne C 94 dX3_bestNow_73 (by decide) (fun h73 => ?_) (fun h73 => ?_)
            · refine g_iconst C (nI 0) (by decide) dX3_bestNow_94 ?_
              exact K61 _ (by exact bI_f (fun z => z.elim (fun z => h61 ((oN_n hb).mpr z)) (fun z => z.elim h67 (fun z => h73 z.1))))
            · refine g_aload0 C dX3_bestNow_76 ?_
              refine g_iload4 C dX3_bestNow_77 ?_
              refine g_mcV1 C hK hP (c_X3_buried (by omega)) wl_X3_67 wi_X3_buried wv_X3_buried wc_X3_buried (by decide +kernel) ⟨rfl, rfl, by decide, by decide⟩ rfl (by simp [Value.category]) ⟨by decide, by decide⟩ dX3_bestNow_79 ?_
              have hbu : q_bur (q_nz (A 0)) p ≤ 3 := q_cn_le _ 3
              refine g_aload0 C dX3_bestNow_82 ?_
              refine g_iload2 C dX3_bestNow_83 ?_
              refine g_mcV1 C hK hP (c_X3_buried (p := b0) (by omega)) wl_X3_67 wi_X3_buried wv_X3_buried wc_X3_buried (by decide +kernel) ⟨rfl, rfl, by decide, by decide⟩ rfl (by simp [Value.category]) ⟨by decide, by decide⟩ dX3_bestNow_84 ?_
              have hbu2 : q_bur (q_nz (A 0)) b0 ≤ 3 := q_cn_le _ 3
              refine g_icmp_geN C (by omega) (by omega) 94 dX3_bestNow_87 (by decide) (fun h87 => ?_) (fun h87 => ?_)
              · refine g_iconst C (nI 0) (by decide) dX3_bestNow_94 ?_
                exact K61 _ (by exact bI_f (fun z => z.elim (fun z => h61 ((oN_n hb).mpr z)) (fun z => z.elim h67 (fun z => absurd z.2 (Nat.not_lt.mpr h87)))))
              · refine g_iconst C (nI 1) (by decide) dX3_bestNow_90 ?_
                refine g_goto C 95 dX3_bestNow_91 (by decide) ?_
                exact K61 _ (by exact bI_t (Or.inr (Or.inr ⟨h73, h87⟩)))
      refine g_istore6 C rfl dX3_bestNow_95 ?_
      refine g_iload5 C dX3_bestNow_97 ?_
      refine g_iconst C (-1) (by decide) dX3_bestNow_99 ?_
      refine g_icmp_eq C 114 dX3_bestNow_100 (by decide) (fun h100 => ?_) (fun h100 => ?_)
      · refine g_iinc4 C _ rfl dX3_bestNow_114 (nI_1 _) ?_
        refine g_goto C 7 dX3_bestNow_117 (by decide) ?_
        refine g_fg5 (g_fg6 ?_)
        exact ih (p + 1) q w ⟨by omega, by simp only [q_bestM, hx]; rw [if_neg (fun z => z.1 h100)], hb⟩ (by show 40 - (p + 1) < 40 - p; omega)
      · refine g_iload6 C dX3_bestNow_103 ?_
        refine g_if_eqB C 114 dX3_bestNow_105 (by decide) (fun h105 => ?_) (fun h105 => ?_)
        · refine g_iinc4 C _ rfl dX3_bestNow_114 (nI_1 _) ?_
          refine g_goto C 7 dX3_bestNow_117 (by decide) ?_
          refine g_fg5 (g_fg6 ?_)
          exact ih (p + 1) q w ⟨by omega, by simp only [q_bestM, hx]; rw [if_neg (fun z => h105 z.2)], hb⟩ (by show 40 - (p + 1) < 40 - p; omega)
        · refine g_iload4 C dX3_bestNow_108 ?_
          refine g_istore2 C rfl dX3_bestNow_110 ?_
          refine g_iload5 C dX3_bestNow_111 ?_
          refine g_istore3 C rfl dX3_bestNow_113 ?_
          refine g_iinc4 C _ rfl dX3_bestNow_114 (nI_1 _) ?_
          refine g_goto C 7 dX3_bestNow_117 (by decide) ?_
          refine g_fg5 (g_fg6 ?_)
          exact ih (p + 1) (some p) _ ⟨by omega, by simp only [q_bestM, hx]; rw [if_pos ⟨h100, h105⟩], fun b h => by cases h; omega⟩ (by show 40 - (p + 1) < 40 - p; omega)
    · refine g_aload0 C dX3_bestNow_25 ?_
      refine g_iload1 C dX3_bestNow_26 ?_
      refine g_iload4 C dX3_bestNow_27 ?_
      refine g_iload6 C dX3_bestNow_29 ?_
      refine g_mcV3 C hK hP (c_X3_reason (by omega) (by omega) hki) wl_X3_115 wi_X3_reason wv_X3_reason wc_X3_reason (by decide +kernel) ⟨rfl, rfl, by decide, by decide⟩ rfl (by simp [Value.category]) ⟨by decide, by decide⟩ dX3_bestNow_31 ?_
      refine g_d1 (v := if q_ref (q_nz (A 0)) (i 3) (q_wr (A 3)) (nI f) p (3 - n) = 0 then q_fee (q_nz (A 0)) (i 3) f p (3 - n) else x) 51 (fun K34 => ?_) ?_
      · skip
        refine g_if_ne C 49 dX3_bestNow_34 (by decide) (fun h34 => ?_) (fun h34 => ?_)
        · refine g_iload5 C dX3_bestNow_49 ?_
          exact K34 _ (by exact (if_neg h34).symm)
        · refine g_aload0 C dX3_bestNow_37 ?_
          refine g_iload1 C dX3_bestNow_38 ?_
          refine g_iload4 C dX3_bestNow_39 ?_
          refine g_iload6 C dX3_bestNow_41 ?_
          refine g_mcV3 C hK hP (c_X3_price (by omega) (by omega) (by omega)) wl_X3_108 wi_X3_price wv_X3_price wc_X3_price (by decide +kernel) ⟨rfl, rfl, by decide, by decide⟩ rfl (by simp [Value.category]) ⟨by decide, by decide⟩ dX3_bestNow_43 ?_
          refine g_goto C 51 dX3_bestNow_46 (by decide) ?_
          exact K34 _ (by exact (if_pos h34).symm)
      refine g_istore5 C rfl dX3_bestNow_51 ?_
      refine g_iinc6 C (nI (3 - (n + 1))) rfl dX3_bestNow_53 (q_dn (by omega)) ?_
      refine g_goto C 20 dX3_bestNow_56 (by decide) ?_
      exact ih2 (n + 1) _ ⟨by omega, by rw [hx2]; rfl⟩ (by show 3 - (n + 1) < 3 - n; omega)

set_option maxHeartbeats 4000000 in
set_option maxRecDepth 100000 in
theorem c_X3_clearNow {l : Launch} {dC : Nat → ClassId} {dI : Nat → Nat → Nat} {cI cL cJ : ClassId} {o : Nat} {t : Nat → Nat} {A : RW} {i : Nat → Int32} {h : Int64} {p : Nat} (hp : p < 40) : Met l yX3_clearNow (.code yX3_clearNow cX3_clearNow 5 (some .int) :: WG) (rmL 1) (va_Pc [.ref o, .int (nI p)] (MDP dC dI cI cL cJ o t A i h)) (bq_S (.int (q_yoM (q_nz (A 0)) (A 0 550) p 3))) 0 0 (fun _ => False) := by
  refine bq_of [some (.ref o), some (.int (nI p)), none, none, none] rfl rfl (Nat.le_of_ble_eq_true rfl) (by decide) ?_
  intro P_ E_ s M_ B_ T_ K_ C hv
  obtain ⟨hP, hK⟩ := hv
  refine g_aload0 C dX3_clearNow_0 ?_
  refine g_get (ci := 3) (T := TX3) (N := 16) C inX3 hK hP 0 rfl rfl 0 (by decide) wf_X3_7 ⟨rfl, rfl, rfl⟩ rfl dX3_clearNow_1 ?_
  refine g_sipush C (nI 550) (by decide) dX3_clearNow_4 ?_
  refine g_zal C hK hP (by omega) (rfl) dX3_clearNow_7 ?_
  refine g_istore2 C rfl dX3_clearNow_8 ?_
  refine g_iconst C (nI 0) (by decide) dX3_clearNow_9 ?_
  refine g_istore3 C rfl dX3_clearNow_10 ?_
  refine g_lp2 (fun (j : Nat) (x : Int32) => j ≤ 3 ∧ x = q_yoM (q_nz (A 0)) (A 0 550) p j) (fun (j : Nat) (x : Int32) => 3 - j) (fun (j : Nat) (x : Int32) => [some (.ref o), some (.int (nI p)), some (.int x), some (.int (nI j)), none]) 0 _ ⟨by omega, rfl⟩ rfl ?_
  rintro j x ⟨hj, hx⟩ ih
  try dsimp only at ih ⊢
  refine g_iload3 C dX3_clearNow_11 ?_
  refine g_iconst C (nI 3) (by decide) dX3_clearNow_12 ?_
  refine g_icmp_geN C (by omega) (by omega) 75 dX3_clearNow_13 (by decide) (fun h13 => ?_) (fun h13 => ?_)
  · refine g_iload2 C dX3_clearNow_75 ?_
    exact g_ireti C (by rw [hx, show j = 3 by omega]) dX3_clearNow_76
  · refine g_aload0 C dX3_clearNow_16 ?_
    refine g_get (ci := 3) (T := TX3) (N := 16) C inX3 hK hP 0 rfl rfl 0 (by decide) wf_X3_7 ⟨rfl, rfl, rfl⟩ rfl dX3_clearNow_17 ?_
    refine g_sipush C (nI 280) (by decide) dX3_clearNow_20 ?_
    refine g_iconst C (nI 3) (by decide) dX3_clearNow_23 ?_
    refine g_iload1 C dX3_clearNow_24 ?_
    refine g_imulN C dX3_clearNow_25 ?_
    refine g_iaddN C dX3_clearNow_26 ?_
    refine g_iload3 C dX3_clearNow_27 ?_
    refine g_iaddN C dX3_clearNow_28 ?_
    refine g_iald C hK hP 1 0 rfl rfl (by omega) (by decide) dX3_clearNow_29 ?_
    refine g_aload0 C dX3_clearNow_30 ?_
    refine g_iload1 C dX3_clearNow_31 ?_
    refine g_mcV1 C hK hP (c_X3_rest (by omega)) wl_X3_48 wi_X3_rest wv_X3_rest wc_X3_rest (by decide +kernel) ⟨rfl, rfl, by decide, by decide⟩ rfl (by simp [Value.category]) ⟨by decide, by decide⟩ dX3_clearNow_32 ?_
    refine g_iadd C dX3_clearNow_35 ?_
    refine g_istore4 C rfl dX3_clearNow_36 ?_
    refine g_aload0 C dX3_clearNow_38 ?_
    refine g_get (ci := 3) (T := TX3) (N := 16) C inX3 hK hP 0 rfl rfl 0 (by decide) wf_X3_7 ⟨rfl, rfl, rfl⟩ rfl dX3_clearNow_39 ?_
    refine g_sipush C (nI 160) (by decide) dX3_clearNow_42 ?_
    refine g_iconst C (nI 3) (by decide) dX3_clearNow_45 ?_
    refine g_iload1 C dX3_clearNow_46 ?_
    refine g_imulN C dX3_clearNow_47 ?_
    refine g_iaddN C dX3_clearNow_48 ?_
    refine g_iload3 C dX3_clearNow_49 ?_
    refine g_iaddN C dX3_clearNow_50 ?_
    refine g_zal C hK hP (by omega) (zr7 (k := p * 3 + j) (by omega) (by omega)) dX3_clearNow_51 ?_
    refine g_iconst C (-1) (by decide) dX3_clearNow_52 ?_
    refine g_d2 (v := if (q_nz (A 0)) 7 (p * 3 + j) ≠ -1 ∧ x < (q_nz (A 0)) 8 (p * 3 + j) + q_yr (q_nz (A 0)) p then (q_nz (A 0)) 8 (p * 3 + j) + q_yr (q_nz (A 0)) p else x) 68 (fun K53 => ?_) ?_
    · skip
      refine g_icmp_eq C 67 dX3_clearNow_53 (by decide) (fun h53 => ?_) (fun h53 => ?_)
      · refine g_iload2 C dX3_clearNow_67 ?_
        exact K53 _ (by exact (if_neg (fun z => z.1 h53)).symm)
      · refine g_iload4 C dX3_clearNow_56 ?_
        refine g_iload2 C dX3_clearNow_58 ?_
        refine g_icmp_le C 67 dX3_clearNow_59 (by decide) (fun h59 => ?_) (fun h59 => ?_)
        · refine g_iload2 C dX3_clearNow_67 ?_
          exact K53 _ (by rw [zr8 (z := A 0) (x := 280 + 3 * p + j) (k := p * 3 + j) (by omega) (by omega) h53] at h59; exact (if_neg (fun z => absurd z.2 (Int32.not_lt.mpr h59))).symm)
        · refine g_iload4 C dX3_clearNow_62 ?_
          refine g_goto C 68 dX3_clearNow_64 (by decide) ?_
          exact K53 _ (by rw [zr8 (z := A 0) (x := 280 + 3 * p + j) (k := p * 3 + j) (by omega) (by omega) h53] at h59 ⊢; exact (if_pos ⟨h53, Int32.not_le.mp h59⟩).symm)
    refine g_istore2 C rfl dX3_clearNow_68 ?_
    refine g_iinc3 C _ rfl dX3_clearNow_69 (nI_1 _) ?_
    refine g_goto C 11 dX3_clearNow_72 (by decide) ?_
    refine g_fg4 ?_
    exact ih (j + 1) _ ⟨by omega, by rw [hx]; rfl⟩ (by show 3 - (j + 1) < 3 - j; omega)

set_option maxHeartbeats 4000000 in
set_option maxRecDepth 100000 in
theorem c_X3_meanNow {l : Launch} {dC : Nat → ClassId} {dI : Nat → Nat → Nat} {cI cL cJ : ClassId} {o : Nat} {t : Nat → Nat} {A : RW} {i : Nat → Int32} {h : Int64} (hnn : q_nM (q_nz (A 0)) 120 ≠ 0 → vf_n64 (FP.ddiv (FP.i2d (q_fsM (q_nz (A 0)) 120)) (FP.i2d (nI (q_nM (q_nz (A 0)) 120))))) : Met l yX3_meanNow (.code yX3_meanNow cX3_meanNow 4 (some .double) :: WG) (rmL 0) (va_Pc [.ref o] (MDP dC dI cI cL cJ o t A i h)) (bq_S (.double (q_meanM (q_nz (A 0))))) 0 0 (fun _ => False) := by
  refine bq_of [some (.ref o), none, none, none] rfl rfl (Nat.le_of_ble_eq_true rfl) (by decide) ?_
  intro P_ E_ s M_ B_ T_ K_ C hv
  obtain ⟨hP, hK⟩ := hv
  refine g_iconst C (nI 0) (by decide) dX3_meanNow_0 ?_
  refine g_istore1 C rfl dX3_meanNow_1 ?_
  refine g_iconst C (nI 0) (by decide) dX3_meanNow_2 ?_
  refine g_istore2 C rfl dX3_meanNow_3 ?_
  refine g_iconst C (nI 0) (by decide) dX3_meanNow_4 ?_
  refine g_istore3 C rfl dX3_meanNow_5 ?_
  refine g_lp3 (fun (k : Nat) (x : Int32) (n : Nat) => k ≤ 120 ∧ x = q_fsM (q_nz (A 0)) k ∧ n = q_nM (q_nz (A 0)) k) (fun (k : Nat) (x : Int32) (n : Nat) => 120 - k) (fun (k : Nat) (x : Int32) (n : Nat) => [some (.ref o), some (.int x), some (.int (nI n)), some (.int (nI k))]) 0 (nI 0) 0 ⟨by omega, rfl, rfl⟩ rfl ?_
  rintro k x n ⟨hk, hx, hn⟩ ih
  try dsimp only at ih ⊢
  refine g_iload3 C dX3_meanNow_6 ?_
  refine g_bipush C (nI 120) (by decide) dX3_meanNow_7 ?_
  refine g_icmp_geN C (by omega) (by omega) 71 dX3_meanNow_9 (by decide) (fun h9 => ?_) (fun h9 => ?_)
  · obtain rfl : k = 120 := by omega
    subst hx
    subst hn
    have hn9 : q_nM (q_nz (A 0)) 120 ≤ 120 := q_cn_le _ _
    refine g_iload2 C dX3_meanNow_71 ?_
    refine g_if_neN C (by omega) 79 dX3_meanNow_72 (by decide) (fun h72 => ?_) (fun h72 => ?_)
    · refine g_iload1 C dX3_meanNow_79 ?_
      refine g_i2d C dX3_meanNow_80 ?_
      refine g_iload2 C dX3_meanNow_81 ?_
      refine g_i2d C dX3_meanNow_82 ?_
      refine g_ddiv C (hnn h72) dX3_meanNow_83 ?_
      exact g_dret C (by unfold q_meanM; exact (if_neg h72).symm) dX3_meanNow_84
    · refine g_dconst0 C dX3_meanNow_75 ?_
      refine g_goto C 84 dX3_meanNow_76 (by decide) ?_
      exact g_dret C (by unfold q_meanM; exact (if_pos h72).symm) dX3_meanNow_84
  · refine g_iload1 C dX3_meanNow_12 ?_
    refine g_aload0 C dX3_meanNow_13 ?_
    refine g_get (ci := 3) (T := TX3) (N := 16) C inX3 hK hP 0 rfl rfl 0 (by decide) wf_X3_7 ⟨rfl, rfl, rfl⟩ rfl dX3_meanNow_14 ?_
    refine g_sipush C (nI 160) (by decide) dX3_meanNow_17 ?_
    refine g_iload3 C dX3_meanNow_20 ?_
    refine g_iaddN C dX3_meanNow_21 ?_
    refine g_zal C hK hP (by omega) (zr7 (k := k) (by omega) (by omega)) dX3_meanNow_22 ?_
    refine g_iconst C (-1) (by decide) dX3_meanNow_23 ?_
    refine g_d2 (v := if (q_nz (A 0)) 7 k = -1 then nI 0 else (q_nz (A 0)) 9 k) 41 (fun K24 => ?_) ?_
    · skip
      refine g_icmp_ne C 31 dX3_meanNow_24 (by decide) (fun h24 => ?_) (fun h24 => ?_)
      · refine g_aload0 C dX3_meanNow_31 ?_
        refine g_get (ci := 3) (T := TX3) (N := 16) C inX3 hK hP 0 rfl rfl 0 (by decide) wf_X3_7 ⟨rfl, rfl, rfl⟩ rfl dX3_meanNow_32 ?_
        refine g_sipush C (nI 400) (by decide) dX3_meanNow_35 ?_
        refine g_iload3 C dX3_meanNow_38 ?_
        refine g_iaddN C dX3_meanNow_39 ?_
        refine g_zal C hK hP (by omega) (zr9 (k := k) (by omega) (by omega) (h24)) dX3_meanNow_40 ?_
        exact K24 _ (by exact (if_neg h24).symm)
      · refine g_iconst C (nI 0) (by decide) dX3_meanNow_27 ?_
        refine g_goto C 41 dX3_meanNow_28 (by decide) ?_
        exact K24 _ (by exact (if_pos h24).symm)
    refine g_iadd C dX3_meanNow_41 ?_
    refine g_istore1 C rfl dX3_meanNow_42 ?_
    refine g_iload2 C dX3_meanNow_43 ?_
    refine g_aload0 C dX3_meanNow_44 ?_
    refine g_get (ci := 3) (T := TX3) (N := 16) C inX3 hK hP 0 rfl rfl 0 (by decide) wf_X3_7 ⟨rfl, rfl, rfl⟩ rfl dX3_meanNow_45 ?_
    refine g_sipush C (nI 160) (by decide) dX3_meanNow_48 ?_
    refine g_iload3 C dX3_meanNow_51 ?_
    refine g_iaddN C dX3_meanNow_52 ?_
    refine g_zal C hK hP (by omega) (zr7 (k := k) (by omega) (by omega)) dX3_meanNow_53 ?_
    refine g_iconst C (-1) (by decide) dX3_meanNow_54 ?_
    refine g_d2 (v := nI (if (q_nz (A 0)) 7 k ≠ -1 then 1 else 0)) 63 (fun K55 => ?_) ?_
    · skip
      refine g_icmp_ne C 62 dX3_meanNow_55 (by decide) (fun h55 => ?_) (fun h55 => ?_)
      · refine g_iconst C (nI 1) (by decide) dX3_meanNow_62 ?_
        exact K55 _ (by simp [h55])
      · refine g_iconst C (nI 0) (by decide) dX3_meanNow_58 ?_
        refine g_goto C 63 dX3_meanNow_59 (by decide) ?_
        exact K55 _ (by simp [h55])
    refine g_iaddN C dX3_meanNow_63 ?_
    refine g_istore2 C rfl dX3_meanNow_64 ?_
    refine g_iinc3 C _ rfl dX3_meanNow_65 (nI_1 _) ?_
    refine g_goto C 6 dX3_meanNow_68 (by decide) ?_
    exact ih (k + 1) _ _ ⟨by omega, by rw [hx]; rfl, by rw [hn]; rfl⟩ (by show 120 - (k + 1) < 120 - k; omega)
