/-- the loop over a list's entries -/
def LDS (d0 : RW) (y : Int32) (L : List QE) (A : RW) (j : Nat) (gv : Int32) : Prop := j ≤ L.length ∧ q_ldn d0 y L j = some (q_nz (A 0)) ∧ (gv = nI 1 ∨ (gv = nI 0 ∧ q_ldn d0 y L (j + 1) = none)) ∧ INV (q_nz (A 0)) ∧ A 0 550 = y
theorem LDS_no {d0 : RW} {y : Int32} {L : List QE} {A A9 : RW} {j : Nat} {gv : Int32} {e : QE} (h : LDS d0 y L A j gv) (he : L[j]? = some e) (hn : q_ldE (q_nz (A 0)) y e = none) (h0 : A9 0 = A 0) : LDS d0 y L A9 j (nI 0) :=
  ⟨h.1, by rw [h0]; exact h.2.1, Or.inr ⟨rfl, by rw [q_ldn_s h.2.1 he]; exact hn⟩, by rw [h0]; exact h.2.2.2.1, by rw [h0]; exact h.2.2.2.2⟩
theorem LDS_yes {d0 : RW} {y : Int32} {L : List QE} {A A9 : RW} {j : Nat} {gv : Int32} {e : QE} (h : LDS d0 y L A j gv) (he : L[j]? = some e) (hn : q_ldE (q_nz (A 0)) y e = some (q_nz (A9 0))) (hi : INV (q_nz (A9 0))) (hy : A9 0 550 = y) : LDS d0 y L A9 (j + 1) (nI 1) :=
  ⟨(List.getElem?_eq_some_iff.mp he).1, by rw [q_ldn_s h.2.1 he]; exact hn, Or.inl rfl, hi, hy⟩
theorem q_ldE_b {d : RW} {y : Int32} {f p dep : Nat} : q_ldE d y (0, f, p, dep) = if q_ref d y (q_rc d) (nI f) p dep = nI 0 then some (q_addB d y f p dep) else none := rfl
theorem q_ldE_r {d : RW} {y : Int32} {rs f p dep : Nat} (h : rs ≠ 0) : q_ldE d y (rs, f, p, dep) = if d 3 p ≠ nI 3 ∧ d 4 p = -1 ∧ ¬ q_oth (q_hold d y p) (nI f) then some (q_addR d y f p dep) else none := if_neg h
theorem bI_y {P : Prop} [Decidable P] (h : P) : bI P = nI 1 := (bI_t h).symm
theorem bI_n {P : Prop} [Decidable P] (h : ¬ P) : bI P = nI 0 := (bI_f h).symm
theorem ENA_cong {E : List QE} {A A9 : RW} (h : ENA E A) (h9 : ∀ j, 5 ≤ j → A9 j = A j) : ENA E A9 := fun j e he => by
  rw [h9 5 (by decide), h9 6 (by decide), h9 7 (by decide), h9 8 (by decide)]
  exact h j e he

set_option maxHeartbeats 4000000 in
set_option maxRecDepth 100000 in
theorem c_X3_load_no {l : Launch} {dC : Nat → ClassId} {dI : Nat → Nat → Nat} {cI cL cJ : ClassId} {o : Nat} {t : Nat → Nat} {A : RW} {i : Nat → Int32} {h : Int64} {tx : Nat → Nat} {len n : Nat} (hn : n ≤ 6) (hi0 : i 0 = nI n) (hki : INV (q_nz (A 0))) (hy : nI 0 ≤ A 0 550) (hl : len ≤ 60) (hlen : i 1 = nI len) (htx : ∀ j, j < len → A 2 j = nI (tx j) ∧ 33 ≤ tx j ∧ tx j ≤ 126) (hw : q_whole tx len = none) : Met l yX3_load (.code yX3_load cX3_load 5 (some .int) :: WG) (rmL 5) (va_Pc [.ref o] (MDM dC dI cI cL cJ o t A i h)) (bq_M (some (.int (nI 0))) (fun H => ∃ (A9 : RW) (i9 : Nat → Int32) (h9 : Int64), va_P (dC, dI) vwCl (MW cI o t A9 i9 h9) H ∧ A9 0 = A 0 ∧ A9 1 = A 1 ∧ A9 2 = A 2 ∧ i9 0 = i 0 ∧ i9 1 = i 1 ∧ i9 2 = nI 1) (fun q => q ∈ MA o t)) 0 0 ((fun q => q ∈ MA o t)) := by
  refine bq_of [some (.ref o), none, none, none, none] rfl rfl (Nat.le_of_ble_eq_true rfl) (by decide) ?_
  intro P_ E_ s M_ B_ T_ K_ C hv
  obtain ⟨hP, hD, hK⟩ := hv
  have hS : va_S (fun q => q ∈ MA o t) s.heap s.heap [] := va_S.rf
  refine g_aload0 C dX3_load_0 ?_
  refine g_mV (As := []) C 0 rfl (c_X3_look hki) wl_X3_92 wi_X3_look wv_X3_look wn_X3 wc_X3_look (by decide +kernel) ⟨rfl, rfl, by decide, by decide⟩ MDM_bl (va_recv (ci := 3) (q0 := 0) hK hP rfl rfl) (MDM_at hK hP hD) rfl rfl (by simp [Value.category]) ⟨by decide, by decide⟩ hS (fun _ h => h) dX3_load_1 (fun H locs hP _ _ hS => ?_)
  obtain ⟨A1, i1, hP, e0, e1, e2, f0, f1, f2, f3, hw1⟩ := hP
  have hD : va_D (fun q => q ∈ MA o t) (MW cI o t A1 i1 h) := MW_D hD
  refine g_aload0 C dX3_load_4 ?_
  refine g_mV (As := []) C 0 rfl (c_X3_read (A := A1) (i := i1) hl (f1.trans hlen) (by rw [e2]; exact htx)) wl_X3_143 wi_X3_read wv_X3_read wn_X3 wc_X3_read (by decide +kernel) ⟨rfl, rfl, by decide, by decide⟩ MDM_bl (va_recv (ci := 3) (q0 := 0) hK hP rfl rfl) (MDM_at hK hP hD) rfl rfl (by simp [Value.category]) ⟨by decide, by decide⟩ hS (fun _ h => h) dX3_load_5 (fun H locs hP _ _ hS => ?_)
  obtain ⟨A9, i9, hP, ha9, hi9, hyes, hno⟩ := hP
  have hD : va_D (fun q => q ∈ MA o t) (MW cI o t A9 i9 h) := MW_D hD
  refine g_pop C rfl dX3_load_8 ?_
  refine g_aload0 C dX3_load_9 ?_
  refine g_get (ci := 3) (T := TX3) (N := 16) C inX3 hK hP 0 rfl rfl 14 (by decide) wf_X3_136 ⟨rfl, rfl, rfl⟩ rfl dX3_load_10 ?_
  rw [hno hw]
  refine g_if_neN C (by omega) 22 dX3_load_13 (by decide) (fun h13 => ?_) (fun h13 => ?_)
  · exact absurd rfl h13
  · refine g_aload0 C dX3_load_16 ?_
    refine g_iconst C (nI 1) (by decide) dX3_load_17 ?_
    refine g_mV (As := [.int (nI 1)]) C 1 rfl (c_X3_fails) wl_X3_95 wi_X3_fails wv_X3_fails wn_X3 wc_X3_fails (by decide +kernel) ⟨rfl, rfl, by decide, by decide⟩ MDM_bl (va_recv (ci := 3) (q0 := 0) hK hP rfl rfl) (MDM_at hK hP hD) rfl rfl (by simp [Value.category]) ⟨by decide, by decide⟩ hS (fun _ h => h) dX3_load_18 (fun H locs hP _ _ hS => ?_)
    have hP : va_P (dC, dI) vwCl (MW cI o t (A9) (upd i9 2 (nI 1)) (h)) H := hP
    have hD : va_D (fun q => q ∈ MA o t) (MW cI o t (A9) (upd i9 2 (nI 1)) (h)) := hD.fst rfl
    exact g_iretM C ⟨A9, upd i9 2 (nI 1), h, hP, (ha9 0 (by decide)).trans e0, (ha9 1 (by decide)).trans e1, (ha9 2 (by decide)).trans e2, (hi9 0 (by decide) (by decide)).trans f0, (hi9 1 (by decide) (by decide)).trans f1, rfl⟩ hS rfl dX3_load_21

set_option maxHeartbeats 4000000 in
set_option maxRecDepth 100000 in
theorem c_X3_load_ok {l : Launch} {dC : Nat → ClassId} {dI : Nat → Nat → Nat} {cI cL cJ : ClassId} {o : Nat} {t : Nat → Nat} {A : RW} {i : Nat → Int32} {h : Int64} {tx : Nat → Nat} {len n : Nat} (hn : n ≤ 6) (hi0 : i 0 = nI n) (hki : INV (q_nz (A 0))) (hy : nI 0 ≤ A 0 550) (hl : len ≤ 60) (hlen : i 1 = nI len) (htx : ∀ j, j < len → A 2 j = nI (tx j) ∧ 33 ≤ tx j ∧ tx j ≤ 126) {L : List QE} (hw : q_whole tx len = some L) : Met l yX3_load (.code yX3_load cX3_load 5 (some .int) :: WG) (rmL 5) (va_Pc [.ref o] (MDM dC dI cI cL cJ o t A i h)) (bq_M (some (.int (nI (q_ldk (q_nz (A 0)) (A 0 550) L)))) (fun H => ∃ (A9 : RW) (i9 : Nat → Int32) (h9 : Int64), va_P (dC, dI) vwCl (MW cI o t A9 i9 h9) H ∧ q_nz (A9 0) = q_ldd (q_nz (A 0)) (A 0 550) L ∧ A9 0 550 = A 0 550 ∧ A9 1 = q_rs (A 1) (A 0) n ∧ A9 2 = A 2 ∧ i9 0 = nI (min (n + 1) 6) ∧ i9 1 = nI 0 ∧ i9 2 = nI 0 ∧ INV (q_nz (A9 0))) (fun q => q ∈ MA o t)) 0 0 ((fun q => q ∈ MA o t)) := by
  refine bq_of [some (.ref o), none, none, none, none] rfl rfl (Nat.le_of_ble_eq_true rfl) (by decide) ?_
  intro P_ E_ s M_ B_ T_ K_ C hv
  obtain ⟨hP, hD, hK⟩ := hv
  have hS : va_S (fun q => q ∈ MA o t) s.heap s.heap [] := va_S.rf
  refine g_aload0 C dX3_load_0 ?_
  refine g_mV (As := []) C 0 rfl (c_X3_look hki) wl_X3_92 wi_X3_look wv_X3_look wn_X3 wc_X3_look (by decide +kernel) ⟨rfl, rfl, by decide, by decide⟩ MDM_bl (va_recv (ci := 3) (q0 := 0) hK hP rfl rfl) (MDM_at hK hP hD) rfl rfl (by simp [Value.category]) ⟨by decide, by decide⟩ hS (fun _ h => h) dX3_load_1 (fun H locs hP _ _ hS => ?_)
  obtain ⟨A1, i1, hP, e0, e1, e2, f0, f1, f2, f3, hw1⟩ := hP
  have hD : va_D (fun q => q ∈ MA o t) (MW cI o t A1 i1 h) := MW_D hD
  refine g_aload0 C dX3_load_4 ?_
  refine g_mV (As := []) C 0 rfl (c_X3_read (A := A1) (i := i1) hl (f1.trans hlen) (by rw [e2]; exact htx)) wl_X3_143 wi_X3_read wv_X3_read wn_X3 wc_X3_read (by decide +kernel) ⟨rfl, rfl, by decide, by decide⟩ MDM_bl (va_recv (ci := 3) (q0 := 0) hK hP rfl rfl) (MDM_at hK hP hD) rfl rfl (by simp [Value.category]) ⟨by decide, by decide⟩ hS (fun _ h => h) dX3_load_5 (fun H locs hP _ _ hS => ?_)
  obtain ⟨A9, i9, hP, ha9, hi9, hyes, hno⟩ := hP
  have hD : va_D (fun q => q ∈ MA o t) (MW cI o t A9 i9 h) := MW_D hD
  refine g_pop C rfl dX3_load_8 ?_
  refine g_aload0 C dX3_load_9 ?_
  refine g_get (ci := 3) (T := TX3) (N := 16) C inX3 hK hP 0 rfl rfl 14 (by decide) wf_X3_136 ⟨rfl, rfl, rfl⟩ rfl dX3_load_10 ?_
  obtain ⟨h95, h94, hen⟩ := hyes L hw
  rw [h95]
  refine g_if_neN C (by omega) 22 dX3_load_13 (by decide) (fun h13 => ?_) (fun h13 => ?_)
  · refine g_aload0 C dX3_load_22 ?_
    refine g_mV (As := []) C 0 rfl (c_X3_save hn ((hi9 0 (by decide) (by decide)).trans (f0.trans hi0))) wl_X3_98 wi_X3_save wv_X3_save wn_X3 wc_X3_save (by decide +kernel) ⟨rfl, rfl, by decide, by decide⟩ MDM_bl (va_recv (ci := 3) (q0 := 0) hK hP rfl rfl) (MDM_at hK hP hD) rfl rfl (by simp [Value.category]) ⟨by decide, by decide⟩ hS (fun _ h => h) dX3_load_23 (fun H locs hP _ _ hS => ?_)
    have hD : va_D (fun q => q ∈ MA o t) (MW cI o t (q_s1 A9 1 (q_rs (A9 1) (A9 0) n)) (upd i9 0 (nI (min (n + 1) 6))) h) := MW_D hD
    refine g_aload0 C dX3_load_26 ?_
    refine g_iconst C (nI 0) (by decide) dX3_load_27 ?_
    refine g_put (ci := 3) (T := TX3) (N := 16) C inX3 tyX3 tyX3_ok nmX3 hK hP hD hS 0 rfl rfl 4 (by decide) wf_X3_130 ⟨rfl, rfl, rfl⟩ rfl rfl rfl (Nat.le_of_ble_eq_true rfl) dX3_load_28 (fun H locs hP hD hS => ?_)
    have hP : va_P (dC, dI) vwCl (MW cI o t (q_s1 A9 1 (q_rs (A9 1) (A9 0) n)) (upd (upd i9 0 (nI (min (n + 1) 6))) 1 (nI 0)) (h)) H := hP
    have hD : va_D (fun q => q ∈ MA o t) (MW cI o t (q_s1 A9 1 (q_rs (A9 1) (A9 0) n)) (upd (upd i9 0 (nI (min (n + 1) 6))) 1 (nI 0)) (h)) := hD.fst rfl
    have g0 : (upd (upd i9 0 (nI (min (n + 1) 6))) 1 (nI 0)) 0 = nI (min (n + 1) 6) := rfl
    have g1 : (upd (upd i9 0 (nI (min (n + 1) 6))) 1 (nI 0)) 1 = nI 0 := rfl
    have g2 : (upd (upd i9 0 (nI (min (n + 1) 6))) 1 (nI 0)) 2 = nI 0 := (hi9 2 (by decide) (by decide)).trans f2
    have g3 : (upd (upd i9 0 (nI (min (n + 1) 6))) 1 (nI 0)) 3 = A 0 550 := (hi9 3 (by decide) (by decide)).trans f3
    have g4 : (upd (upd i9 0 (nI (min (n + 1) 6))) 1 (nI 0)) 4 = nI L.length := h94
    generalize upd (upd i9 0 (nI (min (n + 1) 6))) 1 (nI 0) = I2 at hP hD g0 g1 g2 g3 g4
    have b0 : (q_s1 A9 1 (q_rs (A9 1) (A9 0) n)) 0 = A 0 := (ha9 0 (by decide)).trans e0
    have b1 : (q_s1 A9 1 (q_rs (A9 1) (A9 0) n)) 1 = q_rs (A 1) (A 0) n := by show q_rs (A9 1) (A9 0) n = _; rw [ha9 0 (by decide), ha9 1 (by decide), e0, e1]
    have b2 : (q_s1 A9 1 (q_rs (A9 1) (A9 0) n)) 2 = A 2 := (ha9 2 (by decide)).trans e2
    have b5 : ENA L (q_s1 A9 1 (q_rs (A9 1) (A9 0) n)) := ENA_cong hen (fun q h5 => if_neg (by omega))
    generalize q_s1 A9 1 (q_rs (A9 1) (A9 0) n) = A3 at hP hD b0 b1 b2 b5
    refine g_iconst C (nI 0) (by decide) dX3_load_31 ?_
    refine g_istore1 C rfl dX3_load_32 ?_
    refine g_iconst C (nI 1) (by decide) dX3_load_33 ?_
    refine g_istore2 C rfl dX3_load_34 ?_
    refine g_lpH (A1 := RW × Nat × Int32) (fun a H locs => LDS (q_nz (A 0)) (A 0 550) L a.1 a.2.1 a.2.2 ∧ a.1 1 = q_rs (A 1) (A 0) n ∧ a.1 2 = A 2 ∧ ENA L a.1 ∧ va_P (dC, dI) vwCl (MW cI o t a.1 I2 h) H ∧ va_D (fun q => q ∈ MA o t) (MW cI o t a.1 I2 h) ∧ va_S (fun q => q ∈ MA o t) s.heap H locs) (fun a => 2 * (L.length - a.2.1) + (if a.2.2 = 0 then 0 else 1)) (fun a => [some (.ref o), some (.int (nI a.2.1)), some (.int a.2.2), none, none]) (A3, 0, nI 1) ⟨⟨Nat.zero_le _, by show q_ldn _ _ L 0 = some (q_nz (A3 0)); rw [b0]; rfl, Or.inl rfl, by show INV (q_nz (A3 0)); rw [b0]; exact hki, by show A3 0 550 = _; rw [b0]⟩, b1, b2, b5, hP, hD, hS⟩ rfl ?_
    rintro ⟨A2, j, gv⟩ H locs ⟨hld, hb1, hb2, hen2, hP, hD, hS⟩ ih
    try dsimp only at hld hb1 hb2 hen2 hP hD hS ih ⊢
    have hL12 := (q_whole_ok hl hw).1
    have hjL := hld.1
    refine g_iload2 C dX3_load_35 ?_
    refine g_if_eq C 160 dX3_load_36 (by decide) (fun h36 => ?_) (fun h36 => ?_)
    · refine g_iload1 C dX3_load_160 ?_
      obtain ⟨z1, z2⟩ := q_ld_end hld.1 hld.2.1 (Or.inr (by rcases hld.2.2.1 with z | z <;> first | exact z.2 | exact absurd (z.symm.trans h36) (by decide)))
      rw [z1.symm]
      exact g_iretM C ⟨A2, I2, h, hP, z2.symm, hld.2.2.2.2, hb1, hb2, g0, g1, g2, hld.2.2.2.1⟩ hS rfl dX3_load_161
    · refine g_iload1 C dX3_load_39 ?_
      refine g_aload0 C dX3_load_40 ?_
      refine g_get (ci := 3) (T := TX3) (N := 16) C inX3 hK hP 0 rfl rfl 9 (by decide) wf_X3_133 ⟨rfl, rfl, rfl⟩ rfl dX3_load_41 ?_
      rw [g4]
      refine g_icmp_geN C (by omega) (by omega) 160 dX3_load_44 (by decide) (fun h44 => ?_) (fun h44 => ?_)
      · refine g_iload1 C dX3_load_160 ?_
        obtain ⟨z1, z2⟩ := q_ld_end hld.1 hld.2.1 (Or.inl (by omega))
        rw [z1.symm]
        exact g_iretM C ⟨A2, I2, h, hP, z2.symm, hld.2.2.2.2, hb1, hb2, g0, g1, g2, hld.2.2.2.1⟩ hS rfl dX3_load_161
      · have hjl : j < L.length := by omega
        obtain ⟨⟨rs, f, p, dep⟩, hej⟩ : ∃ e, L[j]? = some e := ⟨L[j], List.getElem?_eq_getElem hjl⟩
        have he9 : A2 5 j = nI rs ∧ A2 6 j = nI f ∧ A2 7 j = nI p ∧ A2 8 j = nI dep := hen2 j _ hej
        have hq8 : rs ≤ 1 ∧ f ≤ 9 ∧ p < 40 ∧ 1 ≤ dep ∧ dep ≤ 50 ∧ (rs = 0 → dep ≤ 3) := (q_whole_ok hl hw).2 _ (List.mem_of_getElem? hej)
        obtain ⟨hq1, hq2, hq3, hq4, hq5, hq6⟩ := hq8
        refine g_aload0 C dX3_load_47 ?_
        refine g_iconst C (-1) (by decide) dX3_load_48 ?_
        refine g_mV (As := [.int (-1)]) C 1 rfl (c_X3_walk (A := A2) hld.2.2.2.1.2.2.2.2.2.2.1) wl_X3_88 wi_X3_walk wv_X3_walk wn_X3 wc_X3_walk (by decide +kernel) ⟨rfl, rfl, by decide, by decide⟩ MDM_bl (va_recv (ci := 3) (q0 := 0) hK hP rfl rfl) (MDM_at hK hP hD) rfl rfl (by simp [Value.category]) ⟨by decide, by decide⟩ hS (fun _ h => h) dX3_load_49 (fun H locs hP _ _ hS => ?_)
        obtain ⟨w, u, hP, hw2⟩ := hP
        have hD : va_D (fun q => q ∈ MA o t) (MW cI o t (q_s2 A2 w u) I2 h) := MW_D hD
        refine g_aload0 C dX3_load_52 ?_
        refine g_get (ci := 3) (T := TX3) (N := 16) C inX3 hK hP 0 rfl rfl 11 (by decide) wf_X3_28 ⟨rfl, rfl, rfl⟩ rfl dX3_load_53 ?_
        refine g_iload1 C dX3_load_56 ?_
        refine g_iald C hK hP 7 0 rfl rfl (by omega) (by decide) dX3_load_57 ?_
        rw [show q_s2 A2 w u 6 j = nI f from he9.2.1]
        refine g_istore3 C rfl dX3_load_58 ?_
        refine g_aload0 C dX3_load_59 ?_
        refine g_get (ci := 3) (T := TX3) (N := 16) C inX3 hK hP 0 rfl rfl 12 (by decide) wf_X3_31 ⟨rfl, rfl, rfl⟩ rfl dX3_load_60 ?_
        refine g_iload1 C dX3_load_63 ?_
        refine g_iald C hK hP 8 0 rfl rfl (by omega) (by decide) dX3_load_64 ?_
        rw [show q_s2 A2 w u 7 j = nI p from he9.2.2.1]
        refine g_istore4 C rfl dX3_load_65 ?_
        refine g_aload0 C dX3_load_67 ?_
        refine g_get (ci := 3) (T := TX3) (N := 16) C inX3 hK hP 0 rfl rfl 10 (by decide) wf_X3_25 ⟨rfl, rfl, rfl⟩ rfl dX3_load_68 ?_
        refine g_iload1 C dX3_load_71 ?_
        refine g_iald C hK hP 6 0 rfl rfl (by omega) (by decide) dX3_load_72 ?_
        rw [show q_s2 A2 w u 5 j = nI rs from he9.1]
        refine g_if_neN C (by omega) 119 dX3_load_73 (by decide) (fun h73 => ?_) (fun h73 => ?_)
        · refine g_aload0 C dX3_load_119 ?_
          refine g_iload3 C dX3_load_120 ?_
          refine g_iload4 C dX3_load_121 ?_
          refine g_mcV2 C hK hP (c_X3_mayReserve (by omega) (by omega)) wl_X3_121 wi_X3_mayReserve wv_X3_mayReserve wc_X3_mayReserve (by decide +kernel) ⟨rfl, rfl, by decide, by decide⟩ rfl (by simp [Value.category]) ⟨by decide, by decide⟩ dX3_load_123 ?_
          refine g_top (y := bI (q_nz (A2 0) 3 p ≠ nI 3 ∧ q_nz (A2 0) 4 p = -1 ∧ ¬ q_oth (q_hold (q_nz (A2 0)) (A 0 550) p) (nI f))) (by rw [g3]; rfl) ?_
          refine g_istore2 C rfl dX3_load_126 ?_
          refine g_iload2 C dX3_load_127 ?_
          refine g_if_eqB C 145 dX3_load_128 (by decide) (fun h128 => ?_) (fun h128 => ?_)
          · refine g_iload1 C dX3_load_145 ?_
            refine g_iload2 C dX3_load_146 ?_
            refine g_d1 (v := nI (if q_nz (A2 0) 3 p ≠ nI 3 ∧ q_nz (A2 0) 4 p = -1 ∧ ¬ q_oth (q_hold (q_nz (A2 0)) (A 0 550) p) (nI f) then 1 else 0)) 155 (fun K147 => ?_) ?_
            · skip
              refine g_if_eqB C 154 dX3_load_147 (by decide) (fun h147 => ?_) (fun h147 => ?_)
              · refine g_iconst C (nI 0) (by decide) dX3_load_154 ?_
                exact K147 _ (by rw [if_neg h147])
              · refine g_iconst C (nI 1) (by decide) dX3_load_150 ?_
                refine g_goto C 155 dX3_load_151 (by decide) ?_
                exact K147 _ (by rw [if_pos h147])
            refine g_iaddN C dX3_load_155 ?_
            refine g_istore1 C rfl dX3_load_156 ?_
            refine g_goto C 35 dX3_load_157 (by decide) ?_
            refine g_fg3 (g_fg4 ?_)
            have hq9 : q_ldE (q_nz (A2 0)) (A 0 550) (rs, f, p, dep) = none := by rw [q_ldE_r h73]; exact if_neg h128
            have e9 : (if q_nz (A2 0) 3 p ≠ nI 3 ∧ q_nz (A2 0) 4 p = -1 ∧ ¬ q_oth (q_hold (q_nz (A2 0)) (A 0 550) p) (nI f) then 1 else 0) = 0 := if_neg h128
            rw [e9, bI_n h128]
            exact ih (q_s2 A2 w u, j + 0, nI 0) H locs ⟨LDS_no hld hej hq9 rfl, hb1, hb2, ENA_cong hen2 (fun q h5 => (if_neg (by omega)).trans (if_neg (by omega))), hP, hD, hS⟩ (by show 2 * (L.length - (j + 0)) + (if nI 0 = 0 then 0 else 1) < 2 * (L.length - j) + (if gv = 0 then 0 else 1); rw [if_neg h36, if_pos (show nI 0 = 0 from rfl)]; omega)
          · refine g_aload0 C dX3_load_131 ?_
            refine g_iload3 C dX3_load_132 ?_
            refine g_iload4 C dX3_load_133 ?_
            refine g_aload0 C dX3_load_135 ?_
            refine g_get (ci := 3) (T := TX3) (N := 16) C inX3 hK hP 0 rfl rfl 13 (by decide) wf_X3_34 ⟨rfl, rfl, rfl⟩ rfl dX3_load_136 ?_
            refine g_iload1 C dX3_load_139 ?_
            refine g_iald C hK hP 9 0 rfl rfl (by omega) (by decide) dX3_load_140 ?_
            rw [show q_s2 A2 w u 8 j = nI dep from he9.2.2.2]
            refine g_mV (As := [.int (nI f), .int (nI p), .int (nI dep)]) C 3 rfl (c_X3_reserves (by omega) (by omega) (by omega)) wl_X3_124 wi_X3_reserves wv_X3_reserves wn_X3 wc_X3_reserves (by decide +kernel) ⟨rfl, rfl, by decide, by decide⟩ MDM_bl (va_recv (ci := 3) (q0 := 0) hK hP rfl rfl) (MDM_at hK hP hD) rfl rfl (by simp [Value.category]) ⟨by decide, by decide⟩ hS (fun _ h => h) dX3_load_141 (fun H locs hP _ _ hS => ?_)
            rw [g3] at hP
            have hP : va_P (dC, dI) vwCl (MW cI o t (q_s1 (q_s2 A2 w u) 0 (q_zrs (A2 0) (A 0 550) f p dep)) (I2) (h)) H := hP
            have hD : va_D (fun q => q ∈ MA o t) (MW cI o t (q_s1 (q_s2 A2 w u) 0 (q_zrs (A2 0) (A 0 550) f p dep)) (I2) (h)) := hD.fst rfl
            refine g_pop C rfl dX3_load_144 ?_
            refine g_iload1 C dX3_load_145 ?_
            refine g_iload2 C dX3_load_146 ?_
            refine g_d1 (v := nI (if q_nz (A2 0) 3 p ≠ nI 3 ∧ q_nz (A2 0) 4 p = -1 ∧ ¬ q_oth (q_hold (q_nz (A2 0)) (A 0 550) p) (nI f) then 1 else 0)) 155 (fun K147 => ?_) ?_
            · skip
              refine g_if_eqB C 154 dX3_load_147 (by decide) (fun h147 => ?_) (fun h147 => ?_)
              · refine g_iconst C (nI 0) (by decide) dX3_load_154 ?_
                exact K147 _ (by rw [if_neg h147])
              · refine g_iconst C (nI 1) (by decide) dX3_load_150 ?_
                refine g_goto C 155 dX3_load_151 (by decide) ?_
                exact K147 _ (by rw [if_pos h147])
            refine g_iaddN C dX3_load_155 ?_
            refine g_istore1 C rfl dX3_load_156 ?_
            refine g_goto C 35 dX3_load_157 (by decide) ?_
            refine g_fg3 (g_fg4 ?_)
            have hz9 := nz_addR (n := dep) (show f < 10 by omega) (show p < 40 by omega) (show dep ≤ 50 by omega) hld.2.2.2.2 h128.2.1 h128.2.2
            have hq9 : q_ldE (q_nz (A2 0)) (A 0 550) (rs, f, p, dep) = some (q_nz ((q_s1 (q_s2 A2 w u) 0 (q_zrs (A2 0) (A 0 550) f p dep)) 0)) := by rw [q_ldE_r h73, if_pos h128]; exact congrArg some hz9.1.symm
            have hi9 : INV (q_nz ((q_s1 (q_s2 A2 w u) 0 (q_zrs (A2 0) (A 0 550) f p dep)) 0)) := by rw [show (q_s1 (q_s2 A2 w u) 0 (q_zrs (A2 0) (A 0 550) f p dep)) 0 = q_zrs (A2 0) (A 0 550) f p dep from rfl, hz9.1]; exact INV_addR hld.2.2.2.1
            have hy9 : (q_s1 (q_s2 A2 w u) 0 (q_zrs (A2 0) (A 0 550) f p dep)) 0 550 = A 0 550 := (zrs_y (by omega) (by omega)).trans hld.2.2.2.2
            have e9 : (if q_nz (A2 0) 3 p ≠ nI 3 ∧ q_nz (A2 0) 4 p = -1 ∧ ¬ q_oth (q_hold (q_nz (A2 0)) (A 0 550) p) (nI f) then 1 else 0) = 1 := if_pos h128
            rw [e9, bI_y h128]
            exact ih (q_s1 (q_s2 A2 w u) 0 (q_zrs (A2 0) (A 0 550) f p dep), j + 1, nI 1) H locs ⟨LDS_yes hld hej hq9 hi9 hy9, hb1, hb2, ENA_cong hen2 (fun q h5 => (if_neg (by omega)).trans ((if_neg (by omega)).trans (if_neg (by omega)))), hP, hD, hS⟩ (by show 2 * (L.length - (j + 1)) + (if nI 1 = 0 then 0 else 1) < 2 * (L.length - j) + (if gv = 0 then 0 else 1); rw [if_neg h36, if_neg (by decide)]; omega)
        · have hq7 := hq6 h73
          refine g_aload0 C dX3_load_76 ?_
          refine g_iload3 C dX3_load_77 ?_
          refine g_iload4 C dX3_load_78 ?_
          refine g_aload0 C dX3_load_80 ?_
          refine g_get (ci := 3) (T := TX3) (N := 16) C inX3 hK hP 0 rfl rfl 13 (by decide) wf_X3_34 ⟨rfl, rfl, rfl⟩ rfl dX3_load_81 ?_
          refine g_iload1 C dX3_load_84 ?_
          refine g_iald C hK hP 9 0 rfl rfl (by omega) (by decide) dX3_load_85 ?_
          rw [show q_s2 A2 w u 8 j = nI dep from he9.2.2.2]
          refine g_mcV3 C hK hP (c_X3_reason (by omega) (by omega) hld.2.2.2.1) wl_X3_115 wi_X3_reason wv_X3_reason wc_X3_reason (by decide +kernel) ⟨rfl, rfl, by decide, by decide⟩ rfl (by simp [Value.category]) ⟨by decide, by decide⟩ dX3_load_86 ?_
          refine g_top (y := q_ref (q_nz (A2 0)) (A 0 550) (q_rc (q_nz (A2 0))) (nI f) p dep) (by rw [g3]; exact q_ref_rc (q_wr_rc hw2 (by omega))) ?_
          refine g_d1 (v := bI (q_ref (q_nz (A2 0)) (A 0 550) (q_rc (q_nz (A2 0))) (nI f) p dep = nI 0)) 97 (fun K89 => ?_) ?_
          · skip
            refine g_if_ne C 96 dX3_load_89 (by decide) (fun h89 => ?_) (fun h89 => ?_)
            · refine g_iconst C (nI 0) (by decide) dX3_load_96 ?_
              exact K89 _ (bI_f (fun z => h89 z))
            · refine g_iconst C (nI 1) (by decide) dX3_load_92 ?_
              refine g_goto C 97 dX3_load_93 (by decide) ?_
              exact K89 _ (bI_t h89)
          refine g_istore2 C rfl dX3_load_97 ?_
          refine g_iload2 C dX3_load_98 ?_
          refine g_if_eqB C 145 dX3_load_99 (by decide) (fun h99 => ?_) (fun h99 => ?_)
          · refine g_iload1 C dX3_load_145 ?_
            refine g_iload2 C dX3_load_146 ?_
            refine g_d1 (v := nI (if q_ref (q_nz (A2 0)) (A 0 550) (q_rc (q_nz (A2 0))) (nI f) p dep = nI 0 then 1 else 0)) 155 (fun K147 => ?_) ?_
            · skip
              refine g_if_eqB C 154 dX3_load_147 (by decide) (fun h147 => ?_) (fun h147 => ?_)
              · refine g_iconst C (nI 0) (by decide) dX3_load_154 ?_
                exact K147 _ (by rw [if_neg h147])
              · refine g_iconst C (nI 1) (by decide) dX3_load_150 ?_
                refine g_goto C 155 dX3_load_151 (by decide) ?_
                exact K147 _ (by rw [if_pos h147])
            refine g_iaddN C dX3_load_155 ?_
            refine g_istore1 C rfl dX3_load_156 ?_
            refine g_goto C 35 dX3_load_157 (by decide) ?_
            refine g_fg3 (g_fg4 ?_)
            have hq9 : q_ldE (q_nz (A2 0)) (A 0 550) (rs, f, p, dep) = none := by subst h73; rw [q_ldE_b]; exact if_neg h99
            have e9 : (if q_ref (q_nz (A2 0)) (A 0 550) (q_rc (q_nz (A2 0))) (nI f) p dep = nI 0 then 1 else 0) = 0 := if_neg h99
            rw [e9, bI_n h99]
            exact ih (q_s2 A2 w u, j + 0, nI 0) H locs ⟨LDS_no hld hej hq9 rfl, hb1, hb2, ENA_cong hen2 (fun q h5 => (if_neg (by omega)).trans (if_neg (by omega))), hP, hD, hS⟩ (by show 2 * (L.length - (j + 0)) + (if nI 0 = 0 then 0 else 1) < 2 * (L.length - j) + (if gv = 0 then 0 else 1); rw [if_neg h36, if_pos (show nI 0 = 0 from rfl)]; omega)
          · refine g_aload0 C dX3_load_102 ?_
            refine g_iload3 C dX3_load_103 ?_
            refine g_iload4 C dX3_load_104 ?_
            refine g_aload0 C dX3_load_106 ?_
            refine g_get (ci := 3) (T := TX3) (N := 16) C inX3 hK hP 0 rfl rfl 13 (by decide) wf_X3_34 ⟨rfl, rfl, rfl⟩ rfl dX3_load_107 ?_
            refine g_iload1 C dX3_load_110 ?_
            refine g_iald C hK hP 9 0 rfl rfl (by omega) (by decide) dX3_load_111 ?_
            rw [show q_s2 A2 w u 8 j = nI dep from he9.2.2.2]
            refine g_mV (As := [.int (nI f), .int (nI p), .int (nI dep)]) C 3 rfl (c_X3_buries (by omega) (by omega) (by omega) (by omega)) wl_X3_118 wi_X3_buries wv_X3_buries wn_X3 wc_X3_buries (by decide +kernel) ⟨rfl, rfl, by decide, by decide⟩ MDM_bl (va_recv (ci := 3) (q0 := 0) hK hP rfl rfl) (MDM_at hK hP hD) rfl rfl (by simp [Value.category]) ⟨by decide, by decide⟩ hS (fun _ h => h) dX3_load_112 (fun H locs hP _ _ hS => ?_)
            rw [g3] at hP
            have hP : va_P (dC, dI) vwCl (MW cI o t (q_s1 (q_s2 A2 w u) 0 (q_zb (A2 0) (q_fee (q_nz (A2 0)) (A 0 550) f p dep) f (3 * p + dep - 1))) (I2) (h)) H := hP
            have hD : va_D (fun q => q ∈ MA o t) (MW cI o t (q_s1 (q_s2 A2 w u) 0 (q_zb (A2 0) (q_fee (q_nz (A2 0)) (A 0 550) f p dep) f (3 * p + dep - 1))) (I2) (h)) := hD.fst rfl
            refine g_pop C rfl dX3_load_115 ?_
            refine g_goto C 145 dX3_load_116 (by decide) ?_
            refine g_iload1 C dX3_load_145 ?_
            refine g_iload2 C dX3_load_146 ?_
            refine g_d1 (v := nI (if q_ref (q_nz (A2 0)) (A 0 550) (q_rc (q_nz (A2 0))) (nI f) p dep = nI 0 then 1 else 0)) 155 (fun K147 => ?_) ?_
            · skip
              refine g_if_eqB C 154 dX3_load_147 (by decide) (fun h147 => ?_) (fun h147 => ?_)
              · refine g_iconst C (nI 0) (by decide) dX3_load_154 ?_
                exact K147 _ (by rw [if_neg h147])
              · refine g_iconst C (nI 1) (by decide) dX3_load_150 ?_
                refine g_goto C 155 dX3_load_151 (by decide) ?_
                exact K147 _ (by rw [if_pos h147])
            refine g_iaddN C dX3_load_155 ?_
            refine g_istore1 C rfl dX3_load_156 ?_
            refine g_goto C 35 dX3_load_157 (by decide) ?_
            refine g_fg3 (g_fg4 ?_)
            have hq9 : q_ldE (q_nz (A2 0)) (A 0 550) (rs, f, p, dep) = some (q_nz ((q_s1 (q_s2 A2 w u) 0 (q_zb (A2 0) (q_fee (q_nz (A2 0)) (A 0 550) f p dep) f (3 * p + dep - 1))) 0)) := by subst h73; rw [q_ldE_b, if_pos h99]; exact congrArg some (nz_addB (by omega) (by omega) (by omega) (by omega) hld.2.2.2.2).symm
            have hi9 : INV (q_nz ((q_s1 (q_s2 A2 w u) 0 (q_zb (A2 0) (q_fee (q_nz (A2 0)) (A 0 550) f p dep) f (3 * p + dep - 1))) 0)) := by rw [show (q_s1 (q_s2 A2 w u) 0 (q_zb (A2 0) (q_fee (q_nz (A2 0)) (A 0 550) f p dep) f (3 * p + dep - 1))) 0 = q_zb (A2 0) (q_fee (q_nz (A2 0)) (A 0 550) f p dep) f (3 * p + dep - 1) from rfl, nz_addB (by omega) (by omega) (by omega) (by omega) hld.2.2.2.2]; exact INV_addB hld.2.2.2.1 hy (by omega) (by omega) (by omega) (by omega) (q_ref_kind h99)
            have hy9 : (q_s1 (q_s2 A2 w u) 0 (q_zb (A2 0) (q_fee (q_nz (A2 0)) (A 0 550) f p dep) f (3 * p + dep - 1))) 0 550 = A 0 550 := (zb_y (by omega) (by omega)).trans hld.2.2.2.2
            have e9 : (if q_ref (q_nz (A2 0)) (A 0 550) (q_rc (q_nz (A2 0))) (nI f) p dep = nI 0 then 1 else 0) = 1 := if_pos h99
            rw [e9, bI_y h99]
            exact ih (q_s1 (q_s2 A2 w u) 0 (q_zb (A2 0) (q_fee (q_nz (A2 0)) (A 0 550) f p dep) f (3 * p + dep - 1)), j + 1, nI 1) H locs ⟨LDS_yes hld hej hq9 hi9 hy9, hb1, hb2, ENA_cong hen2 (fun q h5 => (if_neg (by omega)).trans ((if_neg (by omega)).trans (if_neg (by omega)))), hP, hD, hS⟩ (by show 2 * (L.length - (j + 1)) + (if nI 1 = 0 then 0 else 1) < 2 * (L.length - j) + (if gv = 0 then 0 else 1); rw [if_neg h36, if_neg (by decide)]; omega)
  · exact absurd h13 (by decide)
