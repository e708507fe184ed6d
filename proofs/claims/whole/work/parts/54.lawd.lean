theorem mean_self {d : RW} (h : INV d) : Op.cmpValue (FP.dcmp (q_meanM d) (q_meanM d)) CmpOp.l = 0 := by
  rcases fp_meanM h with ⟨-, z⟩ | ⟨-, c, q, z1, -⟩
  · rw [z]; decide +kernel
  · exact Decidable.not_not.mp (fp_self z1.1)
theorem kld2 {tn : Nat → Nat} {len : Nat} : k_ld tn len = 0 ∨ k_ld tn len = 1 := by
  unfold k_ld
  split
  · exact Or.inl rfl
  · exact Or.inr rfl

set_option maxHeartbeats 4000000 in
set_option maxRecDepth 100000 in
theorem lw_c8 {P_ : Program} {l : Launch} {E_ : Env} {s : State} {M_ : MethodId} {args : Array Value} {B_ : List Frame} {T_ : Method} {K_ : Code} {Q : State → Prop} {ret : Option FieldType} (C : CX P_ s M_ args T_ K_ cL_law RL 9 ret) (hls : l.stackTraces = false) {dC : Nat → ClassId} {dI : Nat → Nat → Nat} {cI cL cJ : ClassId} {g1 g2 : Nat} {o sa ba a e0 : Nat} {t : Nat → Nat} {om : Nat} {tm : Nat → Nat} {oa b L ii : Nat} {xs : Nat → Int32} (hK : EV dC dI cI cL cJ s) (hZ : ST g1 g2 (fun q => s.heap.size ≤ q) s s.heap) (hX : XE (fun q => s.heap.size ≤ q) s s.heap) (hXs : va_X b L xs s s.heap) (hbl : b < s.heap.size) (hL : L ≤ 2048) (hii : ii + 4 ≤ L) {n len : Nat} {tx : Nat → Int32} {sv : Nat → LO} {x : PS} {f : Nat → Int64} {A : RW} {i : Nat → Int32} {h : Int64} {H : Heap} {locs : List Loc} (hI : LI dC dI cI cL cJ (fun q => s.heap.size ≤ q) s.heap o sa ba a e0 t om tm oa n len tx sv x f A i h H locs)
    (kk : ∀ (n len : Nat) (tx : Nat → Int32) (sv : Nat → LO) (x : PS) (f : Nat → Int64) (A : RW) (i : Nat → Int32) (h : Int64) (H : Heap) (locs : List Loc), LI dC dI cI cL cJ (fun q => s.heap.size ≤ q) s.heap o sa ba a e0 t om tm oa n len tx sv x f A i h H locs → G P_ l E_ room_1 s M_ args B_ T_ K_ H locs (92 + (ii + 4)) (8073 + 6 * (ii + 4)) Q [some (.ref b), some (.ref o), some (.ref om), some (.ref oa), some (.int (nI ii)), none, none, none, none] 1617 []) :
    G P_ l E_ room_1 s M_ args B_ T_ K_ H locs (92 + ii) (8073 + 6 * ii) Q [some (.ref b), some (.ref o), some (.ref om), some (.ref oa), some (.int (nI ii)), none, none, none, none] 700 [] := by
  obtain ⟨hR, hP, hD, hS⟩ := hI
  obtain ⟨hn, hl, hi0, hi1, hki, hyr, htx, hsv⟩ := hR
  have hR : RLs n len tx sv A i := ⟨hn, hl, hi0, hi1, hki, hyr, htx, hsv⟩
  refine g_aload1 C dL_law_700 ?_
  have hP5 : va_P (dC, dI) vwCl ((MW cI om tm A i h ++ [JR cJ oa f]) ++ BW cI cL o sa ba a e0 t n len (svg sv) tx (A 0 550) (q_nz (A 0)) (q_rw (q_nz (A 0)) 0) x sv) H := by rw [List.append_assoc]; exact hP
  have hD5 : va_D (fun q => s.heap.size ≤ q) ((MW cI om tm A i h ++ [JR cJ oa f]) ++ BW cI cL o sa ba a e0 t n len (svg sv) tx (A 0 550) (q_nz (A 0)) (q_rw (q_nz (A 0)) 0) x sv) := by rw [List.append_assoc]; exact hD
  refine g_mV (As := []) C 0 rfl (c_X2_clearBuffer) wl_L_120 wi_X2_clearBuffer wv_X2_clearBuffer wn_X2 wc_X2_clearBuffer (by decide +kernel) ⟨rfl, rfl, by decide, by decide⟩ BDM_bl (va_recv (ci := 2) (q0 := 0) hK (P_r hP5) rfl rfl) (BDM_at hK (P_r hP5) (D_r hD5).1 hZ hX hS (D_r hD5).2) rfl rfl (by simp [Value.category]) ⟨by show _ ≤ 601024; omega, by show _ ≤ 7293034; omega⟩ hS (D_r hD5).2 dL_law_701 (fun H locs hP1 _ hk1 hS => ?_)
  obtain ⟨hP1, hD1⟩ := hP1
  obtain ⟨hP, hD⟩ := PD_put hP5 hD5 hP1 hD1 hk1
  rw [List.append_assoc] at hP hD
  replace hP : va_P (dC, dI) vwCl (MW cI om tm A i h ++ (JR cJ oa f :: BW cI cL o sa ba a e0 t n 0 (svg sv) tx (A 0 550) (q_nz (A 0)) (q_rw (q_nz (A 0)) 0) x sv)) H := hP
  replace hD : va_D (fun q => s.heap.size ≤ q) (MW cI om tm A i h ++ (JR cJ oa f :: BW cI cL o sa ba a e0 t n 0 (svg sv) tx (A 0 550) (q_nz (A 0)) (q_rw (q_nz (A 0)) 0) x sv)) := hD
  refine g_aload2 C dL_law_704 ?_
  refine g_mV (As := []) C 0 rfl (c_X3_clearBuffer) wl_L_123 wi_X3_clearBuffer wv_X3_clearBuffer wn_X3 wc_X3_clearBuffer (by decide +kernel) ⟨rfl, rfl, by decide, by decide⟩ MDM_bl (va_recv (ci := 3) (q0 := 0) hK (P_l hP) rfl rfl) (MDM_at hK (P_l hP) (D_l hD).1) rfl rfl (by simp [Value.category]) ⟨by show _ ≤ 601024; omega, by show _ ≤ 7293034; omega⟩ hS (D_l hD).2 dL_law_705 (fun H locs hP1 _ hk1 hS => ?_)
  obtain ⟨A', i', hP9, r0, r1, r2, r3, r4, r5⟩ := hP1
  obtain ⟨hP, hD⟩ := PD_join hP hD hP9 (List.Perm.refl _) hk1
  refine g_icmp_eq C 1617 dL_law_708 (by decide) (fun h708 => ?_) (fun h708 => ?_)
  · rw [← r0] at hP hD
    refine g_wd (k := 92 + (ii + 4)) (n := 8073 + 6 * (ii + 4)) (by omega) (by omega) ?_
    exact kk _ _ _ _ _ _ _ _ _ _ _ ⟨⟨hn, Nat.zero_le _, r3.trans hi0, r4, by rw [r0]; exact hki, by rw [r0]; exact hyr, TXR_0, by rw [r1]; exact hsv⟩, hP, hD, hS⟩
  · exact absurd hi1.symm h708

set_option maxHeartbeats 4000000 in
set_option maxRecDepth 100000 in
theorem lw_c9 {P_ : Program} {l : Launch} {E_ : Env} {s : State} {M_ : MethodId} {args : Array Value} {B_ : List Frame} {T_ : Method} {K_ : Code} {Q : State → Prop} {ret : Option FieldType} (C : CX P_ s M_ args T_ K_ cL_law RL 9 ret) (hls : l.stackTraces = false) {dC : Nat → ClassId} {dI : Nat → Nat → Nat} {cI cL cJ : ClassId} {g1 g2 : Nat} {o sa ba a e0 : Nat} {t : Nat → Nat} {om : Nat} {tm : Nat → Nat} {oa b L ii : Nat} {xs : Nat → Int32} (hK : EV dC dI cI cL cJ s) (hZ : ST g1 g2 (fun q => s.heap.size ≤ q) s s.heap) (hX : XE (fun q => s.heap.size ≤ q) s s.heap) (hXs : va_X b L xs s s.heap) (hbl : b < s.heap.size) (hL : L ≤ 2048) (hii : ii + 4 ≤ L) {n len : Nat} {tx : Nat → Int32} {sv : Nat → LO} {x : PS} {f : Nat → Int64} {A : RW} {i : Nat → Int32} {h : Int64} {H : Heap} {locs : List Loc} (hI : LI dC dI cI cL cJ (fun q => s.heap.size ≤ q) s.heap o sa ba a e0 t om tm oa n len tx sv x f A i h H locs)
    (kk : ∀ (n len : Nat) (tx : Nat → Int32) (sv : Nat → LO) (x : PS) (f : Nat → Int64) (A : RW) (i : Nat → Int32) (h : Int64) (H : Heap) (locs : List Loc), LI dC dI cI cL cJ (fun q => s.heap.size ≤ q) s.heap o sa ba a e0 t om tm oa n len tx sv x f A i h H locs → G P_ l E_ room_1 s M_ args B_ T_ K_ H locs (92 + (ii + 4)) (8073 + 6 * (ii + 4)) Q [some (.ref b), some (.ref o), some (.ref om), some (.ref oa), some (.int (nI ii)), none, none, none, none] 1617 []) :
    G P_ l E_ room_1 s M_ args B_ T_ K_ H locs (92 + ii) (8073 + 6 * ii) Q [some (.ref b), some (.ref o), some (.ref om), some (.ref oa), some (.int (nI ii)), none, none, none, none] 713 [] := by
  obtain ⟨hR, hP, hD, hS⟩ := hI
  obtain ⟨hn, hl, hi0, hi1, hki, hyr, htx, hsv⟩ := hR
  have hR : RLs n len tx sv A i := ⟨hn, hl, hi0, hi1, hki, hyr, htx, hsv⟩
  obtain ⟨tn, htx9⟩ := htx
  refine g_aload1 C dL_law_713 ?_
  have hP5 : va_P (dC, dI) vwCl ((MW cI om tm A i h ++ [JR cJ oa f]) ++ BW cI cL o sa ba a e0 t n len (svg sv) tx (A 0 550) (q_nz (A 0)) (q_rw (q_nz (A 0)) 0) x sv) H := by rw [List.append_assoc]; exact hP
  have hD5 : va_D (fun q => s.heap.size ≤ q) ((MW cI om tm A i h ++ [JR cJ oa f]) ++ BW cI cL o sa ba a e0 t n len (svg sv) tx (A 0 550) (q_nz (A 0)) (q_rw (q_nz (A 0)) 0) x sv) := by rw [List.append_assoc]; exact hD
  refine g_mV (As := []) C 0 rfl (c_X2_firstError hl (fun j hj => ⟨(htx9 j hj).1, (htx9 j hj).2.2⟩)) wl_L_124 wi_X2_firstError wv_X2_firstError wn_X2 wc_X2_firstError (by decide +kernel) ⟨rfl, rfl, by decide, by decide⟩ BDM_bl (va_recv (ci := 2) (q0 := 0) hK (P_r hP5) rfl rfl) (BDM_at hK (P_r hP5) (D_r hD5).1 hZ hX hS (D_r hD5).2) rfl rfl (by simp [Value.category]) ⟨by show _ ≤ 601024; omega, by show _ ≤ 7293034; omega⟩ hS (D_r hD5).2 dL_law_714 (fun H locs hP1 _ hk1 hS => ?_)
  obtain ⟨x2, -, -, hP1, hD1⟩ := hP1
  obtain ⟨hP, hD⟩ := PD_put hP5 hD5 hP1 hD1 hk1
  rw [List.append_assoc] at hP hD
  replace hP : va_P (dC, dI) vwCl (MW cI om tm A i h ++ (JR cJ oa f :: BW cI cL o sa ba a e0 t n len (svg sv) tx (A 0 550) (q_nz (A 0)) (q_rw (q_nz (A 0)) 0) x2 sv)) H := hP
  replace hD : va_D (fun q => s.heap.size ≤ q) (MW cI om tm A i h ++ (JR cJ oa f :: BW cI cL o sa ba a e0 t n len (svg sv) tx (A 0 550) (q_nz (A 0)) (q_rw (q_nz (A 0)) 0) x2 sv)) := hD
  refine g_aload2 C dL_law_717 ?_
  refine g_mV (As := []) C 0 rfl (c_X3_firstError (tx := tn) hl hi1 (fun j hj => ⟨(htx9 j hj).2.1, (htx9 j hj).2.2⟩)) wl_L_127 wi_X3_firstError wv_X3_firstError wn_X3 wc_X3_firstError (by decide +kernel) ⟨rfl, rfl, by decide, by decide⟩ MDM_bl (va_recv (ci := 3) (q0 := 0) hK (P_l hP) rfl rfl) (MDM_at hK (P_l hP) (D_l hD).1) rfl rfl (by simp [Value.category]) ⟨by show _ ≤ 601024; omega, by show _ ≤ 7293034; omega⟩ hS (D_l hD).2 dL_law_718 (fun H locs hP1 _ hk1 hS => ?_)
  obtain ⟨A', i', hP9, r0, r1, r2, r3, r4, r5⟩ := hP1
  obtain ⟨hP, hD⟩ := PD_join hP hD hP9 (List.Perm.refl _) hk1
  refine g_icmp_eq C 1617 dL_law_721 (by decide) (fun h721 => ?_) (fun h721 => ?_)
  · rw [← r0] at hP hD
    refine g_wd (k := 92 + (ii + 4)) (n := 8073 + 6 * (ii + 4)) (by omega) (by omega) ?_
    exact kk _ _ _ _ _ _ _ _ _ _ _ ⟨RLs_cong hR r0 r1 r2 r3 r4, hP, hD, hS⟩
  · exact absurd rfl h721

set_option maxHeartbeats 4000000 in
set_option maxRecDepth 100000 in
theorem lw_c23 {P_ : Program} {l : Launch} {E_ : Env} {s : State} {M_ : MethodId} {args : Array Value} {B_ : List Frame} {T_ : Method} {K_ : Code} {Q : State → Prop} {ret : Option FieldType} (C : CX P_ s M_ args T_ K_ cL_law RL 9 ret) (hls : l.stackTraces = false) {dC : Nat → ClassId} {dI : Nat → Nat → Nat} {cI cL cJ : ClassId} {g1 g2 : Nat} {o sa ba a e0 : Nat} {t : Nat → Nat} {om : Nat} {tm : Nat → Nat} {oa b L ii : Nat} {xs : Nat → Int32} (hK : EV dC dI cI cL cJ s) (hZ : ST g1 g2 (fun q => s.heap.size ≤ q) s s.heap) (hX : XE (fun q => s.heap.size ≤ q) s s.heap) (hXs : va_X b L xs s s.heap) (hbl : b < s.heap.size) (hL : L ≤ 2048) (hii : ii + 4 ≤ L) {n len : Nat} {tx : Nat → Int32} {sv : Nat → LO} {x : PS} {f : Nat → Int64} {A : RW} {i : Nat → Int32} {h : Int64} {H : Heap} {locs : List Loc} (hI : LI dC dI cI cL cJ (fun q => s.heap.size ≤ q) s.heap o sa ba a e0 t om tm oa n len tx sv x f A i h H locs)
    (kk : ∀ (n len : Nat) (tx : Nat → Int32) (sv : Nat → LO) (x : PS) (f : Nat → Int64) (A : RW) (i : Nat → Int32) (h : Int64) (H : Heap) (locs : List Loc), LI dC dI cI cL cJ (fun q => s.heap.size ≤ q) s.heap o sa ba a e0 t om tm oa n len tx sv x f A i h H locs → G P_ l E_ room_1 s M_ args B_ T_ K_ H locs (92 + (ii + 4)) (8073 + 6 * (ii + 4)) Q [some (.ref b), some (.ref o), some (.ref om), some (.ref oa), some (.int (nI ii)), none, none, none, none] 1617 []) :
    G P_ l E_ room_1 s M_ args B_ T_ K_ H locs (92 + ii) (8073 + 6 * ii) Q [some (.ref b), some (.ref o), some (.ref om), some (.ref oa), some (.int (nI ii)), none, none, none, none] 1562 [] := by
  obtain ⟨hR, hP, hD, hS⟩ := hI
  obtain ⟨hn, hl, hi0, hi1, hki, hyr, htx, hsv⟩ := hR
  have hR : RLs n len tx sv A i := ⟨hn, hl, hi0, hi1, hki, hyr, htx, hsv⟩
  refine g_aload1 C dL_law_1562 ?_
  have hP5 : va_P (dC, dI) vwCl ((MW cI om tm A i h ++ [JR cJ oa f]) ++ BW cI cL o sa ba a e0 t n len (svg sv) tx (A 0 550) (q_nz (A 0)) (q_rw (q_nz (A 0)) 0) x sv) H := by rw [List.append_assoc]; exact hP
  have hD5 : va_D (fun q => s.heap.size ≤ q) ((MW cI om tm A i h ++ [JR cJ oa f]) ++ BW cI cL o sa ba a e0 t n len (svg sv) tx (A 0 550) (q_nz (A 0)) (q_rw (q_nz (A 0)) 0) x sv) := by rw [List.append_assoc]; exact hD
  refine g_pcN (As := []) C 0 rfl (c_X2_meanFee hki) wl_L_168 wi_X2_meanFee wv_X2_meanFee wn_X2 wc_X2_meanFee (by decide +kernel) ⟨rfl, rfl, by decide, by decide⟩ BDM_bl (va_recv (ci := 2) (q0 := 0) hK (P_r hP5) rfl rfl) (BDM_at hK (P_r hP5) (D_r hD5).1 hZ hX hS (D_r hD5).2) rfl rfl (by simp [Value.category]) ⟨by show _ ≤ 601024; omega, by show _ ≤ 7293034; omega⟩ dL_law_1563 ?_
  refine g_dstore5 C rfl dL_law_1566 ?_
  refine g_aload2 C dL_law_1568 ?_
  refine g_mV (As := []) C 0 rfl (c_X3_meanFee (fp_nanM hki)) wl_L_172 wi_X3_meanFee wv_X3_meanFee wn_X3 wc_X3_meanFee (by decide +kernel) ⟨rfl, rfl, by decide, by decide⟩ MDM_bl (va_recv (ci := 3) (q0 := 0) hK (P_l hP) rfl rfl) (MDM_at hK (P_l hP) (D_l hD).1) rfl rfl (by simp [Value.category]) ⟨by show _ ≤ 601024; omega, by show _ ≤ 7293034; omega⟩ hS (D_l hD).2 dL_law_1569 (fun H locs hP1 _ hk1 hS => ?_)
  have hP9 := hP1
  obtain ⟨hP, hD⟩ := PD_join hP hD hP9 (List.Perm.refl _) hk1
  refine g_dstore7 C rfl dL_law_1572 ?_
  refine g_dload5 C dL_law_1574 ?_
  refine g_dload7 C dL_law_1576 ?_
  refine g_dcmp C dL_law_1578 ?_
  refine g_if_eq C 1600 dL_law_1579 (by decide) (fun h1579 => ?_) (fun h1579 => ?_)
  · refine g_goto C 1617 dL_law_1600 (by decide) ?_
    refine g_fg5 (g_fg6 (g_fg7 (g_fg8 ?_)))
    refine g_wd (k := 92 + (ii + 4)) (n := 8073 + 6 * (ii + 4)) (by omega) (by omega) ?_
    exact kk _ _ _ _ _ _ _ _ _ _ _ ⟨RLs_cong (A' := A) (i' := upd i 2 (nI 0)) hR rfl rfl rfl rfl rfl, hP, hD, hS⟩
  · exact absurd (mean_self hki) h1579

set_option maxHeartbeats 4000000 in
set_option maxRecDepth 100000 in
theorem lw_c24 {P_ : Program} {l : Launch} {E_ : Env} {s : State} {M_ : MethodId} {args : Array Value} {B_ : List Frame} {T_ : Method} {K_ : Code} {Q : State → Prop} {ret : Option FieldType} (C : CX P_ s M_ args T_ K_ cL_law RL 9 ret) (hls : l.stackTraces = false) {dC : Nat → ClassId} {dI : Nat → Nat → Nat} {cI cL cJ : ClassId} {g1 g2 : Nat} {o sa ba a e0 : Nat} {t : Nat → Nat} {om : Nat} {tm : Nat → Nat} {oa b L ii : Nat} {xs : Nat → Int32} (hK : EV dC dI cI cL cJ s) (hZ : ST g1 g2 (fun q => s.heap.size ≤ q) s s.heap) (hX : XE (fun q => s.heap.size ≤ q) s s.heap) (hXs : va_X b L xs s s.heap) (hbl : b < s.heap.size) (hL : L ≤ 2048) (hii : ii + 4 ≤ L) {n len : Nat} {tx : Nat → Int32} {sv : Nat → LO} {x : PS} {f : Nat → Int64} {A : RW} {i : Nat → Int32} {h : Int64} {H : Heap} {locs : List Loc} (hI : LI dC dI cI cL cJ (fun q => s.heap.size ≤ q) s.heap o sa ba a e0 t om tm oa n len tx sv x f A i h H locs)
    (kk : ∀ (n len : Nat) (tx : Nat → Int32) (sv : Nat → LO) (x : PS) (f : Nat → Int64) (A : RW) (i : Nat → Int32) (h : Int64) (H : Heap) (locs : List Loc), LI dC dI cI cL cJ (fun q => s.heap.size ≤ q) s.heap o sa ba a e0 t om tm oa n len tx sv x f A i h H locs → G P_ l E_ room_1 s M_ args B_ T_ K_ H locs (92 + (ii + 4)) (8073 + 6 * (ii + 4)) Q [some (.ref b), some (.ref o), some (.ref om), some (.ref oa), some (.int (nI ii)), none, none, none, none] 1617 []) :
    G P_ l E_ room_1 s M_ args B_ T_ K_ H locs (92 + ii) (8073 + 6 * ii) Q [some (.ref b), some (.ref o), some (.ref om), some (.ref oa), some (.int (nI ii)), none, none, none, none] 1603 [] := by
  obtain ⟨hR, hP, hD, hS⟩ := hI
  obtain ⟨hn, hl, hi0, hi1, hki, hyr, htx, hsv⟩ := hR
  have hR : RLs n len tx sv A i := ⟨hn, hl, hi0, hi1, hki, hyr, htx, hsv⟩
  obtain ⟨tn, htx9⟩ := htx
  refine g_aload1 C dL_law_1603 ?_
  have hP5 : va_P (dC, dI) vwCl ((MW cI om tm A i h ++ [JR cJ oa f]) ++ BW cI cL o sa ba a e0 t n len (svg sv) tx (A 0 550) (q_nz (A 0)) (q_rw (q_nz (A 0)) 0) x sv) H := by rw [List.append_assoc]; exact hP
  have hD5 : va_D (fun q => s.heap.size ≤ q) ((MW cI om tm A i h ++ [JR cJ oa f]) ++ BW cI cL o sa ba a e0 t n len (svg sv) tx (A 0 550) (q_nz (A 0)) (q_rw (q_nz (A 0)) 0) x sv) := by rw [List.append_assoc]; exact hD
  refine g_pcN (As := []) C 0 rfl (c_X2_digest hl hki) wl_L_173 wi_X2_digest wv_X2_digest wn_X2 wc_X2_digest (by decide +kernel) ⟨rfl, rfl, by decide, by decide⟩ BDM_bl (va_recv (ci := 2) (q0 := 0) hK (P_r hP5) rfl rfl) (BDM_at hK (P_r hP5) (D_r hD5).1 hZ hX hS (D_r hD5).2) rfl rfl (by simp [Value.category]) ⟨by show _ ≤ 601024; omega, by show _ ≤ 7293034; omega⟩ dL_law_1604 ?_
  refine g_aload2 C dL_law_1607 ?_
  refine g_mV (As := []) C 0 rfl (c_X3_digest hki hl hi1 (fp_nanM hki)) wl_L_177 wi_X3_digest wv_X3_digest wn_X3 wc_X3_digest (by decide +kernel) ⟨rfl, rfl, by decide, by decide⟩ MDM_bl (va_recv (ci := 3) (q0 := 0) hK (P_l hP) rfl rfl) (MDM_at hK (P_l hP) (D_l hD).1) rfl rfl (by simp [Value.category]) ⟨by show _ ≤ 601024; omega, by show _ ≤ 7293034; omega⟩ hS (D_l hD).2 dL_law_1608 (fun H locs hP1 _ hk1 hS => ?_)
  obtain ⟨A', i', h', hP9, r0, r1, r2, r3, r4, r5⟩ := hP1
  obtain ⟨hP, hD⟩ := PD_join hP hD hP9 (List.Perm.refl _) hk1
  have ed : q_dig (q_nz (A 0)) (A 0 550) (i 0) len (A 2) = q_dig (q_nz (A 0)) (A 0 550) (nI n) len tx := by rw [hi0]; exact q_mxs_cong len (fun j hj => (htx9 j hj).2.1.trans (htx9 j hj).1.symm)
  rw [ed]
  refine g_lcmp C dL_law_1611 ?_
  rw [cmp_self]
  refine g_if_eq C 1617 dL_law_1612 (by decide) (fun h1612 => ?_) (fun h1612 => ?_)
  · rw [← r0] at hP hD
    refine g_wd (k := 92 + (ii + 4)) (n := 8073 + 6 * (ii + 4)) (by omega) (by omega) ?_
    exact kk _ _ _ _ _ _ _ _ _ _ _ ⟨RLs_cong hR r0 r1 r2 r3 r4, hP, hD, hS⟩
  · exact absurd rfl h1612

set_option maxHeartbeats 4000000 in
set_option maxRecDepth 100000 in
theorem lw_c10 {P_ : Program} {l : Launch} {E_ : Env} {s : State} {M_ : MethodId} {args : Array Value} {B_ : List Frame} {T_ : Method} {K_ : Code} {Q : State → Prop} {ret : Option FieldType} (C : CX P_ s M_ args T_ K_ cL_law RL 9 ret) (hls : l.stackTraces = false) {dC : Nat → ClassId} {dI : Nat → Nat → Nat} {cI cL cJ : ClassId} {g1 g2 : Nat} {o sa ba a e0 : Nat} {t : Nat → Nat} {om : Nat} {tm : Nat → Nat} {oa b L ii : Nat} {xs : Nat → Int32} (hK : EV dC dI cI cL cJ s) (hZ : ST g1 g2 (fun q => s.heap.size ≤ q) s s.heap) (hX : XE (fun q => s.heap.size ≤ q) s s.heap) (hXs : va_X b L xs s s.heap) (hbl : b < s.heap.size) (hL : L ≤ 2048) (hii : ii + 4 ≤ L) {n len : Nat} {tx : Nat → Int32} {sv : Nat → LO} {x : PS} {f : Nat → Int64} {A : RW} {i : Nat → Int32} {h : Int64} {H : Heap} {locs : List Loc} (hI : LI dC dI cI cL cJ (fun q => s.heap.size ≤ q) s.heap o sa ba a e0 t om tm oa n len tx sv x f A i h H locs)
    (kk : ∀ (n len : Nat) (tx : Nat → Int32) (sv : Nat → LO) (x : PS) (f : Nat → Int64) (A : RW) (i : Nat → Int32) (h : Int64) (H : Heap) (locs : List Loc), LI dC dI cI cL cJ (fun q => s.heap.size ≤ q) s.heap o sa ba a e0 t om tm oa n len tx sv x f A i h H locs → G P_ l E_ room_1 s M_ args B_ T_ K_ H locs (92 + (ii + 4)) (8073 + 6 * (ii + 4)) Q [some (.ref b), some (.ref o), some (.ref om), some (.ref oa), some (.int (nI ii)), none, none, none, none] 1617 []) :
    G P_ l E_ room_1 s M_ args B_ T_ K_ H locs (92 + ii) (8073 + 6 * ii) Q [some (.ref b), some (.ref o), some (.ref om), some (.ref oa), some (.int (nI ii)), none, none, none, none] 726 [] := by
  obtain ⟨hR, hP, hD, hS⟩ := hI
  obtain ⟨hn, hl, hi0, hi1, hki, hyr, htx, hsv⟩ := hR
  have hR : RLs n len tx sv A i := ⟨hn, hl, hi0, hi1, hki, hyr, htx, hsv⟩
  obtain ⟨tn, htx9⟩ := htx
  have hy9 : nI 0 ≤ A 0 550 := by obtain ⟨yn, hyn, ey⟩ := hyr; rw [ey]; exact (nI_leI (by decide) (by omega)).mpr (Nat.zero_le _)
  cases hw : q_whole tn len with
  | none =>
      have hkl : k_ld tn len = 1 := by unfold k_ld; rw [hw]; rfl
      refine g_aload1 C dL_law_726 ?_
      refine g_aload3 C dL_law_727 ?_
      refine g_mSW (As := [.ref o, .ref oa]) C 2 rfl (c_L_load (cd := k_ld tn len) (cls := (fun _ => XIA)) (W := BW cI cL o sa ba a e0 t n len (svg sv) tx (A 0 550) (q_nz (A 0)) (q_rw (q_nz (A 0)) 0) x sv) (PW := fun W1 => ∃ x9 : PS, W1 = BW cI cL o sa ba a e0 t (min (n + 1) 6) 0 (svg (sv_save sv n (A 0 550) (q_nz (A 0)) (q_rw (q_nz (A 0)) 0))) tx (A 0 550) (q_ldd (q_nz (A 0)) (A 0 550) ((q_whole tn len).getD [])) (q_rw (q_ldd (q_nz (A 0)) (A 0 550) ((q_whole tn len).getD [])) 0) x9 (sv_save sv n (A 0 550) (q_nz (A 0)) (q_rw (q_nz (A 0)) 0))) (PV := fun W1 => ∃ x9 : PS, W1 = BW cI cL o sa ba a e0 t n len (svg sv) tx (A 0 550) (q_nz (A 0)) (q_rw (q_nz (A 0)) 0) x9 sv) (fun H h9 => by obtain ⟨x9, -, h1, h2⟩ := h9; exact ⟨_, ⟨x9, rfl⟩, h1, h2⟩) (fun H h9 => by obtain ⟨x9, -, h1, h2⟩ := h9; exact ⟨_, ⟨x9, rfl⟩, h1, h2⟩) kld2 rfl ⟨_, rfl⟩ BDM_bl (fun U h1 h2 h3 h4 h5 => ⟨h1, h2, h3, h4, h5⟩) (c_X2_load (tn := tn) hls hl (fun j hj => ⟨(htx9 j hj).1, (htx9 j hj).2.2⟩) hn hki hy9)) wl_L_128 wt_L_load wn_L wW_L_load (by decide +kernel) ⟨rfl, rfl, by decide, by decide⟩ LHM_bl (LHM_at hK (P_r hP) (D_r hD).1 hZ hX hS (D_r hD).2) rfl rfl (by simp [Value.category]) ⟨by show _ ≤ 601024; omega, by show _ ≤ 7293034; omega⟩ hS (D_r hD).2 dL_law_728 (fun H locs hP1 _ hk1 hS => ?_)
      obtain ⟨f1, W1, hok, hno, hP1, hD1⟩ := hP1
      obtain ⟨hP, hD⟩ := PD_put hP hD hP1 hD1 hk1
      refine g_istore5 C rfl dL_law_731 ?_
      refine g_aload2 C dL_law_733 ?_
      refine g_mV (As := []) C 0 rfl (c_X3_load_no (tx := tn) hn hi0 hki hy9 hl hi1 (fun j hj => ⟨(htx9 j hj).2.1, (htx9 j hj).2.2⟩) hw) wl_L_131 wi_X3_load wv_X3_load wn_X3 wc_X3_load (by decide +kernel) ⟨rfl, rfl, by decide, by decide⟩ MDM_bl (va_recv (ci := 3) (q0 := 0) hK (P_l hP) rfl rfl) (MDM_at hK (P_l hP) (D_l hD).1) rfl rfl (by simp [Value.category]) ⟨by show _ ≤ 601024; omega, by show _ ≤ 7293034; omega⟩ hS (D_l hD).2 dL_law_734 (fun H locs hP1 _ hk1 hS => ?_)
      obtain ⟨A', i', h', hP9, r0, r1, r2, r3, r4, r5⟩ := hP1
      obtain ⟨hP, hD⟩ := PD_join hP hD hP9 (List.Perm.refl _) hk1
      refine g_istore6 C rfl dL_law_737 ?_
      refine g_aload2 C dL_law_739 ?_
      refine g_mcV0 C hK (P_l hP) (c_X3_thrown) wl_L_93 wi_X3_thrown wv_X3_thrown wc_X3_thrown (by decide +kernel) ⟨rfl, rfl, by decide, by decide⟩ rfl (by simp [Value.category]) ⟨by show _ ≤ 601024; omega, by show _ ≤ 7293034; omega⟩ dL_law_740 ?_
      rw [r5]
      refine g_iload5 C dL_law_743 ?_
      refine g_icmp_eq C 750 dL_law_745 (by decide) (fun h745 => ?_) (fun h745 => ?_)
      · refine g_iload5 C dL_law_750 ?_
        refine g_if_ne C 767 dL_law_752 (by decide) (fun h752 => ?_) (fun h752 => ?_)
        · have hz : ¬ k_ld tn len = 0 := fun z => h752 (by rw [z]; rfl)
          refine g_goto C 1617 dL_law_767 (by decide) ?_
          obtain ⟨x2, rfl⟩ := hno hz
          rw [← r0] at hP hD
          refine g_fg5 (g_fg6 ?_)
          refine g_wd (k := 92 + (ii + 4)) (n := 8073 + 6 * (ii + 4)) (by omega) (by omega) ?_
          exact kk _ _ _ _ _ _ _ _ _ _ _ ⟨RLs_cong hR r0 r1 r2 r3 r4, hP, hD, hS⟩
        · exact absurd h752 (by rw [hkl]; decide)
      · exact absurd (by rw [hkl]) h745
  | some Lq =>
      have hkl : k_ld tn len = 0 := by unfold k_ld; rw [hw]; rfl
      refine g_aload1 C dL_law_726 ?_
      refine g_aload3 C dL_law_727 ?_
      refine g_mSW (As := [.ref o, .ref oa]) C 2 rfl (c_L_load (cd := k_ld tn len) (cls := (fun _ => XIA)) (W := BW cI cL o sa ba a e0 t n len (svg sv) tx (A 0 550) (q_nz (A 0)) (q_rw (q_nz (A 0)) 0) x sv) (PW := fun W1 => ∃ x9 : PS, W1 = BW cI cL o sa ba a e0 t (min (n + 1) 6) 0 (svg (sv_save sv n (A 0 550) (q_nz (A 0)) (q_rw (q_nz (A 0)) 0))) tx (A 0 550) (q_ldd (q_nz (A 0)) (A 0 550) ((q_whole tn len).getD [])) (q_rw (q_ldd (q_nz (A 0)) (A 0 550) ((q_whole tn len).getD [])) 0) x9 (sv_save sv n (A 0 550) (q_nz (A 0)) (q_rw (q_nz (A 0)) 0))) (PV := fun W1 => ∃ x9 : PS, W1 = BW cI cL o sa ba a e0 t n len (svg sv) tx (A 0 550) (q_nz (A 0)) (q_rw (q_nz (A 0)) 0) x9 sv) (fun H h9 => by obtain ⟨x9, -, h1, h2⟩ := h9; exact ⟨_, ⟨x9, rfl⟩, h1, h2⟩) (fun H h9 => by obtain ⟨x9, -, h1, h2⟩ := h9; exact ⟨_, ⟨x9, rfl⟩, h1, h2⟩) kld2 rfl ⟨_, rfl⟩ BDM_bl (fun U h1 h2 h3 h4 h5 => ⟨h1, h2, h3, h4, h5⟩) (c_X2_load (tn := tn) hls hl (fun j hj => ⟨(htx9 j hj).1, (htx9 j hj).2.2⟩) hn hki hy9)) wl_L_128 wt_L_load wn_L wW_L_load (by decide +kernel) ⟨rfl, rfl, by decide, by decide⟩ LHM_bl (LHM_at hK (P_r hP) (D_r hD).1 hZ hX hS (D_r hD).2) rfl rfl (by simp [Value.category]) ⟨by show _ ≤ 601024; omega, by show _ ≤ 7293034; omega⟩ hS (D_r hD).2 dL_law_728 (fun H locs hP1 _ hk1 hS => ?_)
      obtain ⟨f1, W1, hok, hno, hP1, hD1⟩ := hP1
      obtain ⟨hP, hD⟩ := PD_put hP hD hP1 hD1 hk1
      refine g_istore5 C rfl dL_law_731 ?_
      refine g_aload2 C dL_law_733 ?_
      refine g_mV (As := []) C 0 rfl (c_X3_load_ok (tx := tn) hn hi0 hki hy9 hl hi1 (fun j hj => ⟨(htx9 j hj).2.1, (htx9 j hj).2.2⟩) hw) wl_L_131 wi_X3_load wv_X3_load wn_X3 wc_X3_load (by decide +kernel) ⟨rfl, rfl, by decide, by decide⟩ MDM_bl (va_recv (ci := 3) (q0 := 0) hK (P_l hP) rfl rfl) (MDM_at hK (P_l hP) (D_l hD).1) rfl rfl (by simp [Value.category]) ⟨by show _ ≤ 601024; omega, by show _ ≤ 7293034; omega⟩ hS (D_l hD).2 dL_law_734 (fun H locs hP1 _ hk1 hS => ?_)
      obtain ⟨A', i', h', hP9, r0, r6, r1, r2, r3, r4, r5, r7⟩ := hP1
      obtain ⟨hP, hD⟩ := PD_join hP hD hP9 (List.Perm.refl _) hk1
      refine g_istore6 C rfl dL_law_737 ?_
      refine g_aload2 C dL_law_739 ?_
      refine g_mcV0 C hK (P_l hP) (c_X3_thrown) wl_L_93 wi_X3_thrown wv_X3_thrown wc_X3_thrown (by decide +kernel) ⟨rfl, rfl, by decide, by decide⟩ rfl (by simp [Value.category]) ⟨by show _ ≤ 601024; omega, by show _ ≤ 7293034; omega⟩ dL_law_740 ?_
      rw [r5]
      refine g_iload5 C dL_law_743 ?_
      refine g_icmp_eq C 750 dL_law_745 (by decide) (fun h745 => ?_) (fun h745 => ?_)
      · refine g_iload5 C dL_law_750 ?_
        refine g_if_ne C 767 dL_law_752 (by decide) (fun h752 => ?_) (fun h752 => ?_)
        · exact absurd (by rw [hkl]; rfl) h752
        · have hcd9 : k_ld tn len = 0 ∨ k_ld tn len = 1 := kld2
          have hz : k_ld tn len = 0 := nI_z9 (by omega) h752
          obtain ⟨hv9, hW9⟩ := hok hz
          have hv9 : f1 0 = (nI (q_ldk (q_nz (A 0)) (A 0 550) Lq)).toInt64 := by rw [hv9, hw]; rfl
          refine g_aload3 C dL_law_755 ?_
          refine g_iconst C (nI 0) (by decide) dL_law_756 ?_
          refine g_lald C hK (P_r hP) dL_law_757 ?_
          rw [hv9]
          refine g_iload6 C dL_law_758 ?_
          skip
          refine g_i2l C _ rfl dL_law_760 ?_
          refine g_lcmp C dL_law_761 ?_
          rw [cmp_self]
          refine g_if_eq C 767 dL_law_762 (by decide) (fun h762 => ?_) (fun h762 => ?_)
          · refine g_goto C 1617 dL_law_767 (by decide) ?_
            obtain ⟨x2, rfl⟩ := hW9
            have w1 : q_nz (A' 0) = (q_ldd (q_nz (A 0)) (A 0 550) ((q_whole tn len).getD [])) := by rw [r0, hw]; rfl
            have hP : va_P (dC, dI) vwCl (MW cI om tm A' i' h' ++ (JR cJ oa f1 :: BW cI cL o sa ba a e0 t (min (n + 1) 6) 0 (svg (sv_save sv n (A 0 550) (q_nz (A 0)) (q_rw (q_nz (A 0)) 0))) tx (A' 0 550) (q_nz (A' 0)) (q_rw (q_nz (A' 0)) 0) x2 (sv_save sv n (A 0 550) (q_nz (A 0)) (q_rw (q_nz (A 0)) 0)))) H := by rw [w1, r6]; exact hP
            have hD : va_D (fun q => s.heap.size ≤ q) (MW cI om tm A' i' h' ++ (JR cJ oa f1 :: BW cI cL o sa ba a e0 t (min (n + 1) 6) 0 (svg (sv_save sv n (A 0 550) (q_nz (A 0)) (q_rw (q_nz (A 0)) 0))) tx (A' 0 550) (q_nz (A' 0)) (q_rw (q_nz (A' 0)) 0) x2 (sv_save sv n (A 0 550) (q_nz (A 0)) (q_rw (q_nz (A 0)) 0)))) := by rw [w1, r6]; exact hD
            refine g_fg5 (g_fg6 ?_)
            refine g_wd (k := 92 + (ii + 4)) (n := 8073 + 6 * (ii + 4)) (by omega) (by omega) ?_
            exact kk _ _ _ _ _ _ _ _ _ _ _ ⟨RLs_save hR r1 r3 r7 (by rw [r6]; exact hyr) (Nat.zero_le _) r4 TXR_0, hP, hD, hS⟩
          · exact absurd rfl h762
      · exact absurd (by rw [hkl]) h745
