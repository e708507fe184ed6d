section WR2
variable {p : Program} {l : Launch} {e : Env} {R : Room} {s : State} {m : MethodId} {args : Array Value} {below : List Frame} {meth : Method} {c : Code} {H : Heap} {locs : List Loc} {cells slots : Nat} {Q : State → Prop}
variable {cc : ByteArray} {own : String} {nL pc : Nat} {ret : Option FieldType} {vs : List (Option Value)} {st st0 : List Value}
/-- a virtual call of a method that only reads, the number of arguments said apart -/
theorem g_pcN (C : CX p s m args meth c cc own nL ret) {bytes : ByteArray} {maxL2 index : Nat} {ret2 : Option FieldType} {rm : Room} {y : MethodName} {b : Nat} {As : List Value} {v : Value} {Cn : String} {Pre : State → Prop} (n0 : Nat) (hn0 : As.length = n0)
    (hM : Met l y (.code y bytes maxL2 ret2 :: WG) rm (va_Pc (.ref b :: As) Pre) (bq_S v) 0 0 (fun _ => False))
    (hl : Cond.methodLink own index y ∈ WG) (hi : Cond.instanceMethod y ∈ WG) (hv : Cond.selects Cn y y ∈ WG) (hn : Cond.initialized Cn ∈ WG) (hc : Cond.code y bytes maxL2 ret2 ∈ WG)
    (hy : y.cls = Cn ∧ y.cls ≠ "java/lang/invoke/MethodHandle" ∧ y.cls ≠ "java/lang/invoke/VarHandle" ∧ (parseMethodDescriptor y.desc).map (fun d => d.parameters.length) = some n0)
    (hrm : rm.cells = 0 ∧ rm.slots = 0 ∧ rm.frames + 1 ≤ R.frames ∧ 8 + (maxL2 + 11) + rm.locals ≤ R.locals) (hbl : Bl Pre)
    (hrv : ∃ cell : Cell, H[b]? = some cell ∧ cell.vm.isStatics = false ∧ s.vm.findClass Cn = some cell.cls) (hpre : ∀ U : State, U.heap = H → s.WarmedH U.vm → Pre U)
    (hvl : vs.length = nL) (hst : st0 = As.reverse ++ .ref b :: st) (hcat : (st.map fun v => v.category).sum ≤ 8) (hcs : cells ≤ R.cells ∧ slots ≤ R.slots) (hd : decode cc pc = .ok (.invokevirtual index, 3))
    (kk : G p l e R s m args below meth c H locs cells slots Q vs (pc + 3) (v :: st)) : G p l e R s m args below meth c H locs cells slots Q vs pc st0 := by
  subst hn0
  exact g_pcV C hM hl hi hv hn hc hy hrm hbl hrv hpre hvl hst hcat hcs hd kk
end WR2
theorem nI_dec1 {j : Nat} (h : 1 ≤ j) : nI j + Int32.ofInt (-1) = nI (j - 1) := by
  obtain ⟨k, rfl⟩ : ∃ k, j = k + 1 := ⟨j - 1, by omega⟩
  exact pk_m1 k
theorem q_dpM_s {d : RW} {y : Int32} {rc : Nat → Bool} {f : Int32} {p j : Nat} (h : 1 ≤ j) : q_dpM d y rc f p j = if q_ref d y rc f p j = 0 then nI j else q_dpM d y rc f p (j - 1) := by
  obtain ⟨k, rfl⟩ : ∃ k, j = k + 1 := ⟨j - 1, by omega⟩
  rfl
theorem q_yf_s {d : RW} {rc : Nat → Bool} {f : Int32} {p dep yn j : Nat} (h : j ≤ 100) : q_yf d rc f p dep yn (101 - j) = if q_ref d (nI (yn + j)) rc f p dep = 0 then nI (yn + j) else q_yf d rc f p dep yn (101 - (j + 1)) := by
  rw [show 101 - j = (100 - j) + 1 by omega, show 101 - (j + 1) = 100 - j by omega]
  show (if q_ref d (nI (yn + (100 - (100 - j)))) rc f p dep = 0 then nI (yn + (100 - (100 - j))) else _) = _
  rw [show 100 - (100 - j) = j by omega]

set_option maxHeartbeats 4000000 in
set_option maxRecDepth 100000 in
theorem c_X2_number {l : Launch} {dC : Nat → ClassId} {dI : Nat → Nat → Nat} {cI cL cJ : ClassId} {g1 g2 : Nat} {A : Nat → Prop} {o sa ba a e : Nat} {t : Nat → Nat} {n len : Nat} {tx : Nat → Int32} {y : Int32} {d : RW} {x : PS} {sv : Nat → LO} {what : Nat} (hw : what ≤ 8) (hki : INV d)  : Met l yX2_number (.code yX2_number cX2_number 2 (some .int) :: WG) (rmL 5) (va_Pc [.ref o, .int (nI what)] (BDM dC dI cI cL cJ g1 g2 A o sa ba a e t n len tx y d (q_rw d 0) x sv)) (bq_S (.int (q_ctM d y y (nI n) (q_rc d) what))) 0 0 (fun _ => False) := by
  refine bq_of [some (.ref o), some (.int (nI what))] rfl rfl (Nat.le_of_ble_eq_true rfl) (by decide) ?_
  intro P_ E_ s M_ B_ T_ K_ C hv
  obtain ⟨hP, hD, hK, hZ, hX⟩ := hv
  have hS : va_S A s.heap s.heap [] := va_S.rf
  refine g_iload1 C dX2_number_0 ?_
  refine g_bipush C (nI 8) (by decide) dX2_number_1 ?_
  refine g_icmp_neN C (by omega) (by omega) 13 dX2_number_3 (by decide) (fun h3 => ?_) (fun h3 => ?_)
  · refine g_aload0 C dX2_number_13 ?_
    refine g_get (ci := 2) (T := TX2) (N := 6) C inX2 hK hP 0 rfl rfl 0 (by decide) wf_X2_10 ⟨rfl, rfl, rfl⟩ rfl dX2_number_14 ?_
    refine g_iload1 C dX2_number_17 ?_
    refine g_lcV1 C hK (P_n hP) hZ hS (c_X1_total (by omega) hki) wl_X2_210 wi_X1_total wv_X1_total wc_X1_total (by decide +kernel) ⟨rfl, rfl, by decide, by decide⟩ rfl (by simp [Value.category]) ⟨by decide, by decide⟩ dX2_number_18 ?_
    exact g_ireti C (q_tot_M hki (by omega)) dX2_number_21
  · refine g_aload0 C dX2_number_6 ?_
    refine g_get (ci := 2) (T := TX2) (N := 6) C inX2 hK hP 0 rfl rfl 2 (by decide) wf_X2_20 ⟨rfl, rfl, rfl⟩ rfl dX2_number_7 ?_
    refine g_goto C 21 dX2_number_10 (by decide) ?_
    exact g_ireti C (by subst h3; rfl) dX2_number_21

set_option maxHeartbeats 4000000 in
set_option maxRecDepth 100000 in
theorem c_X2_plot {l : Launch} {dC : Nat → ClassId} {dI : Nat → Nat → Nat} {cI cL cJ : ClassId} {g1 g2 : Nat} {A : Nat → Prop} {o sa ba a e : Nat} {t : Nat → Nat} {n len : Nat} {tx : Nat → Int32} {y : Int32} {d : RW} {x : PS} {sv : Nat → LO} (hls : l.stackTraces = false) (hki : INV d) {p w : Int32} : vx_Met l yX2_plot (.code yX2_plot cX2_plot 3 (some .int) :: WG) (rmC 7 4 24) (va_Pc [.ref o, .int p, .int w] (BDM dC dI cI cL cJ g1 g2 A o sa ba a e t n len tx y d (q_rw d 0) x sv)) (bx_Q (k_pw p w) (some (.int (q_pp d y (q_rc d) (q_n p) (q_n w)))) (fun _ => True) (fun _ => False)) (bx_C clI (k_pw p w) (fun _ => True) (fun _ => False)) 4 24 (fun _ => False) := by
  refine bx_of [some (.ref o), some (.int p), some (.int w)] rfl rfl (Nat.le_of_ble_eq_true rfl) (by decide) ?_
  intro P_ E_ s M_ B_ T_ K_ C hT hv
  obtain ⟨hP, hD, hK, hZ, hX⟩ := hv
  have hS : va_S A s.heap s.heap [] := va_S.rf
  have hS0 : va_S (fun _ => False) s.heap s.heap [] := va_S.rf
  have hX0 : XE (fun _ => False) s s.heap := hX.narrow (fun _ h => h.elim)
  refine g_iload1 C dX2_plot_0 ?_
  refine g_xcS (As := [.int p]) C hT (c_X2_needPlot hls) 1 rfl wl_X2_38 wt_X2_needPlot wn_X2 wc_X2_needPlot (by decide +kernel) ⟨rfl, rfl, by decide, by decide⟩ XE.bl (fun U hU hW => hX0.at hS0 hU hW) rfl rfl (by simp [Value.category]) ⟨by decide, by decide⟩ ⟨by decide, by decide⟩ dX2_plot_1 (fun z => by have hb : ¬ q_isP p := k01.mp z; have hk : k_pw p w = 1 := (by exact if_pos hb); rw [hk]; exact ⟨by decide, rfl⟩) (fun _ _ _ => trivial) (fun hz => ?_)
  have hP1 : q_isP p := k00.mp hz
  obtain ⟨m1, b1l, b1h, rfl⟩ := q_rng (by decide) (by decide) hP1
  have hq1 : q_n (nI m1) = m1 := q_n_nI (by omega)
  try rw [hq1]
  refine g_iload2 C dX2_plot_4 ?_
  refine g_bipush C (nI 8) (by decide) dX2_plot_5 ?_
  refine g_xcS (As := [.int w, .int (nI 8)]) C hT (c_X2_needProperty (b := 8) hls) 2 rfl wl_X2_148 wt_X2_needProperty wn_X2 wc_X2_needProperty (by decide +kernel) ⟨rfl, rfl, by decide, by decide⟩ XE.bl (fun U hU hW => hX0.at hS0 hU hW) rfl rfl (by simp [Value.category]) ⟨by decide, by decide⟩ ⟨by decide, by decide⟩ dX2_plot_7 (fun z => by have hb : ¬ (nI 0 ≤ w ∧ w ≤ nI 8) := k01.mp z; have hk : k_pw (nI m1) w = 2 := (by unfold k_pw; rw [if_neg (fun z => z hP1), if_pos hb]); rw [hk]; exact ⟨by decide, rfl⟩) (fun _ _ _ => trivial) (fun hz => ?_)
  have hQ2 : (nI 0 ≤ w ∧ w ≤ nI 8) := k00.mp hz
  obtain ⟨m2, b2l, b2h, rfl⟩ := q_rng (by decide) (by decide) hQ2
  have hq2 : q_n (nI m2) = m2 := q_n_nI (by omega)
  try rw [hq2]
  refine g_aload0 C dX2_plot_10 ?_
  refine g_get (ci := 2) (T := TX2) (N := 6) C inX2 hK hP 0 rfl rfl 0 (by decide) wf_X2_10 ⟨rfl, rfl, rfl⟩ rfl dX2_plot_11 ?_
  refine g_iload1 C dX2_plot_14 ?_
  refine g_iload2 C dX2_plot_15 ?_
  refine g_lcV2 C hK (P_n hP) hZ hS (c_X1_plotProperty (by omega) (by omega) hki) wl_X2_152 wi_X1_plotProperty wv_X1_plotProperty wc_X1_plotProperty (by decide +kernel) ⟨rfl, rfl, by decide, by decide⟩ rfl (by simp [Value.category]) ⟨by decide, by decide⟩ dX2_plot_16 ?_
  have hk : k_pw (nI m1) (nI m2) = 0 := by unfold k_pw; rw [if_neg (fun z => z hP1), if_neg (fun z => z hQ2)]
  refine g_wd (k := 4) (n := 24) (by decide) (by decide) ?_
  exact g_xiret C hk trivial hS0 (q_pp_rc (q_rb_rc d (by omega))) dX2_plot_19

set_option maxHeartbeats 4000000 in
set_option maxRecDepth 100000 in
theorem c_X2_burial {l : Launch} {dC : Nat → ClassId} {dI : Nat → Nat → Nat} {cI cL cJ : ClassId} {g1 g2 : Nat} {A : Nat → Prop} {o sa ba a e : Nat} {t : Nat → Nat} {n len : Nat} {tx : Nat → Int32} {y : Int32} {d : RW} {x : PS} {sv : Nat → LO} (hls : l.stackTraces = false) (hki : INV d) {p dep w : Int32} : vx_Met l yX2_burial (.code yX2_burial cX2_burial 4 (some .int) :: WG) (rmC 7 4 24) (va_Pc [.ref o, .int p, .int dep, .int w] (BDM dC dI cI cL cJ g1 g2 A o sa ba a e t n len tx y d (q_rw d 0) x sv)) (bx_Q (k_bl p dep w) (some (.int (q_bp d y (q_n p * 3 + (q_n dep - 1)) (q_n w)))) (fun _ => True) (fun _ => False)) (bx_C clI (k_bl p dep w) (fun _ => True) (fun _ => False)) 4 24 (fun _ => False) := by
  refine bx_of [some (.ref o), some (.int p), some (.int dep), some (.int w)] rfl rfl (Nat.le_of_ble_eq_true rfl) (by decide) ?_
  intro P_ E_ s M_ B_ T_ K_ C hT hv
  obtain ⟨hP, hD, hK, hZ, hX⟩ := hv
  have hS : va_S A s.heap s.heap [] := va_S.rf
  have hS0 : va_S (fun _ => False) s.heap s.heap [] := va_S.rf
  have hX0 : XE (fun _ => False) s s.heap := hX.narrow (fun _ h => h.elim)
  refine g_iload1 C dX2_burial_0 ?_
  refine g_xcS (As := [.int p]) C hT (c_X2_needPlot hls) 1 rfl wl_X2_38 wt_X2_needPlot wn_X2 wc_X2_needPlot (by decide +kernel) ⟨rfl, rfl, by decide, by decide⟩ XE.bl (fun U hU hW => hX0.at hS0 hU hW) rfl rfl (by simp [Value.category]) ⟨by decide, by decide⟩ ⟨by decide, by decide⟩ dX2_burial_1 (fun z => by have hb : ¬ q_isP p := k01.mp z; have hk : k_bl p dep w = 1 := (by exact if_pos (fun z => hb z.1)); rw [hk]; exact ⟨by decide, rfl⟩) (fun _ _ _ => trivial) (fun hz => ?_)
  have hP1 : q_isP p := k00.mp hz
  obtain ⟨m1, b1l, b1h, rfl⟩ := q_rng (by decide) (by decide) hP1
  have hq1 : q_n (nI m1) = m1 := q_n_nI (by omega)
  try rw [hq1]
  refine g_iload2 C dX2_burial_4 ?_
  refine g_scS1 C (c_X2_isDepth) wl_X2_155 wt_X2_isDepth wn_X2 wc_X2_isDepth (by decide +kernel) ⟨rfl, rfl, by decide, by decide⟩ rfl (by simp [Value.category]) ⟨by decide, by decide⟩ dX2_burial_5 ?_
  refine g_if_neB C 21 dX2_burial_8 (by decide) (fun h8 => ?_) (fun h8 => ?_)
  · have hD2 := h8
    obtain ⟨m2, b2l, b2h, rfl⟩ := q_rng (by decide) (by decide) hD2
    have hq2 : q_n (nI m2) = m2 := q_n_nI (by omega)
    try rw [hq2]
    refine g_iload3 C dX2_burial_21 ?_
    refine g_iconst C (nI 3) (by decide) dX2_burial_22 ?_
    refine g_xcS (As := [.int w, .int (nI 3)]) C hT (c_X2_needProperty (b := 3) hls) 2 rfl wl_X2_148 wt_X2_needProperty wn_X2 wc_X2_needProperty (by decide +kernel) ⟨rfl, rfl, by decide, by decide⟩ XE.bl (fun U hU hW => hX0.at hS0 hU hW) rfl rfl (by simp [Value.category]) ⟨by decide, by decide⟩ ⟨by decide, by decide⟩ dX2_burial_23 (fun z => by have hb : ¬ (nI 0 ≤ w ∧ w ≤ nI 3) := k01.mp z; have hk : k_bl (nI m1) (nI m2) w = 2 := (by unfold k_bl; rw [if_neg (fun z => z ⟨hP1, hD2.1, hD2.2⟩), if_pos hb]); rw [hk]; exact ⟨by decide, rfl⟩) (fun _ _ _ => trivial) (fun hz => ?_)
    have hQ3 : (nI 0 ≤ w ∧ w ≤ nI 3) := k00.mp hz
    obtain ⟨m3, b3l, b3h, rfl⟩ := q_rng (by decide) (by decide) hQ3
    have hq3 : q_n (nI m3) = m3 := q_n_nI (by omega)
    try rw [hq3]
    refine g_aload0 C dX2_burial_26 ?_
    refine g_get (ci := 2) (T := TX2) (N := 6) C inX2 hK hP 0 rfl rfl 0 (by decide) wf_X2_10 ⟨rfl, rfl, rfl⟩ rfl dX2_burial_27 ?_
    refine g_iload1 C dX2_burial_30 ?_
    refine g_iload2 C dX2_burial_31 ?_
    refine g_iload3 C dX2_burial_32 ?_
    refine g_lcV3 C hK (P_n hP) hZ hS (c_X1_burialProperty (by omega) (by omega) (by omega) (by omega) hki) wl_X2_160 wi_X1_burialProperty wv_X1_burialProperty wc_X1_burialProperty (by decide +kernel) ⟨rfl, rfl, by decide, by decide⟩ rfl (by simp [Value.category]) ⟨by decide, by decide⟩ dX2_burial_33 ?_
    have hk : k_bl (nI m1) (nI m2) (nI m3) = 0 := by unfold k_bl; rw [if_neg (fun z => z ⟨hP1, hD2.1, hD2.2⟩), if_neg (fun z => z hQ3)]
    refine g_wd (k := 4) (n := 24) (by decide) (by decide) ?_
    exact g_xiret C hk trivial hS0 (rfl) dX2_burial_36
  · have hk : k_bl (nI m1) dep w = 1 := if_pos (fun z => h8 z.2)
    exact g_thrIO C hT hls hX0 hS0 (List.mem_of_getElem? (i := 9) rfl) rfl dX2_burial_11 dX2_burial_14 dX2_burial_15 dX2_burial_17 dX2_burial_20 ⟨by decide, by decide, by decide, by decide⟩ ⟨by decide, by decide⟩ (by rw [hk]; decide) (by first | (rw [hk]; rfl) | rfl) (fun _ _ _ => trivial) (fun _ h => h) (fun z hz => absurd hz List.not_mem_nil)

set_option maxHeartbeats 4000000 in
set_option maxRecDepth 100000 in
theorem c_X2_family {l : Launch} {dC : Nat → ClassId} {dI : Nat → Nat → Nat} {cI cL cJ : ClassId} {g1 g2 : Nat} {A : Nat → Prop} {o sa ba a e : Nat} {t : Nat → Nat} {n len : Nat} {tx : Nat → Int32} {y : Int32} {d : RW} {x : PS} {sv : Nat → LO} (hls : l.stackTraces = false) (hki : INV d) {f w : Int32} : vx_Met l yX2_family (.code yX2_family cX2_family 3 (some .int) :: WG) (rmC 7 4 24) (va_Pc [.ref o, .int f, .int w] (BDM dC dI cI cL cJ g1 g2 A o sa ba a e t n len tx y d (q_rw d 0) x sv)) (bx_Q (k_fw f w) (some (.int (q_fpM d y (q_n f) (q_n w)))) (fun _ => True) (fun _ => False)) (bx_C clI (k_fw f w) (fun _ => True) (fun _ => False)) 4 24 (fun _ => False) := by
  refine bx_of [some (.ref o), some (.int f), some (.int w)] rfl rfl (Nat.le_of_ble_eq_true rfl) (by decide) ?_
  intro P_ E_ s M_ B_ T_ K_ C hT hv
  obtain ⟨hP, hD, hK, hZ, hX⟩ := hv
  have hS : va_S A s.heap s.heap [] := va_S.rf
  have hS0 : va_S (fun _ => False) s.heap s.heap [] := va_S.rf
  have hX0 : XE (fun _ => False) s s.heap := hX.narrow (fun _ h => h.elim)
  refine g_iload1 C dX2_family_0 ?_
  refine g_xcS (As := [.int f]) C hT (c_X2_needFamily hls) 1 rfl wl_X2_81 wt_X2_needFamily wn_X2 wc_X2_needFamily (by decide +kernel) ⟨rfl, rfl, by decide, by decide⟩ XE.bl (fun U hU hW => hX0.at hS0 hU hW) rfl rfl (by simp [Value.category]) ⟨by decide, by decide⟩ ⟨by decide, by decide⟩ dX2_family_1 (fun z => by have hb : ¬ q_isF f := k01.mp z; have hk : k_fw f w = 1 := (by exact if_pos hb); rw [hk]; exact ⟨by decide, rfl⟩) (fun _ _ _ => trivial) (fun hz => ?_)
  have hF1 : q_isF f := k00.mp hz
  obtain ⟨m1, b1l, b1h, rfl⟩ := q_rng (by decide) (by decide) hF1
  have hq1 : q_n (nI m1) = m1 := q_n_nI (by omega)
  try rw [hq1]
  refine g_iload2 C dX2_family_4 ?_
  refine g_iconst C (nI 5) (by decide) dX2_family_5 ?_
  refine g_xcS (As := [.int w, .int (nI 5)]) C hT (c_X2_needProperty (b := 5) hls) 2 rfl wl_X2_148 wt_X2_needProperty wn_X2 wc_X2_needProperty (by decide +kernel) ⟨rfl, rfl, by decide, by decide⟩ XE.bl (fun U hU hW => hX0.at hS0 hU hW) rfl rfl (by simp [Value.category]) ⟨by decide, by decide⟩ ⟨by decide, by decide⟩ dX2_family_6 (fun z => by have hb : ¬ (nI 0 ≤ w ∧ w ≤ nI 5) := k01.mp z; have hk : k_fw (nI m1) w = 2 := (by unfold k_fw; rw [if_neg (fun z => z hF1), if_pos hb]); rw [hk]; exact ⟨by decide, rfl⟩) (fun _ _ _ => trivial) (fun hz => ?_)
  have hQ2 : (nI 0 ≤ w ∧ w ≤ nI 5) := k00.mp hz
  obtain ⟨m2, b2l, b2h, rfl⟩ := q_rng (by decide) (by decide) hQ2
  have hq2 : q_n (nI m2) = m2 := q_n_nI (by omega)
  try rw [hq2]
  refine g_aload0 C dX2_family_9 ?_
  refine g_get (ci := 2) (T := TX2) (N := 6) C inX2 hK hP 0 rfl rfl 0 (by decide) wf_X2_10 ⟨rfl, rfl, rfl⟩ rfl dX2_family_10 ?_
  refine g_iload1 C dX2_family_13 ?_
  refine g_iload2 C dX2_family_14 ?_
  refine g_lcV2 C hK (P_n hP) hZ hS (c_X1_familyProperty (by omega) (by omega) hki) wl_X2_163 wi_X1_familyProperty wv_X1_familyProperty wc_X1_familyProperty (by decide +kernel) ⟨rfl, rfl, by decide, by decide⟩ rfl (by simp [Value.category]) ⟨by decide, by decide⟩ dX2_family_15 ?_
  have hk : k_fw (nI m1) (nI m2) = 0 := by unfold k_fw; rw [if_neg (fun z => z hF1), if_neg (fun z => z hQ2)]
  refine g_wd (k := 4) (n := 24) (by decide) (by decide) ?_
  exact g_xiret C hk trivial hS0 (q_fp_M (by omega)) dX2_family_18

set_option maxHeartbeats 4000000 in
set_option maxRecDepth 100000 in
theorem c_X2_count {l : Launch} {dC : Nat → ClassId} {dI : Nat → Nat → Nat} {cI cL cJ : ClassId} {g1 g2 : Nat} {A : Nat → Prop} {o sa ba a e : Nat} {t : Nat → Nat} {n len : Nat} {tx : Nat → Int32} {y : Int32} {d : RW} {x : PS} {sv : Nat → LO} (hls : l.stackTraces = false) (hki : INV d) {w : Int32} : vx_Met l yX2_count (.code yX2_count cX2_count 2 (some .int) :: WG) (rmC 7 4 24) (va_Pc [.ref o, .int w] (BDM dC dI cI cL cJ g1 g2 A o sa ba a e t n len tx y d (q_rw d 0) x sv)) (bx_Q (k_w w) (some (.int (q_ctM d y y (nI n) (q_rc d) (q_n w)))) (fun _ => True) (fun _ => False)) (bx_C (fun _ => XIA) (k_w w) (fun _ => True) (fun _ => False)) 4 24 (fun _ => False) := by
  refine bx_of [some (.ref o), some (.int w)] rfl rfl (Nat.le_of_ble_eq_true rfl) (by decide) ?_
  intro P_ E_ s M_ B_ T_ K_ C hT hv
  obtain ⟨hP, hD, hK, hZ, hX⟩ := hv
  have hS : va_S A s.heap s.heap [] := va_S.rf
  have hS0 : va_S (fun _ => False) s.heap s.heap [] := va_S.rf
  have hX0 : XE (fun _ => False) s s.heap := hX.narrow (fun _ h => h.elim)
  refine g_iload1 C dX2_count_0 ?_
  refine g_bipush C (nI 8) (by decide) dX2_count_1 ?_
  refine g_xcS (As := [.int w, .int (nI 8)]) C hT (c_X2_needProperty (b := 8) hls) 2 rfl wl_X2_148 wt_X2_needProperty wn_X2 wc_X2_needProperty (by decide +kernel) ⟨rfl, rfl, by decide, by decide⟩ XE.bl (fun U hU hW => hX0.at hS0 hU hW) rfl rfl (by simp [Value.category]) ⟨by decide, by decide⟩ ⟨by decide, by decide⟩ dX2_count_3 (fun z => by have hb : ¬ (nI 0 ≤ w ∧ w ≤ nI 8) := k01.mp z; have hk : k_w w = 1 := (by exact if_pos hb); rw [hk]; exact ⟨by decide, rfl⟩) (fun _ _ _ => trivial) (fun hz => ?_)
  have hQ1 : (nI 0 ≤ w ∧ w ≤ nI 8) := k00.mp hz
  obtain ⟨m1, b1l, b1h, rfl⟩ := q_rng (by decide) (by decide) hQ1
  have hq1 : q_n (nI m1) = m1 := q_n_nI (by omega)
  try rw [hq1]
  refine g_aload0 C dX2_count_6 ?_
  refine g_iload1 C dX2_count_7 ?_
  refine g_pcN (As := [.int (nI m1)]) C 1 rfl (c_X2_number (by omega) hki) wl_X2_166 wi_X2_number wv_X2_number wn_X2 wc_X2_number (by decide +kernel) ⟨rfl, rfl, by decide, by decide⟩ BDM_bl (va_recv (ci := 2) (q0 := 0) hK hP rfl rfl) (BDM_at hK hP hD hZ hX hS (fun _ h => h)) rfl rfl (by simp [Value.category]) ⟨by decide, by decide⟩ dX2_count_8 ?_
  have hk : k_w (nI m1) = 0 := by exact if_neg (fun z => z hQ1)
  refine g_wd (k := 4) (n := 24) (by decide) (by decide) ?_
  exact g_xiret C hk trivial hS0 (rfl) dX2_count_11

set_option maxHeartbeats 4000000 in
set_option maxRecDepth 100000 in
theorem c_X2_why {l : Launch} {dC : Nat → ClassId} {dI : Nat → Nat → Nat} {cI cL cJ : ClassId} {g1 g2 : Nat} {A : Nat → Prop} {o sa ba a e : Nat} {t : Nat → Nat} {n len : Nat} {tx : Nat → Int32} {y : Int32} {d : RW} {x : PS} {sv : Nat → LO} (hls : l.stackTraces = false) (hki : INV d) {f p dep : Int32} : vx_Met l yX2_why (.code yX2_why cX2_why 4 (some .int) :: WG) (rmC 7 4 24) (va_Pc [.ref o, .int f, .int p, .int dep] (BDM dC dI cI cL cJ g1 g2 A o sa ba a e t n len tx y d (q_rw d 0) x sv)) (bx_Q (k_fpd f p dep) (some (.int (q_ref d y (q_rc d) f (q_n p) (q_n dep)))) (fun _ => True) (fun _ => False)) (bx_C clI (k_fpd f p dep) (fun _ => True) (fun _ => False)) 4 24 (fun _ => False) := by
  refine bx_of [some (.ref o), some (.int f), some (.int p), some (.int dep)] rfl rfl (Nat.le_of_ble_eq_true rfl) (by decide) ?_
  intro P_ E_ s M_ B_ T_ K_ C hT hv
  obtain ⟨hP, hD, hK, hZ, hX⟩ := hv
  have hS : va_S A s.heap s.heap [] := va_S.rf
  have hS0 : va_S (fun _ => False) s.heap s.heap [] := va_S.rf
  have hX0 : XE (fun _ => False) s s.heap := hX.narrow (fun _ h => h.elim)
  refine g_iload1 C dX2_why_0 ?_
  refine g_xcS (As := [.int f]) C hT (c_X2_needFamily hls) 1 rfl wl_X2_81 wt_X2_needFamily wn_X2 wc_X2_needFamily (by decide +kernel) ⟨rfl, rfl, by decide, by decide⟩ XE.bl (fun U hU hW => hX0.at hS0 hU hW) rfl rfl (by simp [Value.category]) ⟨by decide, by decide⟩ ⟨by decide, by decide⟩ dX2_why_1 (fun z => by have hb : ¬ q_isF f := k01.mp z; have hk : k_fpd f p dep = 1 := (by exact if_pos (fun z => hb z.1)); rw [hk]; exact ⟨by decide, rfl⟩) (fun _ _ _ => trivial) (fun hz => ?_)
  have hF1 : q_isF f := k00.mp hz
  obtain ⟨m1, b1l, b1h, rfl⟩ := q_rng (by decide) (by decide) hF1
  have hq1 : q_n (nI m1) = m1 := q_n_nI (by omega)
  try rw [hq1]
  refine g_iload2 C dX2_why_4 ?_
  refine g_xcS (As := [.int p]) C hT (c_X2_needPlot hls) 1 rfl wl_X2_38 wt_X2_needPlot wn_X2 wc_X2_needPlot (by decide +kernel) ⟨rfl, rfl, by decide, by decide⟩ XE.bl (fun U hU hW => hX0.at hS0 hU hW) rfl rfl (by simp [Value.category]) ⟨by decide, by decide⟩ ⟨by decide, by decide⟩ dX2_why_5 (fun z => by have hb : ¬ q_isP p := k01.mp z; have hk : k_fpd (nI m1) p dep = 1 := (by exact if_pos (fun z => hb z.2)); rw [hk]; exact ⟨by decide, rfl⟩) (fun _ _ _ => trivial) (fun hz => ?_)
  have hP2 : q_isP p := k00.mp hz
  obtain ⟨m2, b2l, b2h, rfl⟩ := q_rng (by decide) (by decide) hP2
  have hq2 : q_n (nI m2) = m2 := q_n_nI (by omega)
  try rw [hq2]
  refine g_iload3 C dX2_why_8 ?_
  refine g_xcS (As := [.int dep]) C hT (c_X2_needDepth hls) 1 rfl wl_X2_87 wt_X2_needDepth wn_X2 wc_X2_needDepth (by decide +kernel) ⟨rfl, rfl, by decide, by decide⟩ XE.bl (fun U hU hW => hX0.at hS0 hU hW) rfl rfl (by simp [Value.category]) ⟨by decide, by decide⟩ ⟨by decide, by decide⟩ dX2_why_9 (fun z => by have hb : ¬ (nI 1 ≤ dep ∧ dep ≤ nI 3) := k01.mp z; have hk : k_fpd (nI m1) (nI m2) dep = 2 := (by unfold k_fpd; rw [if_neg (fun z => z ⟨hF1, hP2⟩), if_pos hb]); rw [hk]; exact ⟨by decide, rfl⟩) (fun _ _ _ => trivial) (fun hz => ?_)
  have hD3 : (nI 1 ≤ dep ∧ dep ≤ nI 3) := k00.mp hz
  obtain ⟨m3, b3l, b3h, rfl⟩ := q_rng (by decide) (by decide) hD3
  have hq3 : q_n (nI m3) = m3 := q_n_nI (by omega)
  try rw [hq3]
  refine g_aload0 C dX2_why_12 ?_
  refine g_get (ci := 2) (T := TX2) (N := 6) C inX2 hK hP 0 rfl rfl 0 (by decide) wf_X2_10 ⟨rfl, rfl, rfl⟩ rfl dX2_why_13 ?_
  refine g_iload1 C dX2_why_16 ?_
  refine g_iload2 C dX2_why_17 ?_
  refine g_iload3 C dX2_why_18 ?_
  refine g_aload0 C dX2_why_19 ?_
  refine g_get (ci := 2) (T := TX2) (N := 6) C inX2 hK hP 0 rfl rfl 0 (by decide) wf_X2_10 ⟨rfl, rfl, rfl⟩ rfl dX2_why_20 ?_
  refine g_get (ci := 1) (T := TX1) (N := 12) C inX1 hK hP 3 rfl rfl 0 (by decide) wf_X2_72 ⟨rfl, rfl, rfl⟩ rfl dX2_why_23 ?_
  refine g_lcV4 C hK (P_n hP) hZ hS (c_X1_refusal (by omega) (by omega) hki) wl_X2_90 wi_X1_refusal wv_X1_refusal wc_X1_refusal (by decide +kernel) ⟨rfl, rfl, by decide, by decide⟩ rfl (by simp [Value.category]) ⟨by decide, by decide⟩ dX2_why_26 ?_
  have hk : k_fpd (nI m1) (nI m2) (nI m3) = 0 := by unfold k_fpd; rw [if_neg (fun z => z ⟨hF1, hP2⟩), if_neg (fun z => z hD3)]
  refine g_wd (k := 4) (n := 24) (by decide) (by decide) ?_
  exact g_xiret C hk trivial hS0 (q_ref_rc (q_rb_rc d (by omega))) dX2_why_29

set_option maxHeartbeats 4000000 in
set_option maxRecDepth 100000 in
theorem c_X2_fee {l : Launch} {dC : Nat → ClassId} {dI : Nat → Nat → Nat} {cI cL cJ : ClassId} {g1 g2 : Nat} {A : Nat → Prop} {o sa ba a e : Nat} {t : Nat → Nat} {n len : Nat} {tx : Nat → Int32} {y : Int32} {d : RW} {x : PS} {sv : Nat → LO} (hls : l.stackTraces = false) (hki : INV d) {f p dep : Int32} : vx_Met l yX2_fee (.code yX2_fee cX2_fee 4 (some .int) :: WG) (rmC 7 4 24) (va_Pc [.ref o, .int f, .int p, .int dep] (BDM dC dI cI cL cJ g1 g2 A o sa ba a e t n len tx y d (q_rw d 0) x sv)) (bx_Q (k_fpd f p dep) (some (.int (q_fee d y (q_n f) (q_n p) (q_n dep)))) (fun _ => True) (fun _ => False)) (bx_C clI (k_fpd f p dep) (fun _ => True) (fun _ => False)) 4 24 (fun _ => False) := by
  refine bx_of [some (.ref o), some (.int f), some (.int p), some (.int dep)] rfl rfl (Nat.le_of_ble_eq_true rfl) (by decide) ?_
  intro P_ E_ s M_ B_ T_ K_ C hT hv
  obtain ⟨hP, hD, hK, hZ, hX⟩ := hv
  have hS : va_S A s.heap s.heap [] := va_S.rf
  have hS0 : va_S (fun _ => False) s.heap s.heap [] := va_S.rf
  have hX0 : XE (fun _ => False) s s.heap := hX.narrow (fun _ h => h.elim)
  refine g_iload1 C dX2_fee_0 ?_
  refine g_xcS (As := [.int f]) C hT (c_X2_needFamily hls) 1 rfl wl_X2_81 wt_X2_needFamily wn_X2 wc_X2_needFamily (by decide +kernel) ⟨rfl, rfl, by decide, by decide⟩ XE.bl (fun U hU hW => hX0.at hS0 hU hW) rfl rfl (by simp [Value.category]) ⟨by decide, by decide⟩ ⟨by decide, by decide⟩ dX2_fee_1 (fun z => by have hb : ¬ q_isF f := k01.mp z; have hk : k_fpd f p dep = 1 := (by exact if_pos (fun z => hb z.1)); rw [hk]; exact ⟨by decide, rfl⟩) (fun _ _ _ => trivial) (fun hz => ?_)
  have hF1 : q_isF f := k00.mp hz
  obtain ⟨m1, b1l, b1h, rfl⟩ := q_rng (by decide) (by decide) hF1
  have hq1 : q_n (nI m1) = m1 := q_n_nI (by omega)
  try rw [hq1]
  refine g_iload2 C dX2_fee_4 ?_
  refine g_xcS (As := [.int p]) C hT (c_X2_needPlot hls) 1 rfl wl_X2_38 wt_X2_needPlot wn_X2 wc_X2_needPlot (by decide +kernel) ⟨rfl, rfl, by decide, by decide⟩ XE.bl (fun U hU hW => hX0.at hS0 hU hW) rfl rfl (by simp [Value.category]) ⟨by decide, by decide⟩ ⟨by decide, by decide⟩ dX2_fee_5 (fun z => by have hb : ¬ q_isP p := k01.mp z; have hk : k_fpd (nI m1) p dep = 1 := (by exact if_pos (fun z => hb z.2)); rw [hk]; exact ⟨by decide, rfl⟩) (fun _ _ _ => trivial) (fun hz => ?_)
  have hP2 : q_isP p := k00.mp hz
  obtain ⟨m2, b2l, b2h, rfl⟩ := q_rng (by decide) (by decide) hP2
  have hq2 : q_n (nI m2) = m2 := q_n_nI (by omega)
  try rw [hq2]
  refine g_iload3 C dX2_fee_8 ?_
  refine g_xcS (As := [.int dep]) C hT (c_X2_needDepth hls) 1 rfl wl_X2_87 wt_X2_needDepth wn_X2 wc_X2_needDepth (by decide +kernel) ⟨rfl, rfl, by decide, by decide⟩ XE.bl (fun U hU hW => hX0.at hS0 hU hW) rfl rfl (by simp [Value.category]) ⟨by decide, by decide⟩ ⟨by decide, by decide⟩ dX2_fee_9 (fun z => by have hb : ¬ (nI 1 ≤ dep ∧ dep ≤ nI 3) := k01.mp z; have hk : k_fpd (nI m1) (nI m2) dep = 2 := (by unfold k_fpd; rw [if_neg (fun z => z ⟨hF1, hP2⟩), if_pos hb]); rw [hk]; exact ⟨by decide, rfl⟩) (fun _ _ _ => trivial) (fun hz => ?_)
  have hD3 : (nI 1 ≤ dep ∧ dep ≤ nI 3) := k00.mp hz
  obtain ⟨m3, b3l, b3h, rfl⟩ := q_rng (by decide) (by decide) hD3
  have hq3 : q_n (nI m3) = m3 := q_n_nI (by omega)
  try rw [hq3]
  refine g_aload0 C dX2_fee_12 ?_
  refine g_get (ci := 2) (T := TX2) (N := 6) C inX2 hK hP 0 rfl rfl 0 (by decide) wf_X2_10 ⟨rfl, rfl, rfl⟩ rfl dX2_fee_13 ?_
  refine g_iload1 C dX2_fee_16 ?_
  refine g_iload2 C dX2_fee_17 ?_
  refine g_iload3 C dX2_fee_18 ?_
  refine g_lcV3 C hK (P_n hP) hZ hS (c_X1_burialFee (by omega) (by omega) (by omega)) wl_X2_169 wi_X1_burialFee wv_X1_burialFee wc_X1_burialFee (by decide +kernel) ⟨rfl, rfl, by decide, by decide⟩ rfl (by simp [Value.category]) ⟨by decide, by decide⟩ dX2_fee_19 ?_
  have hk : k_fpd (nI m1) (nI m2) (nI m3) = 0 := by unfold k_fpd; rw [if_neg (fun z => z ⟨hF1, hP2⟩), if_neg (fun z => z hD3)]
  refine g_wd (k := 4) (n := 24) (by decide) (by decide) ?_
  exact g_xiret C hk trivial hS0 (rfl) dX2_fee_22

set_option maxHeartbeats 4000000 in
set_option maxRecDepth 100000 in
theorem c_X2_deepest {l : Launch} {dC : Nat → ClassId} {dI : Nat → Nat → Nat} {cI cL cJ : ClassId} {g1 g2 : Nat} {A : Nat → Prop} {o sa ba a e : Nat} {t : Nat → Nat} {n len : Nat} {tx : Nat → Int32} {y : Int32} {d : RW} {x : PS} {sv : Nat → LO} (hls : l.stackTraces = false) (hki : INV d) {f p : Int32} : vx_Met l yX2_deepest (.code yX2_deepest cX2_deepest 4 (some .int) :: WG) (rmC 7 4 24) (va_Pc [.ref o, .int f, .int p] (BDM dC dI cI cL cJ g1 g2 A o sa ba a e t n len tx y d (q_rw d 0) x sv)) (bx_Q (k_fp f p) (some (.int (q_dpM d y (q_rc d) f (q_n p) 3))) (fun _ => True) (fun _ => False)) (bx_C (fun _ => XIO) (k_fp f p) (fun _ => True) (fun _ => False)) 4 24 (fun _ => False) := by
  refine bx_of [some (.ref o), some (.int f), some (.int p), none] rfl rfl (Nat.le_of_ble_eq_true rfl) (by decide) ?_
  intro P_ E_ s M_ B_ T_ K_ C hT hv
  obtain ⟨hP, hD, hK, hZ, hX⟩ := hv
  have hS : va_S A s.heap s.heap [] := va_S.rf
  have hS0 : va_S (fun _ => False) s.heap s.heap [] := va_S.rf
  have hX0 : XE (fun _ => False) s s.heap := hX.narrow (fun _ h => h.elim)
  refine g_iload1 C dX2_deepest_0 ?_
  refine g_xcS (As := [.int f]) C hT (c_X2_needFamily hls) 1 rfl wl_X2_81 wt_X2_needFamily wn_X2 wc_X2_needFamily (by decide +kernel) ⟨rfl, rfl, by decide, by decide⟩ XE.bl (fun U hU hW => hX0.at hS0 hU hW) rfl rfl (by simp [Value.category]) ⟨by decide, by decide⟩ ⟨by decide, by decide⟩ dX2_deepest_1 (fun z => by have hb : ¬ q_isF f := k01.mp z; have hk : k_fp f p = 1 := (by exact if_pos (fun z => hb z.1)); rw [hk]; exact ⟨by decide, rfl⟩) (fun _ _ _ => trivial) (fun hz => ?_)
  have hF1 : q_isF f := k00.mp hz
  obtain ⟨m1, b1l, b1h, rfl⟩ := q_rng (by decide) (by decide) hF1
  have hq1 : q_n (nI m1) = m1 := q_n_nI (by omega)
  try rw [hq1]
  refine g_iload2 C dX2_deepest_4 ?_
  refine g_xcS (As := [.int p]) C hT (c_X2_needPlot hls) 1 rfl wl_X2_38 wt_X2_needPlot wn_X2 wc_X2_needPlot (by decide +kernel) ⟨rfl, rfl, by decide, by decide⟩ XE.bl (fun U hU hW => hX0.at hS0 hU hW) rfl rfl (by simp [Value.category]) ⟨by decide, by decide⟩ ⟨by decide, by decide⟩ dX2_deepest_5 (fun z => by have hb : ¬ q_isP p := k01.mp z; have hk : k_fp (nI m1) p = 1 := (by exact if_pos (fun z => hb z.2)); rw [hk]; exact ⟨by decide, rfl⟩) (fun _ _ _ => trivial) (fun hz => ?_)
  have hP2 : q_isP p := k00.mp hz
  obtain ⟨m2, b2l, b2h, rfl⟩ := q_rng (by decide) (by decide) hP2
  have hq2 : q_n (nI m2) = m2 := q_n_nI (by omega)
  try rw [hq2]
  refine g_iconst C (nI 3) (by decide) dX2_deepest_8 ?_
  refine g_istore3 C rfl dX2_deepest_9 ?_
  refine g_lp1 (fun (j : Nat) => j ≤ 3 ∧ q_dpM d y (q_rc d) (nI m1) m2 3 = q_dpM d y (q_rc d) (nI m1) m2 j) (fun j => j) (fun j => [some (.ref o), some (.int (nI m1)), some (.int (nI m2)), some (.int (nI j))]) 3 ⟨by omega, rfl⟩ rfl ?_
  rintro j ⟨hj, hj2⟩ ih
  try dsimp only at ih ⊢
  refine g_iload3 C dX2_deepest_10 ?_
  refine g_iconst C (nI 1) (by decide) dX2_deepest_11 ?_
  refine g_icmp_ltN C (by omega) (by omega) 43 dX2_deepest_12 (by decide) (fun h12 => ?_) (fun h12 => ?_)
  · refine g_iconst C (-1) (by decide) dX2_deepest_43 ?_
    have hk : k_fp (nI m1) (nI m2) = 0 := by exact if_neg (fun z => z ⟨hF1, hP2⟩)
    refine g_wd (k := 4) (n := 24) (by decide) (by decide) ?_
    exact g_xiret C hk trivial hS0 (by rw [hj2, show j = 0 by omega]; rfl) dX2_deepest_44
  · refine g_aload0 C dX2_deepest_15 ?_
    refine g_get (ci := 2) (T := TX2) (N := 6) C inX2 hK hP 0 rfl rfl 0 (by decide) wf_X2_10 ⟨rfl, rfl, rfl⟩ rfl dX2_deepest_16 ?_
    refine g_iload1 C dX2_deepest_19 ?_
    refine g_iload2 C dX2_deepest_20 ?_
    refine g_iload3 C dX2_deepest_21 ?_
    refine g_aload0 C dX2_deepest_22 ?_
    refine g_get (ci := 2) (T := TX2) (N := 6) C inX2 hK hP 0 rfl rfl 0 (by decide) wf_X2_10 ⟨rfl, rfl, rfl⟩ rfl dX2_deepest_23 ?_
    refine g_get (ci := 1) (T := TX1) (N := 12) C inX1 hK hP 3 rfl rfl 0 (by decide) wf_X2_72 ⟨rfl, rfl, rfl⟩ rfl dX2_deepest_26 ?_
    refine g_lcV4 C hK (P_n hP) hZ hS (c_X1_refusal (by omega) (by omega) hki) wl_X2_90 wi_X1_refusal wv_X1_refusal wc_X1_refusal (by decide +kernel) ⟨rfl, rfl, by decide, by decide⟩ rfl (by simp [Value.category]) ⟨by decide, by decide⟩ dX2_deepest_29 ?_
    refine g_top (q_ref_rc (q_rb_rc d (by omega))) ?_
    refine g_if_ne C 37 dX2_deepest_32 (by decide) (fun h32 => ?_) (fun h32 => ?_)
    · refine g_iinc3 C (nI (j - 1)) rfl dX2_deepest_37 (nI_dec1 (by omega)) ?_
      refine g_goto C 10 dX2_deepest_40 (by decide) ?_
      exact ih (j - 1) ⟨by omega, by rw [hj2, q_dpM_s (by omega)]; exact if_neg h32⟩ (by show j - 1 < j; omega)
    · refine g_iload3 C dX2_deepest_35 ?_
      have hk : k_fp (nI m1) (nI m2) = 0 := by exact if_neg (fun z => z ⟨hF1, hP2⟩)
      refine g_wd (k := 4) (n := 24) (by decide) (by decide) ?_
      exact g_xiret C hk trivial hS0 (by rw [hj2, q_dpM_s (by omega)]; exact (if_pos h32).symm) dX2_deepest_36

set_option maxHeartbeats 4000000 in
set_option maxRecDepth 100000 in
theorem c_X2_bestPlot {l : Launch} {dC : Nat → ClassId} {dI : Nat → Nat → Nat} {cI cL cJ : ClassId} {g1 g2 : Nat} {A : Nat → Prop} {o sa ba a e : Nat} {t : Nat → Nat} {n len : Nat} {tx : Nat → Int32} {y : Int32} {d : RW} {x : PS} {sv : Nat → LO} (hls : l.stackTraces = false) (hki : INV d) {f : Int32} : vx_Met l yX2_bestPlot (.code yX2_bestPlot cX2_bestPlot 2 (some .int) :: WG) (rmC 7 4 24) (va_Pc [.ref o, .int f] (BDM dC dI cI cL cJ g1 g2 A o sa ba a e t n len tx y d (q_rw d 0) x sv)) (bx_Q (k_par f) (some (.int (oN (q_bestM d y (q_rc d) (q_n f) 40).1))) (fun _ => True) (fun _ => False)) (bx_C (fun _ => XIO) (k_par f) (fun _ => True) (fun _ => False)) 4 24 (fun _ => False) := by
  refine bx_of [some (.ref o), some (.int f)] rfl rfl (Nat.le_of_ble_eq_true rfl) (by decide) ?_
  intro P_ E_ s M_ B_ T_ K_ C hT hv
  obtain ⟨hP, hD, hK, hZ, hX⟩ := hv
  have hS : va_S A s.heap s.heap [] := va_S.rf
  have hS0 : va_S (fun _ => False) s.heap s.heap [] := va_S.rf
  have hX0 : XE (fun _ => False) s s.heap := hX.narrow (fun _ h => h.elim)
  refine g_iload1 C dX2_bestPlot_0 ?_
  refine g_xcS (As := [.int f]) C hT (c_X2_needFamily hls) 1 rfl wl_X2_81 wt_X2_needFamily wn_X2 wc_X2_needFamily (by decide +kernel) ⟨rfl, rfl, by decide, by decide⟩ XE.bl (fun U hU hW => hX0.at hS0 hU hW) rfl rfl (by simp [Value.category]) ⟨by decide, by decide⟩ ⟨by decide, by decide⟩ dX2_bestPlot_1 (fun z => by have hb : ¬ q_isF f := k01.mp z; have hk : k_par f = 1 := (by exact if_pos hb); rw [hk]; exact ⟨by decide, rfl⟩) (fun _ _ _ => trivial) (fun hz => ?_)
  have hF1 : q_isF f := k00.mp hz
  obtain ⟨m1, b1l, b1h, rfl⟩ := q_rng (by decide) (by decide) hF1
  have hq1 : q_n (nI m1) = m1 := q_n_nI (by omega)
  try rw [hq1]
  refine g_aload0 C dX2_bestPlot_4 ?_
  refine g_get (ci := 2) (T := TX2) (N := 6) C inX2 hK hP 0 rfl rfl 0 (by decide) wf_X2_10 ⟨rfl, rfl, rfl⟩ rfl dX2_bestPlot_5 ?_
  refine g_iload1 C dX2_bestPlot_8 ?_
  refine g_lcV1 C hK (P_n hP) hZ hS (c_X1_cheapestPlot (by omega) hki) wl_X2_172 wi_X1_cheapestPlot wv_X1_cheapestPlot wc_X1_cheapestPlot (by decide +kernel) ⟨rfl, rfl, by decide, by decide⟩ rfl (by simp [Value.category]) ⟨by decide, by decide⟩ dX2_bestPlot_9 ?_
  have hk : k_par (nI m1) = 0 := by exact if_neg (fun z => z hF1)
  refine g_wd (k := 4) (n := 24) (by decide) (by decide) ?_
  exact g_xiret C hk trivial hS0 (by rw [q_best_M, q_bestM_rc (rc2 := q_rc d) 40 (fun p hp => q_rb_rc d hp)]) dX2_bestPlot_12

set_option maxHeartbeats 4000000 in
set_option maxRecDepth 100000 in
theorem c_X2_clearYear {l : Launch} {dC : Nat → ClassId} {dI : Nat → Nat → Nat} {cI cL cJ : ClassId} {g1 g2 : Nat} {A : Nat → Prop} {o sa ba a e : Nat} {t : Nat → Nat} {n len : Nat} {tx : Nat → Int32} {y : Int32} {d : RW} {x : PS} {sv : Nat → LO} (hls : l.stackTraces = false) (hki : INV d) {p : Int32} : vx_Met l yX2_clearYear (.code yX2_clearYear cX2_clearYear 2 (some .int) :: WG) (rmC 7 4 24) (va_Pc [.ref o, .int p] (BDM dC dI cI cL cJ g1 g2 A o sa ba a e t n len tx y d (q_rw d 0) x sv)) (bx_Q (k_p p) (some (.int (q_yoM d y (q_n p) 3))) (fun _ => True) (fun _ => False)) (bx_C (fun _ => XIO) (k_p p) (fun _ => True) (fun _ => False)) 4 24 (fun _ => False) := by
  refine bx_of [some (.ref o), some (.int p)] rfl rfl (Nat.le_of_ble_eq_true rfl) (by decide) ?_
  intro P_ E_ s M_ B_ T_ K_ C hT hv
  obtain ⟨hP, hD, hK, hZ, hX⟩ := hv
  have hS : va_S A s.heap s.heap [] := va_S.rf
  have hS0 : va_S (fun _ => False) s.heap s.heap [] := va_S.rf
  have hX0 : XE (fun _ => False) s s.heap := hX.narrow (fun _ h => h.elim)
  refine g_iload1 C dX2_clearYear_0 ?_
  refine g_xcS (As := [.int p]) C hT (c_X2_needPlot hls) 1 rfl wl_X2_38 wt_X2_needPlot wn_X2 wc_X2_needPlot (by decide +kernel) ⟨rfl, rfl, by decide, by decide⟩ XE.bl (fun U hU hW => hX0.at hS0 hU hW) rfl rfl (by simp [Value.category]) ⟨by decide, by decide⟩ ⟨by decide, by decide⟩ dX2_clearYear_1 (fun z => by have hb : ¬ q_isP p := k01.mp z; have hk : k_p p = 1 := (by exact if_pos hb); rw [hk]; exact ⟨by decide, rfl⟩) (fun _ _ _ => trivial) (fun hz => ?_)
  have hP1 : q_isP p := k00.mp hz
  obtain ⟨m1, b1l, b1h, rfl⟩ := q_rng (by decide) (by decide) hP1
  have hq1 : q_n (nI m1) = m1 := q_n_nI (by omega)
  try rw [hq1]
  refine g_aload0 C dX2_clearYear_4 ?_
  refine g_get (ci := 2) (T := TX2) (N := 6) C inX2 hK hP 0 rfl rfl 0 (by decide) wf_X2_10 ⟨rfl, rfl, rfl⟩ rfl dX2_clearYear_5 ?_
  refine g_iload1 C dX2_clearYear_8 ?_
  refine g_lcV1 C hK (P_n hP) hZ hS (c_X1_yearOfRest (by omega) hki) wl_X2_175 wi_X1_yearOfRest wv_X1_yearOfRest wc_X1_yearOfRest (by decide +kernel) ⟨rfl, rfl, by decide, by decide⟩ rfl (by simp [Value.category]) ⟨by decide, by decide⟩ dX2_clearYear_9 ?_
  have hk : k_p (nI m1) = 0 := by exact if_neg (fun z => z hP1)
  refine g_wd (k := 4) (n := 24) (by decide) (by decide) ?_
  exact g_xiret C hk trivial hS0 (q_yor_M 3 (by decide)) dX2_clearYear_12

set_option maxHeartbeats 4000000 in
set_option maxRecDepth 100000 in
theorem c_X2_cutsOff {l : Launch} {dC : Nat → ClassId} {dI : Nat → Nat → Nat} {cI cL cJ : ClassId} {g1 g2 : Nat} {A : Nat → Prop} {o sa ba a e : Nat} {t : Nat → Nat} {n len : Nat} {tx : Nat → Int32} {y : Int32} {d : RW} {x : PS} {sv : Nat → LO} (hls : l.stackTraces = false) (hki : INV d) {p : Int32} : vx_Met l yX2_cutsOff (.code yX2_cutsOff cX2_cutsOff 2 (some .int) :: WG) (rmC 7 4 24) (va_Pc [.ref o, .int p] (BDM dC dI cI cL cJ g1 g2 A o sa ba a e t n len tx y d (q_rw d 0) x sv)) (bx_Q (k_p p) (some (.int (nI (q_cu d (q_rc d) (q_n p)) - nI (q_cu d (q_rcb d (nI (q_n p))) (q_n p))))) (fun _ => True) (fun _ => False)) (bx_C (fun _ => XIO) (k_p p) (fun _ => True) (fun _ => False)) 4 24 (fun _ => False) := by
  refine bx_of [some (.ref o), some (.int p)] rfl rfl (Nat.le_of_ble_eq_true rfl) (by decide) ?_
  intro P_ E_ s M_ B_ T_ K_ C hT hv
  obtain ⟨hP, hD, hK, hZ, hX⟩ := hv
  have hS : va_S A s.heap s.heap [] := va_S.rf
  have hS0 : va_S (fun _ => False) s.heap s.heap [] := va_S.rf
  have hX0 : XE (fun _ => False) s s.heap := hX.narrow (fun _ h => h.elim)
  refine g_iload1 C dX2_cutsOff_0 ?_
  refine g_xcS (As := [.int p]) C hT (c_X2_needPlot hls) 1 rfl wl_X2_38 wt_X2_needPlot wn_X2 wc_X2_needPlot (by decide +kernel) ⟨rfl, rfl, by decide, by decide⟩ XE.bl (fun U hU hW => hX0.at hS0 hU hW) rfl rfl (by simp [Value.category]) ⟨by decide, by decide⟩ ⟨by decide, by decide⟩ dX2_cutsOff_1 (fun z => by have hb : ¬ q_isP p := k01.mp z; have hk : k_p p = 1 := (by exact if_pos hb); rw [hk]; exact ⟨by decide, rfl⟩) (fun _ _ _ => trivial) (fun hz => ?_)
  have hP1 : q_isP p := k00.mp hz
  obtain ⟨m1, b1l, b1h, rfl⟩ := q_rng (by decide) (by decide) hP1
  have hq1 : q_n (nI m1) = m1 := q_n_nI (by omega)
  try rw [hq1]
  refine g_aload0 C dX2_cutsOff_4 ?_
  refine g_get (ci := 2) (T := TX2) (N := 6) C inX2 hK hP 0 rfl rfl 0 (by decide) wf_X2_10 ⟨rfl, rfl, rfl⟩ rfl dX2_cutsOff_5 ?_
  refine g_iload1 C dX2_cutsOff_8 ?_
  refine g_lcV1 C hK (P_n hP) hZ hS (c_X1_lostWithout (by omega)) wl_X2_178 wi_X1_lostWithout wv_X1_lostWithout wc_X1_lostWithout (by decide +kernel) ⟨rfl, rfl, by decide, by decide⟩ rfl (by simp [Value.category]) ⟨by decide, by decide⟩ dX2_cutsOff_9 ?_
  have hk : k_p (nI m1) = 0 := by exact if_neg (fun z => z hP1)
  refine g_wd (k := 4) (n := 24) (by decide) (by decide) ?_
  exact g_xiret C hk trivial hS0 (q_cut_M (by omega)) dX2_cutsOff_12

set_option maxHeartbeats 4000000 in
set_option maxRecDepth 100000 in
theorem c_X2_yearFor {l : Launch} {dC : Nat → ClassId} {dI : Nat → Nat → Nat} {cI cL cJ : ClassId} {g1 g2 : Nat} {A : Nat → Prop} {o sa ba a e : Nat} {t : Nat → Nat} {n len : Nat} {tx : Nat → Int32} {d : RW} {x : PS} {sv : Nat → LO} (hls : l.stackTraces = false) (hki : INV d) {f p dep : Int32} {yn : Nat} (hyn : yn ≤ 2000)  : vx_Met l yX2_yearFor (.code yX2_yearFor cX2_yearFor 5 (some .int) :: WG) (rmC 7 4 24) (va_Pc [.ref o, .int f, .int p, .int dep] (BDM dC dI cI cL cJ g1 g2 A o sa ba a e t n len tx (nI yn) d (q_rw d 0) x sv)) (bx_Q (k_fpd f p dep) (some (.int (q_yf d (q_rc d) f (q_n p) (q_n dep) yn 101))) (fun _ => True) (fun _ => False)) (bx_C clI (k_fpd f p dep) (fun _ => True) (fun _ => False)) 4 24 (fun _ => False) := by
  refine bx_of [some (.ref o), some (.int f), some (.int p), some (.int dep), none] rfl rfl (Nat.le_of_ble_eq_true rfl) (by decide) ?_
  intro P_ E_ s M_ B_ T_ K_ C hT hv
  obtain ⟨hP, hD, hK, hZ, hX⟩ := hv
  have hS : va_S A s.heap s.heap [] := va_S.rf
  have hS0 : va_S (fun _ => False) s.heap s.heap [] := va_S.rf
  have hX0 : XE (fun _ => False) s s.heap := hX.narrow (fun _ h => h.elim)
  refine g_iload1 C dX2_yearFor_0 ?_
  refine g_xcS (As := [.int f]) C hT (c_X2_needFamily hls) 1 rfl wl_X2_81 wt_X2_needFamily wn_X2 wc_X2_needFamily (by decide +kernel) ⟨rfl, rfl, by decide, by decide⟩ XE.bl (fun U hU hW => hX0.at hS0 hU hW) rfl rfl (by simp [Value.category]) ⟨by decide, by decide⟩ ⟨by decide, by decide⟩ dX2_yearFor_1 (fun z => by have hb : ¬ q_isF f := k01.mp z; have hk : k_fpd f p dep = 1 := (by exact if_pos (fun z => hb z.1)); rw [hk]; exact ⟨by decide, rfl⟩) (fun _ _ _ => trivial) (fun hz => ?_)
  have hF1 : q_isF f := k00.mp hz
  obtain ⟨m1, b1l, b1h, rfl⟩ := q_rng (by decide) (by decide) hF1
  have hq1 : q_n (nI m1) = m1 := q_n_nI (by omega)
  try rw [hq1]
  refine g_iload2 C dX2_yearFor_4 ?_
  refine g_xcS (As := [.int p]) C hT (c_X2_needPlot hls) 1 rfl wl_X2_38 wt_X2_needPlot wn_X2 wc_X2_needPlot (by decide +kernel) ⟨rfl, rfl, by decide, by decide⟩ XE.bl (fun U hU hW => hX0.at hS0 hU hW) rfl rfl (by simp [Value.category]) ⟨by decide, by decide⟩ ⟨by decide, by decide⟩ dX2_yearFor_5 (fun z => by have hb : ¬ q_isP p := k01.mp z; have hk : k_fpd (nI m1) p dep = 1 := (by exact if_pos (fun z => hb z.2)); rw [hk]; exact ⟨by decide, rfl⟩) (fun _ _ _ => trivial) (fun hz => ?_)
  have hP2 : q_isP p := k00.mp hz
  obtain ⟨m2, b2l, b2h, rfl⟩ := q_rng (by decide) (by decide) hP2
  have hq2 : q_n (nI m2) = m2 := q_n_nI (by omega)
  try rw [hq2]
  refine g_iload3 C dX2_yearFor_8 ?_
  refine g_xcS (As := [.int dep]) C hT (c_X2_needDepth hls) 1 rfl wl_X2_87 wt_X2_needDepth wn_X2 wc_X2_needDepth (by decide +kernel) ⟨rfl, rfl, by decide, by decide⟩ XE.bl (fun U hU hW => hX0.at hS0 hU hW) rfl rfl (by simp [Value.category]) ⟨by decide, by decide⟩ ⟨by decide, by decide⟩ dX2_yearFor_9 (fun z => by have hb : ¬ (nI 1 ≤ dep ∧ dep ≤ nI 3) := k01.mp z; have hk : k_fpd (nI m1) (nI m2) dep = 2 := (by unfold k_fpd; rw [if_neg (fun z => z ⟨hF1, hP2⟩), if_pos hb]); rw [hk]; exact ⟨by decide, rfl⟩) (fun _ _ _ => trivial) (fun hz => ?_)
  have hD3 : (nI 1 ≤ dep ∧ dep ≤ nI 3) := k00.mp hz
  obtain ⟨m3, b3l, b3h, rfl⟩ := q_rng (by decide) (by decide) hD3
  have hq3 : q_n (nI m3) = m3 := q_n_nI (by omega)
  try rw [hq3]
  refine g_iconst C (nI 0) (by decide) dX2_yearFor_12 ?_
  refine g_istore4 C rfl dX2_yearFor_13 ?_
  refine g_lp1 (fun (j : Nat) => j ≤ 101 ∧ q_yf d (q_rc d) (nI m1) m2 m3 yn 101 = q_yf d (q_rc d) (nI m1) m2 m3 yn (101 - j)) (fun j => 101 - j) (fun j => [some (.ref o), some (.int (nI m1)), some (.int (nI m2)), some (.int (nI m3)), some (.int (nI j))]) 0 ⟨by omega, rfl⟩ rfl ?_
  rintro j ⟨hj, hj2⟩ ih
  try dsimp only at ih ⊢
  refine g_iload4 C dX2_yearFor_15 ?_
  refine g_bipush C (nI 100) (by decide) dX2_yearFor_17 ?_
  refine g_icmp_gtN C (by omega) (by omega) 62 dX2_yearFor_19 (by decide) (fun h19 => ?_) (fun h19 => ?_)
  · refine g_iconst C (-1) (by decide) dX2_yearFor_62 ?_
    have hk : k_fpd (nI m1) (nI m2) (nI m3) = 0 := by unfold k_fpd; rw [if_neg (fun z => z ⟨hF1, hP2⟩), if_neg (fun z => z hD3)]
    refine g_wd (k := 4) (n := 24) (by decide) (by decide) ?_
    exact g_xiret C hk trivial hS0 (by rw [hj2, show j = 101 by omega]; rfl) dX2_yearFor_63
  · refine g_aload0 C dX2_yearFor_22 ?_
    refine g_get (ci := 2) (T := TX2) (N := 6) C inX2 hK hP 0 rfl rfl 0 (by decide) wf_X2_10 ⟨rfl, rfl, rfl⟩ rfl dX2_yearFor_23 ?_
    refine g_iload1 C dX2_yearFor_26 ?_
    refine g_iload2 C dX2_yearFor_27 ?_
    refine g_iload3 C dX2_yearFor_28 ?_
    refine g_aload0 C dX2_yearFor_29 ?_
    refine g_get (ci := 2) (T := TX2) (N := 6) C inX2 hK hP 0 rfl rfl 0 (by decide) wf_X2_10 ⟨rfl, rfl, rfl⟩ rfl dX2_yearFor_30 ?_
    refine g_get (ci := 1) (T := TX1) (N := 12) C inX1 hK hP 3 rfl rfl 0 (by decide) wf_X2_72 ⟨rfl, rfl, rfl⟩ rfl dX2_yearFor_33 ?_
    refine g_iload4 C dX2_yearFor_36 ?_
    refine g_iaddN C dX2_yearFor_38 ?_
    refine g_lcV4 C hK (P_n hP) hZ hS (c_X1_refusal (by omega) (by omega) hki) wl_X2_90 wi_X1_refusal wv_X1_refusal wc_X1_refusal (by decide +kernel) ⟨rfl, rfl, by decide, by decide⟩ rfl (by simp [Value.category]) ⟨by decide, by decide⟩ dX2_yearFor_39 ?_
    refine g_top (q_ref_rc (q_rb_rc d (by omega))) ?_
    refine g_if_ne C 56 dX2_yearFor_42 (by decide) (fun h42 => ?_) (fun h42 => ?_)
    · refine g_iinc4 C _ rfl dX2_yearFor_56 (nI_1 _) ?_
      refine g_goto C 15 dX2_yearFor_59 (by decide) ?_
      exact ih (j + 1) ⟨by omega, by rw [hj2, q_yf_s (by omega)]; exact if_neg h42⟩ (by show 101 - (j + 1) < 101 - j; omega)
    · refine g_aload0 C dX2_yearFor_45 ?_
      refine g_get (ci := 2) (T := TX2) (N := 6) C inX2 hK hP 0 rfl rfl 0 (by decide) wf_X2_10 ⟨rfl, rfl, rfl⟩ rfl dX2_yearFor_46 ?_
      refine g_get (ci := 1) (T := TX1) (N := 12) C inX1 hK hP 3 rfl rfl 0 (by decide) wf_X2_72 ⟨rfl, rfl, rfl⟩ rfl dX2_yearFor_49 ?_
      refine g_iload4 C dX2_yearFor_52 ?_
      refine g_iaddN C dX2_yearFor_54 ?_
      have hk : k_fpd (nI m1) (nI m2) (nI m3) = 0 := by unfold k_fpd; rw [if_neg (fun z => z ⟨hF1, hP2⟩), if_neg (fun z => z hD3)]
      refine g_wd (k := 4) (n := 24) (by decide) (by decide) ?_
      exact g_xiret C hk trivial hS0 (by rw [hj2, q_yf_s (by omega)]; exact (if_pos h42).symm) dX2_yearFor_55

set_option maxHeartbeats 4000000 in
set_option maxRecDepth 100000 in
theorem c_X2_meanFee {l : Launch} {dC : Nat → ClassId} {dI : Nat → Nat → Nat} {cI cL cJ : ClassId} {g1 g2 : Nat} {A : Nat → Prop} {o sa ba a e : Nat} {t : Nat → Nat} {n len : Nat} {tx : Nat → Int32} {y : Int32} {d : RW} {x : PS} {sv : Nat → LO} (hki : INV d)  : Met l yX2_meanFee (.code yX2_meanFee cX2_meanFee 1 (some .double) :: WG) (rmL 4) (va_Pc [.ref o] (BDM dC dI cI cL cJ g1 g2 A o sa ba a e t n len tx y d (q_rw d 0) x sv)) (bq_S (.double (q_meanM d))) 0 0 (fun _ => False) := by
  refine bq_of [some (.ref o)] rfl rfl (Nat.le_of_ble_eq_true rfl) (by decide) ?_
  intro P_ E_ s M_ B_ T_ K_ C hv
  obtain ⟨hP, hD, hK, hZ, hX⟩ := hv
  have hS : va_S A s.heap s.heap [] := va_S.rf
  refine g_aload0 C dX2_meanFee_0 ?_
  refine g_get (ci := 2) (T := TX2) (N := 6) C inX2 hK hP 0 rfl rfl 0 (by decide) wf_X2_10 ⟨rfl, rfl, rfl⟩ rfl dX2_meanFee_1 ?_
  refine g_lcV0 C hK (P_n hP) hZ hS (c_X1_meanOfFees (fp_nanC hki)) wl_X2_181 wi_X1_meanOfFees wv_X1_meanOfFees wc_X1_meanOfFees (by decide +kernel) ⟨rfl, rfl, by decide, by decide⟩ rfl (by simp [Value.category]) ⟨by decide, by decide⟩ dX2_meanFee_4 ?_
  exact g_dret C (q_mean_M) dX2_meanFee_7
