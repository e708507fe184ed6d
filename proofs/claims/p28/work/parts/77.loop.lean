/-! the first state -/
theorem opn_d0 : q_opn q_d0 = 1099511627775 := by decide +kernel
theorem fl_0 : q_fl 1099511627775 0 = 1 := by decide +kernel
theorem fl_s {o x y : Int64} {n : Nat} (h : q_fl o n = x) (e : x ||| (q_nb x &&& o) = y) : q_fl o (n + 1) = y := by subst h; exact e
theorem fl_1 : q_fl 1099511627775 1 = 259 := fl_s fl_0 (by decide +kernel)
theorem fl_2 : q_fl 1099511627775 2 = 66311 := fl_s fl_1 (by decide +kernel)
theorem fl_3 : q_fl 1099511627775 3 = 16975631 := fl_s fl_2 (by decide +kernel)
theorem fl_4 : q_fl 1099511627775 4 = 4345761567 := fl_s fl_3 (by decide +kernel)
theorem fl_5 : q_fl 1099511627775 5 = 13003333439 := fl_s fl_4 (by decide +kernel)
theorem fl_6 : q_fl 1099511627775 6 = 30318477183 := fl_s fl_5 (by decide +kernel)
theorem fl_7 : q_fl 1099511627775 7 = 64948764671 := fl_s fl_6 (by decide +kernel)
theorem fl_8 : q_fl 1099511627775 8 = 134209339391 := fl_s fl_7 (by decide +kernel)
theorem fl_9 : q_fl 1099511627775 9 = 272730423295 := fl_s fl_8 (by decide +kernel)
theorem fl_10 : q_fl 1099511627775 10 = 549755813887 := fl_s fl_9 (by decide +kernel)
theorem fl_11 : q_fl 1099511627775 11 = 1099511627775 := fl_s fl_10 (by decide +kernel)
theorem fl_st : ∀ n, q_fl 1099511627775 (n + 11) = 1099511627775 := by
  intro n
  induction n with
  | zero => exact fl_11
  | succ n ih => exact fl_s ih (by decide +kernel)
theorem rw_d0 : q_rw q_d0 0 = 1099511627775 := by
  unfold q_rw
  rw [opn_d0, show (1099511627775 : Int64) &&& ((0 : Int64) ^^^ (-1)) = 1099511627775 by decide +kernel, fl_st 29]
  decide +kernel
theorem INV_d0 : INV q_d0 := by
  refine ⟨fun p _ => ?_, fun k _ h => absurd rfl h, fun p _ h => absurd rfl h, fun k _ _ => ⟨rfl, rfl⟩, fun k _ h => absurd rfl h, fun k _ h => absurd rfl h, rfl, fun p _ h => absurd rfl h⟩
  by_cases h : p = 0
  · exact ⟨3, by decide, if_pos h⟩
  · exact ⟨0, by decide, if_neg h⟩

theorem PKI_0 {x4 : Nat → Int32} (h1 : ∀ k, k < 10 → x4 k = nI 1) (h0 : ∀ k, 10 ≤ k → x4 k = 0) : PKI q_d0 0 (upd (fun _ => 0) 0 (nI 3)) (fun _ => 0) (fun _ => 0) x4 := by
  refine ⟨INV_d0, fun p hp => ?_, fun p hp => ⟨fun _ => 0, fun j hj => Or.inl ⟨rfl, rfl⟩, rfl⟩, fun p hp => ⟨fun _ => 0, fun j hj => ⟨(by decide : (0 : Nat) < 512), fun _ => rfl, fun z => absurd rfl z⟩, rfl⟩, h0 30 (by decide), fun f hf => ⟨h1 f hf, h0 _ (by omega), h0 _ (by omega), Or.inr rfl⟩⟩
  by_cases h : p = 0
  · subst h
    exact ⟨3, 0, 0, 0, by decide, by decide, by decide, by decide, fun _ => rfl, rfl, rfl, rfl, rfl, rfl⟩
  · refine ⟨0, 0, 0, 0, by decide, by decide, by decide, by decide, fun _ => rfl, ?_, if_neg h, rfl, rfl, rfl⟩
    rw [upd_ne h]; rfl
theorem PKU_0 : PKU (q_up q_d0 0 9 (nI (if False then 1 else 0))) 0 := fun p _ h => absurd rfl h
def cellv (xs : Nat → Int32) (L k : Nat) : Int32 := if k < L then xs k else 607225278 * (nI k + nI 1)
section CEs
variable {p : Program} {l : Launch} {e : Env} {R : Room} {s : State} {m : MethodId} {args : Array Value} {below : List Frame} {meth : Method} {c : Code} {H : Heap} {locs : List Loc} {cells slots : Nat} {Q : State → Prop}
variable {cc : ByteArray} {own : String} {nL pc : Nat} {ret : Option FieldType} {vs : List (Option Value)} {st st0 : List Value} {A A0 A1 : Nat → Prop} {H0 : Heap} {b L : Nat} {xs : Nat → Int32}
theorem g_sld (C : CX p s m args meth c cc own nL ret) (hX : va_X b L xs s H0) (hbl : b < H0.size) (hbA : ¬ A b) (hS : va_S A H0 H locs) {i : Nat} (hi : i < L) (hL : L ≤ 2048) (hd : decode cc pc = .ok (.iaload, 1))
    (kk : G p l e R s m args below meth c H locs cells slots Q vs (pc + 1) (.int (xs i) :: st)) : G p l e R s m args below meth c H locs cells slots Q vs pc (.int (nI i) :: .ref b :: st) := fun ls h =>
  va_sld C.1 C.2.1 hX hbl hbA hS (vp_in_nI hi (by omega)) hd (by rw [nI_clamp (by omega)]; exact kk ls h)
theorem g_slen (C : CX p s m args meth c cc own nL ret) (hX : va_X b L xs s H0) (hbl : b < H0.size) (hbA : ¬ A b) (hS : va_S A H0 H locs) (hd : decode cc pc = .ok (.arraylength, 1))
    (kk : G p l e R s m args below meth c H locs cells slots Q vs (pc + 1) (.int (nI L) :: st)) : G p l e R s m args below meth c H locs cells slots Q vs pc (.ref b :: st) := fun ls h =>
  va_slen C.1 C.2.1 hX hbl hbA hS hd (kk ls h)
def CEP (b L : Nat) (xs : Nat → Int32) (U : State) : Prop := va_X b L xs U U.heap ∧ b < U.heap.size
theorem CEP_bl : Bl (CEP b L xs) := fun U g mk a h => ⟨va_X.moved (u := U) (U := U.calling g mk a) (Vm.Alike.refl U.vm) h.1, h.2⟩
theorem CEP_at (hX : va_X b L xs s s.heap) (hbl : b < s.heap.size) (hbA : ¬ A b) (hS : va_S A s.heap H locs) : ∀ U : State, U.heap = H → s.WarmedH U.vm → CEP b L xs U := by
  intro U hU hW
  subst hU
  exact ⟨(hX.kept (hS.2.1 b hbl hbA)).moved hW.alike, Nat.lt_of_lt_of_le hbl hS.1⟩
end CEs
section PWs
variable {D : va_G} {cl : List vw_C} {A : Nat → Prop} {cI cL cJ : ClassId} {t : Nat → Nat} {x1 x3 x4 : Nat → Int32} {x2 : Nat → Int64} {H H1 : Heap} {bw bw1 : va_W}
theorem pw_put (hP : va_P D cl (PW cI cJ t x1 x2 x3 x4 ++ bw) H) (hD : va_D A (PW cI cJ t x1 x2 x3 x4 ++ bw)) (hB : va_P D cl bw1 H1 ∧ va_D (fun q => q ∈ bw.map Prod.fst) bw1) (hk : ∀ q : Nat, q < H.size → ¬ q ∈ bw.map Prod.fst → H1[q]? = H[q]?) : va_P D cl (PW cI cJ t x1 x2 x3 x4 ++ bw1) H1 ∧ va_D A (PW cI cJ t x1 x2 x3 x4 ++ bw1) := PD_put hP hD hB.1 hB.2 hk
theorem pw_0 {a b c d : Nat × va_E} : ((((bw ++ [a]) ++ [b]) ++ [c]) ++ [d]).Perm ([a, b, c, d] ++ bw) := by
  rw [List.append_assoc, List.append_assoc, List.append_assoc]
  exact List.perm_append_comm
end PWs
set_option maxHeartbeats 4000000 in
set_option maxRecDepth 100000 in
theorem c_L_cell {l : Launch} {b L : Nat} {xs : Nat → Int32} (hL : L ≤ 260) {k : Nat} (hk : k < 100000) : Met l yL_cell (.code yL_cell method_2_code 2 (some .int) :: WG) (rmL 0) (va_Pc [.ref b, .int (nI k)] (CEP b L xs)) (bq_S (.int (cellv xs L k))) 0 0 (fun _ => False) := by
  refine bq_of [some (.ref b), some (.int (nI k))] rfl rfl (Nat.le_of_ble_eq_true rfl) (by decide) ?_
  intro P_ E_ s M_ B_ T_ K_ C hv
  obtain ⟨hX, hbl⟩ := hv
  have hS : va_S (fun _ => False) s.heap s.heap [] := va_S.rf
  refine g_iload1 C dL_cell_0 ?_
  refine g_aload0 C dL_cell_1 ?_
  refine g_slen C hX hbl (fun z => z) hS dL_cell_2 ?_
  refine g_icmp_geN C (by omega) (by omega) 12 dL_cell_3 (by decide) (fun h3 => ?_) (fun h3 => ?_)
  · refine g_ldc C _ wq_L_7 dL_cell_12 ?_
    refine g_iload1 C dL_cell_14 ?_
    refine g_iconst C (nI 1) (by decide) dL_cell_15 ?_
    refine g_iadd C dL_cell_16 ?_
    refine g_imul C dL_cell_17 ?_
    exact g_ireti C ((if_neg (by omega)).symm) dL_cell_18
  · refine g_aload0 C dL_cell_6 ?_
    refine g_iload1 C dL_cell_7 ?_
    refine g_sld C hX hbl (fun z => z) hS h3 (by omega) dL_cell_8 ?_
    refine g_goto C 18 dL_cell_9 (by decide) ?_
    exact g_ireti C ((if_pos h3).symm) dL_cell_18

set_option maxHeartbeats 4000000 in
set_option maxRecDepth 100000 in
theorem law_loop {p : Program} {e : Env} {s : State} {m : MethodId} {below : List Frame} {meth : Method} {c : Code} (l : Launch) (hls : l.stackTraces = false) {b L : Nat} {xs : Nat → Int32} (hL : L ≤ 260) (C0 : lw_At p s m meth c b L xs) (C : CX p s m #[Value.ref b] meth c cL_law RL 9 ret) {dC : Nat → ClassId} {dI : Nat → Nat → Nat} {cI cL cJ : ClassId} {g1 g2 : Nat} {o sa ba a e0 : Nat} {tt t : Nat → Nat} (hK : EV dC dI cI cL cJ s) (hZ : ST g1 g2 (fun q : Nat => s.heap.size ≤ q) s s.heap) (hX : XE (fun q : Nat => s.heap.size ≤ q) s s.heap)
    {n : Nat} {sv : Nat → LO} {d : RW} {x1 x3 x4 : Nat → Int32} {x2 : Nat → Int64} {H : Heap} {locs : List Loc} (hP : va_P (dC, dI) vwCl (PW cI cJ t (x1) (x2) (x3) (x4) ++ BW cI cL o sa ba a e0 tt n 0 (svg (sv)) (fun _ => 0) (nI (0)) (d) (q_rw (d) 0) (0, 0, 0, none, 0) (sv)) H) (hD : va_D (fun q : Nat => s.heap.size ≤ q) (PW cI cJ t (x1) (x2) (x3) (x4) ++ BW cI cL o sa ba a e0 tt n 0 (svg (sv)) (fun _ => 0) (nI (0)) (d) (q_rw (d) 0) (0, 0, 0, none, 0) (sv))) (hS : va_S (fun q : Nat => s.heap.size ≤ q) s.heap H locs) (hk : PKI d 0 x1 x2 x3 x4) (hn6 : n ≤ 6) (hn1 : 1 ≤ n) (hub : PKU d 0) :
    G p l e room_1 s m #[Value.ref b] below meth c H locs 1000 10000 (lw_Z below #[Value.ref b] s) [some (.ref b), some (.ref o), some (.ref (t 0)), some (.ref (t 1)), some (.ref (t 2)), some (.ref (t 3)), some (.int (nI 0)), none, none] 93 [] := by
  obtain ⟨hx, hb, hr, hml, hown, hts, hXs, hbl, hlocks, hgv⟩ := id C0
  refine g_lpC (A2 := Nat × (Nat → LO) × RW × Nat × (Nat → Int32) × (Nat → Int64) × (Nat → Int32) × (Nat → Int32) × Nat) (fun u H locs => va_P (dC, dI) vwCl (PW cI cJ t (u.2.2.2.2.1) (u.2.2.2.2.2.1) (u.2.2.2.2.2.2.1) (u.2.2.2.2.2.2.2.1) ++ BW cI cL o sa ba a e0 tt u.1 0 (svg (u.2.1)) (fun _ => 0) (nI (u.2.2.2.1)) (u.2.2.1) (q_rw (u.2.2.1) 0) (0, 0, 0, none, 0) (u.2.1)) H ∧ va_D (fun q : Nat => s.heap.size ≤ q) (PW cI cJ t (u.2.2.2.2.1) (u.2.2.2.2.2.1) (u.2.2.2.2.2.2.1) (u.2.2.2.2.2.2.2.1) ++ BW cI cL o sa ba a e0 tt u.1 0 (svg (u.2.1)) (fun _ => 0) (nI (u.2.2.2.1)) (u.2.2.1) (q_rw (u.2.2.1) 0) (0, 0, 0, none, 0) (u.2.1)) ∧ va_S (fun q : Nat => s.heap.size ≤ q) s.heap H locs ∧ PKI (u.2.2.1) (u.2.2.2.1) (u.2.2.2.2.1) (u.2.2.2.2.2.1) (u.2.2.2.2.2.2.1) (u.2.2.2.2.2.2.2.1) ∧ u.2.2.2.1 ≤ 40 * u.2.2.2.2.2.2.2.2 ∧ u.1 ≤ 6 ∧ 1 ≤ u.1 ∧ PKU (u.2.2.1) (50 * u.2.2.2.2.2.2.2.2) ∧ u.2.2.2.2.2.2.2.2 ≤ 24) (fun u => 24 - u.2.2.2.2.2.2.2.2) (fun u => 1000 + 500 * u.2.2.2.2.2.2.2.2) (fun u => 10000 + 3100 * u.2.2.2.2.2.2.2.2) (fun u => [some (.ref b), some (.ref o), some (.ref (t 0)), some (.ref (t 1)), some (.ref (t 2)), some (.ref (t 3)), some (.int (nI u.2.2.2.2.2.2.2.2)), none, none]) (n, sv, d, 0, x1, x2, x3, x4, 0) ⟨hP, hD, hS, hk, Nat.zero_le _, hn6, hn1, hub, Nat.zero_le _⟩ rfl rfl rfl ?_
  clear hP hD hS hk hn6 hn1 hub
  rintro ⟨n, sv, d, yn, x1, x2, x3, x4, k⟩ H locs ⟨hP, hD, hS, hk, hyk, hn6, hn1, hub, hk24⟩ ih
  try dsimp only at hP hD hS hk hyk hn6 hn1 hub hk24 ih ⊢
  have hki := hk.1
  have hyn : yn ≤ 1900 := by omega
  have hyu : yn ≤ 50 * k := by omega
  have hub4 : 50 * k ≤ 10000 := by omega
  refine g_iload6 C dL_law_93 ?_
  refine g_bipush C (nI 24) (by decide) dL_law_95 ?_
  refine g_icmp_geN C (by omega) (by omega) 213 dL_law_97 (by decide) (fun h97 => ?_) (fun h97 => ?_)
  · refine g_aload1 C dL_law_213 ?_
    refine g_bipush C (nI 8) (by decide) dL_law_214 ?_
    refine g_xR C 1 rfl (n_count hls hki (by omega)) wl_L_81 wi_X2_count wv_X2_count wc_X2_count (by decide +kernel) ⟨by decide, by decide⟩ BDM_bl (va_recv (ci := 2) (q0 := 0) hK (P_r (u := PW cI cJ t x1 x2 x3 x4) hP) rfl rfl) (BDM_at hK (P_r (u := PW cI cJ t x1 x2 x3 x4) hP) (DA_r (u := PW cI cJ t x1 x2 x3 x4) hD) hZ hX hS (fun _ h => h)) rfl rfl (by simp [Value.category]) ⟨by show _ ≤ 600130; omega, by show _ ≤ 7301080; omega⟩ hS dL_law_216 (fun H locs hk9 hS => ?_)
    have hP := P_kept hP hk9
    refine g_if_le C 226 dL_law_219 (by decide) (fun h219 => ?_) (fun h219 => ?_)
    · exact absurd h219 (nI_nle (n := n) (by omega) (by omega))
    · refine g_iconst C (nI 1) (by decide) dL_law_222 ?_
      refine g_goto C 227 dL_law_223 (by decide) ?_
      intro ls hl
      exact va_forget hS.2.2 (W.widen (k := 600130) (n := 7301080) (by omega) (by omega) (lw_ret (d0 := s.drawn) (Drawn.sameBut.refl s.drawn lw_cs) hx hb hr hlocks dL_law_227))
  · refine g_aload0 C dL_law_100 ?_
    refine g_iconst C (nI 2) (by decide) dL_law_101 ?_
    refine g_iload6 C dL_law_102 ?_
    refine g_imulN C dL_law_104 ?_
    refine g_pkS C 2 rfl (c_L_cell hL (by omega)) wl_L_152 wt_L_cell wn_L wc_L_cell (by decide +kernel) ⟨rfl, rfl, by decide, by decide⟩ CEP_bl (CEP_at hXs hbl (Nat.not_le.mpr hbl) hS) rfl rfl (by simp [Value.category]) ⟨by show _ ≤ 600130; omega, by show _ ≤ 7301080; omega⟩ dL_law_105 ?_
    refine g_ldc C _ wq_L_155 dL_law_108 ?_
    refine g_iand C dL_law_110 ?_
    refine g_gen (fun ax eax => ?_)
    refine g_istore7 C rfl dL_law_111 ?_
    refine g_aload0 C dL_law_113 ?_
    refine g_iconst C (nI 2) (by decide) dL_law_114 ?_
    refine g_iload6 C dL_law_115 ?_
    refine g_imulN C dL_law_117 ?_
    refine g_iconst C (nI 1) (by decide) dL_law_118 ?_
    refine g_iaddN C dL_law_119 ?_
    refine g_pkS C 2 rfl (c_L_cell hL (by omega)) wl_L_152 wt_L_cell wn_L wc_L_cell (by decide +kernel) ⟨rfl, rfl, by decide, by decide⟩ CEP_bl (CEP_at hXs hbl (Nat.not_le.mpr hbl) hS) rfl rfl (by simp [Value.category]) ⟨by show _ ≤ 600130; omega, by show _ ≤ 7301080; omega⟩ dL_law_120 ?_
    refine g_ldc C _ wq_L_155 dL_law_123 ?_
    refine g_iand C dL_law_125 ?_
    refine g_gen (fun ay eay => ?_)
    refine g_istore8 C rfl dL_law_126 ?_
    refine g_aload1 C dL_law_128 ?_
    refine g_iload7 C dL_law_129 ?_
    refine g_bipush C (nI 11) (by decide) dL_law_131 ?_
    refine g_ishr C dL_law_133 ?_
    refine g_bipush C (nI 18) (by decide) dL_law_134 ?_
    refine g_pkS C 2 rfl (c_L_at (by first | decide | (split <;> omega)) (by first | decide | (split <;> omega))) wl_L_74 wt_L_at wn_L wc_L_at (by decide +kernel) ⟨rfl, rfl, by decide, by decide⟩ TR_bl (fun _ _ _ => trivial) rfl rfl (by simp [Value.category]) ⟨by show _ ≤ 600130; omega, by show _ ≤ 7301080; omega⟩ dL_law_136 ?_
    obtain ⟨ac, hac, eac⟩ : ∃ ac, ac < 18 ∧ ux (ax >>> (nI 11 &&& 31)) % 18 = ac := ⟨_, Nat.mod_lt _ (by decide), rfl⟩
    rw [eac]
    refine g_iload7 C dL_law_139 ?_
    refine g_iload8 C dL_law_141 ?_
    refine g_aload2 C dL_law_143 ?_
    refine g_aload3 C dL_law_144 ?_
    refine g_aload4 C dL_law_145 ?_
    refine g_aload5 C dL_law_147 ?_
    refine g_mS C 8 rfl (c_L_act hk hyn hls hn1 hn6 hub hyu hub4 hac) wl_L_156 wt_L_act wn_L wc_L_act (by decide +kernel) ⟨rfl, rfl, by decide, by decide⟩ TLN_bl (TLN_at hK hP hD hZ hX hS (fun _ h => h) (fun q h => Nat.le_trans hS.1 h)) rfl rfl (by simp [Value.category]) ⟨by show _ ≤ 600130; omega, by show _ ≤ 7301080; omega⟩ hS (fun _ _ h => h) (fun _ h => h) dL_law_149 (fun H locs hV _ _ hS => ?_)
    obtain ⟨n2, sv2, d2, y2, z1, z2, z3, z4, w9, hP, hD, hk2, hy2, hn62, hn12, hub2⟩ := hV
    have hP := P_l hP
    have hD := DA_l hD
    refine g_if_eqB C 176 dL_law_152 (by decide) (fun h152 => ?_) (fun h152 => ?_)
    · exact absurd trivial h152
    · refine g_aload1 C dL_law_155 ?_
      refine g_iload7 C dL_law_156 ?_
      refine g_iconst C (nI 3) (by decide) dL_law_158 ?_
      refine g_ishr C dL_law_159 ?_
      refine g_iload8 C dL_law_160 ?_
      refine g_iconst C (nI 3) (by decide) dL_law_162 ?_
      refine g_ishr C dL_law_163 ?_
      refine g_aload2 C dL_law_164 ?_
      refine g_aload3 C dL_law_165 ?_
      refine g_aload4 C dL_law_166 ?_
      refine g_aload5 C dL_law_168 ?_
      refine g_mS C 7 rfl (c_L_told hk2 (by omega) hls) wl_L_148 wt_L_told wn_L wc_L_told (by decide +kernel) ⟨rfl, rfl, by decide, by decide⟩ TLN_bl (TLN_at hK hP hD hZ hX hS (fun _ h => h) (fun q h => Nat.le_trans hS.1 h)) rfl rfl (by simp [Value.category]) ⟨by show _ ≤ 600130; omega, by show _ ≤ 7301080; omega⟩ hS (fun _ _ h => h) (fun _ h => h) dL_law_170 (fun H locs hV _ _ hS => ?_)
      obtain ⟨w9, hP⟩ := hV
      have hP := P_l hP
      refine g_if_neB C 178 dL_law_173 (by decide) (fun h173 => ?_) (fun h173 => ?_)
      · refine g_iload6 C dL_law_178 ?_
        refine g_iconst C (nI 3) (by decide) dL_law_180 ?_
        refine g_iremN C (by omega) (by omega) (by omega) dL_law_181 ?_
        refine g_iconst C (nI 2) (by decide) dL_law_182 ?_
        refine g_icmp_neN C (by omega) (by omega) 207 dL_law_183 (by decide) (fun h183 => ?_) (fun h183 => ?_)
        · refine g_iinc6 C _ rfl dL_law_207 (nI_1 _) ?_
          refine g_goto C 93 dL_law_210 (by decide) ?_
          refine g_fg7 ?_
          refine g_fg8 ?_
          refine g_wd (k := 1000 + 500 * (k + 1)) (n := 10000 + 3100 * (k + 1)) (by omega) (by omega) (ih (n2, sv2, d2, y2, z1, z2, z3, z4, k + 1) _ _ ⟨hP, hD, hS, hk2, by show y2 ≤ 40 * (k + 1); omega, hn62, hn12, hub2.mono (by show 50 * k + 50 ≤ 50 * (k + 1); omega), by show k + 1 ≤ 24; omega⟩ (by show 24 - (k + 1) < 24 - k; omega))
        · refine g_aload1 C dL_law_186 ?_
          refine g_iload8 C dL_law_187 ?_
          refine g_iconst C (nI 2) (by decide) dL_law_189 ?_
          refine g_ishr C dL_law_190 ?_
          refine g_iload7 C dL_law_191 ?_
          refine g_iconst C (nI 2) (by decide) dL_law_193 ?_
          refine g_ishr C dL_law_194 ?_
          refine g_aload2 C dL_law_195 ?_
          refine g_aload3 C dL_law_196 ?_
          refine g_aload5 C dL_law_197 ?_
          refine g_mS C 6 rfl (c_L_ahead hk2 (by omega) hls) wl_L_160 wt_L_ahead wn_L wc_L_ahead (by decide +kernel) ⟨rfl, rfl, by decide, by decide⟩ TLN_bl (TLN_at hK hP hD hZ hX hS (fun _ h => h) (fun q h => Nat.le_trans hS.1 h)) rfl rfl (by simp [Value.category]) ⟨by show _ ≤ 600130; omega, by show _ ≤ 7301080; omega⟩ hS (fun _ _ h => h) (fun _ h => h) dL_law_199 (fun H locs hV _ _ hS => ?_)
          obtain ⟨w9, hP⟩ := hV
          have hP := P_l hP
          refine g_if_neB C 207 dL_law_202 (by decide) (fun h202 => ?_) (fun h202 => ?_)
          · refine g_iinc6 C _ rfl dL_law_207 (nI_1 _) ?_
            refine g_goto C 93 dL_law_210 (by decide) ?_
            refine g_fg7 ?_
            refine g_fg8 ?_
            refine g_wd (k := 1000 + 500 * (k + 1)) (n := 10000 + 3100 * (k + 1)) (by omega) (by omega) (ih (n2, sv2, d2, y2, z1, z2, z3, z4, k + 1) _ _ ⟨hP, hD, hS, hk2, by show y2 ≤ 40 * (k + 1); omega, hn62, hn12, hub2.mono (by show 50 * k + 50 ≤ 50 * (k + 1); omega), by show k + 1 ≤ 24; omega⟩ (by show 24 - (k + 1) < 24 - k; omega))
          · exact absurd trivial h202
      · exact absurd trivial h173
