/-! the law's cases: the class and the reference do the same step -/
section LC
variable {p : Program} {l : Launch} {e : Env} {R : Room} {s : State} {m : MethodId} {args : Array Value} {below : List Frame} {meth : Method} {c : Code} {H : Heap} {locs : List Loc} {cells slots : Nat} {Q : State → Prop}
variable {cc : ByteArray} {own : String} {nL pc : Nat} {ret : Option FieldType} {vs : List (Option Value)} {st st0 : List Value} {A A0 A1 : Nat → Prop} {D : va_G} {cl : List vw_C} {ws : va_W} {H0 : Heap} {cI cL cJ : ClassId}
theorem g_sld (C : CX p s m args meth c cc own nL ret) {b L : Nat} {xs : Nat → Int32} (hX : va_X b L xs s H0) (hbl : b < H0.size) (hbA : ¬ A b) (hS : va_S A H0 H locs) {i : Nat} (hi : i < L) (hL : L ≤ 2048) (hd : decode cc pc = .ok (.iaload, 1))
    (kk : G p l e R s m args below meth c H locs cells slots Q vs (pc + 1) (.int (xs i) :: st)) : G p l e R s m args below meth c H locs cells slots Q vs pc (.int (nI i) :: .ref b :: st) := fun ls h =>
  va_sld C.1 C.2.1 hX hbl hbA hS (vp_in_nI hi (by omega)) hd (by rw [nI_clamp (by omega)]; exact kk ls h)
theorem g_slen (C : CX p s m args meth c cc own nL ret) {b L : Nat} {xs : Nat → Int32} (hX : va_X b L xs s H0) (hbl : b < H0.size) (hbA : ¬ A b) (hS : va_S A H0 H locs) (hd : decode cc pc = .ok (.arraylength, 1))
    (kk : G p l e R s m args below meth c H locs cells slots Q vs (pc + 1) (.int (nI L) :: st)) : G p l e R s m args below meth c H locs cells slots Q vs pc (.ref b :: st) := fun ls h =>
  va_slen C.1 C.2.1 hX hbl hbA hS hd (kk ls h)
/-- a call of a helper with a table of handlers -/
theorem g_mSW (C : CX p s m args meth c cc own nL ret) {bytes : ByteArray} {maxL2 index mc ms : Nat} {ret2 : Option FieldType} {hh : List (Nat × Nat × Nat × Nat)} {rm : Room} {y : MethodName} {As : List Value} {v : Option Value} {Pre : State → Prop} {Post : Heap → Prop} (n0 : Nat) (hn0 : As.length = n0)
    (hM : Met l y (.codeWith y bytes maxL2 ret2 hh :: WG) rm (va_Pc As Pre) (bq_M v Post A1) mc ms A1)
    (hl : Cond.methodLink own index y ∈ WG) (hi : Cond.static y ∈ WG) (hn : Cond.initialized y.cls ∈ WG) (hc : Cond.codeWith y bytes maxL2 ret2 hh ∈ WG)
    (hy : y.cls ≠ "java/lang/invoke/MethodHandle" ∧ y.cls ≠ "java/lang/invoke/VarHandle" ∧ (parseMethodDescriptor y.desc).map (fun d => d.parameters.length) = some n0)
    (hrm : rm.cells = mc ∧ rm.slots = ms ∧ rm.frames + 1 ≤ R.frames ∧ 8 + (maxL2 + 11) + rm.locals ≤ R.locals) (hbl : Bl Pre) (hpre : ∀ U : State, U.heap = H → s.WarmedH U.vm → Pre U)
    (hvl : vs.length = nL) (hst : st0 = As.reverse ++ st) (hcat : (st.map fun v => v.category).sum ≤ 8) (hcs : cells + mc ≤ R.cells ∧ slots + ms ≤ R.slots) (hS : va_S A0 H0 H locs) (hA : ∀ q, A1 q → A0 q) (hd : decode cc pc = .ok (.invokestatic index, 3))
    (kk : ∀ (H1 : Heap) (locs1 : List Loc), Post H1 → H.size ≤ H1.size → (∀ q : Nat, q < H.size → ¬ A1 q → H1[q]? = H[q]?) → va_S A0 H0 H1 locs1 → G p l e R s m args below meth c H1 locs1 (cells + mc) (slots + ms) Q vs (pc + 3) (v.toList ++ st)) : G p l e R s m args below meth c H locs cells slots Q vs pc st0 := by
  subst hst
  subst hn0
  intro ls h
  exact bq_cm (vx_runSW (As := As) (rest := st) (Ts := WG) ⟨C.1, C.2.1, C.2.2.1, C.2.2.2.1, C.2.2.2.2.1⟩ hM (vx_cwSW As.length C.2.2.2.2.1 (WG_gi (WG_cons hl (WG_cons hi (WG_cons hn (WG_cons hc WG_self))))) rfl hrm.1 hrm.2.1 hy ⟨hrm.2.2.1, hrm.2.2.2⟩) ⟨fun a U g mk q => ⟨q.1, hbl U g mk a q.2⟩, fun U hU hW => ⟨rfl, hpre U hU hW⟩⟩ rfl rfl (h.1.trans hvl) rfl (lv_room hcat) hd hcs) hS (fun q _ => hA q) hA (fun H1 locs1 h1 h2 h3 h4 => kk H1 locs1 h1 h2 h3 h4 ls h)
end LC
theorem cmp_self (x : Int64) : lg_cmp x x = 0 := by unfold lg_cmp; simp
theorem nI_z9 {k : Nat} (hk : k < 2147483648) (h : nI k = 0) : k = 0 := by
  have h9 := congrArg Int32.toInt h
  rw [nI_toInt hk, show (0 : Int32).toInt = 0 from rfl] at h9
  omega
theorem q_mxs_cong {f g : Nat → Int32} {h : Int64} : ∀ n, (∀ j, j < n → f j = g j) → q_mxs f h n = q_mxs g h n := by
  intro n
  induction n with
  | zero => intro _; rfl
  | succ n ih =>
    intro hj
    show q_mixv (q_mxs f h n) (f n).toInt64 = q_mixv (q_mxs g h n) (g n).toInt64
    rw [ih (fun j hjn => hj j (by omega)), hj n (by omega)]
abbrev LWW (cI cL cJ : ClassId) (o sa ba a e0 : Nat) (t : Nat → Nat) (om : Nat) (tm : Nat → Nat) (oa n len : Nat) (tx : Nat → Int32) (sv : Nat → LO) (x : PS) (f : Nat → Int64) (A : RW) (i : Nat → Int32) (h : Int64) : va_W :=
  MW cI om tm A i h ++ (JR cJ oa f :: BW cI cL o sa ba a e0 t n len (svg sv) tx (A 0 550) (q_nz (A 0)) (q_rw (q_nz (A 0)) 0) x sv)
def LI (dC : Nat → ClassId) (dI : Nat → Nat → Nat) (cI cL cJ : ClassId) (AL : Nat → Prop) (H0 : Heap) (o sa ba a e0 : Nat) (t : Nat → Nat) (om : Nat) (tm : Nat → Nat) (oa n len : Nat) (tx : Nat → Int32) (sv : Nat → LO) (x : PS) (f : Nat → Int64) (A : RW) (i : Nat → Int32) (h : Int64) (H : Heap) (locs : List Loc) : Prop :=
  RLs n len tx sv A i ∧ va_P (dC, dI) vwCl (LWW cI cL cJ o sa ba a e0 t om tm oa n len tx sv x f A i h) H ∧ va_D AL (LWW cI cL cJ o sa ba a e0 t om tm oa n len tx sv x f A i h) ∧ va_S AL H0 H locs

set_option maxHeartbeats 4000000 in
set_option maxRecDepth 100000 in
theorem lw_c0 {P_ : Program} {l : Launch} {E_ : Env} {s : State} {M_ : MethodId} {args : Array Value} {B_ : List Frame} {T_ : Method} {K_ : Code} {Q : State → Prop} {ret : Option FieldType} (C : CX P_ s M_ args T_ K_ cL_law RL 9 ret) (hls : l.stackTraces = false) {dC : Nat → ClassId} {dI : Nat → Nat → Nat} {cI cL cJ : ClassId} {g1 g2 : Nat} {o sa ba a e0 : Nat} {t : Nat → Nat} {om : Nat} {tm : Nat → Nat} {oa b L ii : Nat} {xs : Nat → Int32} (hK : EV dC dI cI cL cJ s) (hZ : ST g1 g2 (fun q => s.heap.size ≤ q) s s.heap) (hX : XE (fun q => s.heap.size ≤ q) s s.heap) (hXs : va_X b L xs s s.heap) (hbl : b < s.heap.size) (hL : L ≤ 2048) (hii : ii + 4 ≤ L) {n len : Nat} {tx : Nat → Int32} {sv : Nat → LO} {x : PS} {f : Nat → Int64} {A : RW} {i : Nat → Int32} {h : Int64} {H : Heap} {locs : List Loc} (hI : LI dC dI cI cL cJ (fun q => s.heap.size ≤ q) s.heap o sa ba a e0 t om tm oa n len tx sv x f A i h H locs)
    (kk : ∀ (n len : Nat) (tx : Nat → Int32) (sv : Nat → LO) (x : PS) (f : Nat → Int64) (A : RW) (i : Nat → Int32) (h : Int64) (H : Heap) (locs : List Loc), LI dC dI cI cL cJ (fun q => s.heap.size ≤ q) s.heap o sa ba a e0 t om tm oa n len tx sv x f A i h H locs → G P_ l E_ room_1 s M_ args B_ T_ K_ H locs (92 + (ii + 4)) (8073 + 6 * (ii + 4)) Q [some (.ref b), some (.ref o), some (.ref om), some (.ref oa), some (.int (nI ii)), none, none, none, none] 1617 []) :
    G P_ l E_ room_1 s M_ args B_ T_ K_ H locs (92 + ii) (8073 + 6 * ii) Q [some (.ref b), some (.ref o), some (.ref om), some (.ref oa), some (.int (nI ii)), none, none, none, none] 152 [] := by
  obtain ⟨hR, hP, hD, hS⟩ := hI
  obtain ⟨hn, hl, hi0, hi1, hki, hyr, htx, hsv⟩ := hR
  have hR : RLs n len tx sv A i := ⟨hn, hl, hi0, hi1, hki, hyr, htx, hsv⟩
  refine g_aload1 C dL_law_152 ?_
  refine g_aload0 C dL_law_153 ?_
  refine g_iload4 C dL_law_154 ?_
  refine g_iconst C (nI 1) (by decide) dL_law_156 ?_
  refine g_iaddN C dL_law_157 ?_
  refine g_sld C hXs hbl (Nat.not_le.mpr hbl) hS (by omega) hL dL_law_158 ?_
  refine g_aload0 C dL_law_159 ?_
  refine g_iload4 C dL_law_160 ?_
  refine g_iconst C (nI 2) (by decide) dL_law_162 ?_
  refine g_iaddN C dL_law_163 ?_
  refine g_sld C hXs hbl (Nat.not_le.mpr hbl) hS (by omega) hL dL_law_164 ?_
  refine g_aload3 C dL_law_165 ?_
  refine g_mSW (As := [.ref o, .int (xs (ii + 1)), .int (xs (ii + 2)), .ref oa]) C 4 rfl (c_L_lay (cd := k_lay (q_nz (A 0)) (xs (ii + 1)) (xs (ii + 2))) (cls := cl3) (W := BW cI cL o sa ba a e0 t n len (svg sv) tx (A 0 550) (q_nz (A 0)) (q_rw (q_nz (A 0)) 0) x sv) (PW := fun W1 => ∃ x9 : PS, W1 = BW cI cL o sa ba a e0 t (min (n + 1) 6) len (svg (sv_save sv n (A 0 550) (q_nz (A 0)) (q_rw (q_nz (A 0)) 0))) tx (A 0 550) (q_up (q_nz (A 0)) 3 (q_n (xs (ii + 1))) (xs (ii + 2))) (q_rw (q_up (q_nz (A 0)) 3 (q_n (xs (ii + 1))) (xs (ii + 2))) 0) x9 (sv_save sv n (A 0 550) (q_nz (A 0)) (q_rw (q_nz (A 0)) 0))) (PV := fun W1 => ∃ x9 : PS, W1 = BW cI cL o sa ba a e0 t n len (svg sv) tx (A 0 550) (q_nz (A 0)) (q_rw (q_nz (A 0)) 0) x9 sv) (fun H h9 => ⟨_, ⟨x, rfl⟩, h9.1, h9.2⟩) (fun H h9 => ⟨_, ⟨x, rfl⟩, h9.1, h9.2⟩) k4 rfl rfl rfl ⟨_, rfl⟩ BDM_bl (fun U h1 h2 h3 h4 h5 => ⟨h1, h2, h3, h4, h5⟩) (c_X2_lay hls hn)) wl_L_87 wt_L_lay wn_L wW_L_lay (by decide +kernel) ⟨rfl, rfl, by decide, by decide⟩ LHM_bl (LHM_at hK (P_r hP) (D_r hD).1 hZ hX hS (D_r hD).2) rfl rfl (by simp [Value.category]) ⟨by show _ ≤ 601024; omega, by show _ ≤ 7293034; omega⟩ hS (D_r hD).2 dL_law_166 (fun H locs hP1 _ hk1 hS => ?_)
  obtain ⟨f1, W1, hok, hno, hP1, hD1⟩ := hP1
  obtain ⟨hP, hD⟩ := PD_put hP hD hP1 hD1 hk1
  refine g_istore5 C rfl dL_law_169 ?_
  refine g_aload2 C dL_law_171 ?_
  refine g_aload0 C dL_law_172 ?_
  refine g_iload4 C dL_law_173 ?_
  refine g_iconst C (nI 1) (by decide) dL_law_175 ?_
  refine g_iaddN C dL_law_176 ?_
  refine g_sld C hXs hbl (Nat.not_le.mpr hbl) hS (by omega) hL dL_law_177 ?_
  refine g_aload0 C dL_law_178 ?_
  refine g_iload4 C dL_law_179 ?_
  refine g_iconst C (nI 2) (by decide) dL_law_181 ?_
  refine g_iaddN C dL_law_182 ?_
  refine g_sld C hXs hbl (Nat.not_le.mpr hbl) hS (by omega) hL dL_law_183 ?_
  refine g_mV (As := [.int (xs (ii + 1)), .int (xs (ii + 2))]) C 2 rfl (c_X3_lay hn hi0 hki) wl_L_92 wi_X3_lay wv_X3_lay wn_X3 wc_X3_lay (by decide +kernel) ⟨rfl, rfl, by decide, by decide⟩ MDM_bl (va_recv (ci := 3) (q0 := 0) hK (P_l hP) rfl rfl) (MDM_at hK (P_l hP) (D_l hD).1) rfl rfl (by simp [Value.category]) ⟨by show _ ≤ 601024; omega, by show _ ≤ 7293034; omega⟩ hS (D_l hD).2 dL_law_184 (fun H locs hP1 _ hk1 hS => ?_)
  obtain ⟨A', i', h', hP9, r0, r1, r3, r2, r4, r5⟩ := hP1
  obtain ⟨hP, hD⟩ := PD_join hP hD hP9 (List.Perm.refl _) hk1
  refine g_istore6 C rfl dL_law_187 ?_
  refine g_aload2 C dL_law_189 ?_
  refine g_mcV0 C hK (P_l hP) (c_X3_thrown) wl_L_93 wi_X3_thrown wv_X3_thrown wc_X3_thrown (by decide +kernel) ⟨rfl, rfl, by decide, by decide⟩ rfl (by simp [Value.category]) ⟨by show _ ≤ 601024; omega, by show _ ≤ 7293034; omega⟩ dL_law_190 ?_
  rw [r5]
  refine g_iload5 C dL_law_193 ?_
  refine g_icmp_eq C 200 dL_law_195 (by decide) (fun h195 => ?_) (fun h195 => ?_)
  · refine g_iload5 C dL_law_200 ?_
    refine g_if_ne C 217 dL_law_202 (by decide) (fun h202 => ?_) (fun h202 => ?_)
    · have hz : ¬ k_lay (q_nz (A 0)) (xs (ii + 1)) (xs (ii + 2)) = 0 := fun z => h202 (by rw [z]; rfl)
      refine g_goto C 1617 dL_law_217 (by decide) ?_
      obtain ⟨x2, rfl⟩ := hno hz
      rw [if_neg hz] at r0 r1 r3
      rw [← r0] at hP hD
      refine g_fg5 (g_fg6 ?_)
      refine g_wd (k := 92 + (ii + 4)) (n := 8073 + 6 * (ii + 4)) (by omega) (by omega) ?_
      exact kk _ _ _ _ _ _ _ _ _ _ _ ⟨RLs_cong hR r0 r1 r2 (r3.trans hi0.symm) r4, hP, hD, hS⟩
    · have hcd9 : k_lay (q_nz (A 0)) (xs (ii + 1)) (xs (ii + 2)) = 0 ∨ k_lay (q_nz (A 0)) (xs (ii + 1)) (xs (ii + 2)) = 1 ∨ k_lay (q_nz (A 0)) (xs (ii + 1)) (xs (ii + 2)) = 2 ∨ k_lay (q_nz (A 0)) (xs (ii + 1)) (xs (ii + 2)) = 3 := k4
      have hz : k_lay (q_nz (A 0)) (xs (ii + 1)) (xs (ii + 2)) = 0 := nI_z9 (by omega) h202
      obtain ⟨hv9, hW9⟩ := hok hz
      refine g_aload3 C dL_law_205 ?_
      refine g_iconst C (nI 0) (by decide) dL_law_206 ?_
      refine g_lald C hK (P_r hP) dL_law_207 ?_
      rw [hv9]
      refine g_iload6 C dL_law_208 ?_
      rw [if_pos hz]
      refine g_i2l C _ rfl dL_law_210 ?_
      refine g_lcmp C dL_law_211 ?_
      rw [cmp_self]
      refine g_if_eq C 217 dL_law_212 (by decide) (fun h212 => ?_) (fun h212 => ?_)
      · refine g_goto C 1617 dL_law_217 (by decide) ?_
        obtain ⟨x2, rfl⟩ := hW9
        rw [if_pos hz] at r0 r1 r3
        obtain ⟨q1, q2, q3⟩ := op_lay hki hz
        have w1 : q_nz (A' 0) = (q_up (q_nz (A 0)) 3 (q_n (xs (ii + 1))) (xs (ii + 2))) := by rw [r0]; exact q1
        have w2 : A' 0 550 = (A 0 550) := by rw [r0]; exact q2
        have hP : va_P (dC, dI) vwCl (MW cI om tm A' i' h' ++ (JR cJ oa f1 :: BW cI cL o sa ba a e0 t (min (n + 1) 6) len (svg (sv_save sv n (A 0 550) (q_nz (A 0)) (q_rw (q_nz (A 0)) 0))) tx (A' 0 550) (q_nz (A' 0)) (q_rw (q_nz (A' 0)) 0) x2 (sv_save sv n (A 0 550) (q_nz (A 0)) (q_rw (q_nz (A 0)) 0)))) H := by rw [w1, w2]; exact hP
        have hD : va_D (fun q => s.heap.size ≤ q) (MW cI om tm A' i' h' ++ (JR cJ oa f1 :: BW cI cL o sa ba a e0 t (min (n + 1) 6) len (svg (sv_save sv n (A 0 550) (q_nz (A 0)) (q_rw (q_nz (A 0)) 0))) tx (A' 0 550) (q_nz (A' 0)) (q_rw (q_nz (A' 0)) 0) x2 (sv_save sv n (A 0 550) (q_nz (A 0)) (q_rw (q_nz (A 0)) 0)))) := by rw [w1, w2]; exact hD
        refine g_fg5 (g_fg6 ?_)
        refine g_wd (k := 92 + (ii + 4)) (n := 8073 + 6 * (ii + 4)) (by omega) (by omega) ?_
        exact kk _ _ _ _ _ _ _ _ _ _ _ ⟨RLs_save hR r1 r3 (by rw [w1]; exact q3) (by rw [w2]; exact hyr) hl (r4.trans hi1) (TXR_cong htx r2), hP, hD, hS⟩
      · exact absurd rfl h212
  · exact absurd rfl h195
