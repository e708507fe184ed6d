/-! the law's cases: the class and the reference do the same step -/
section LC
variable {p : Program} {l : Launch} {e : Env} {R : Room} {s : State} {m : MethodId} {args : Array Value} {below : List Frame} {meth : Method} {c : Code} {H : Heap} {locs : List Loc} {cells slots : Nat} {Q : State → Prop}
variable {cc : ByteArray} {own : String} {nL pc : Nat} {ret : Option FieldType} {vs : List (Option Value)} {st st0 : List Value} {A A0 A1 : Nat → Prop} {D : va_G} {cl : List vw_C} {ws : va_W} {H0 : Heap} {cI cL cJ : ClassId}
theorem g_sld (C : CX p s m args meth c cc own nL ret) {b L : Nat} {xs : Nat → Int32} (hX : va_X b L xs s H0) (hbl : b < H0.size) (hbA : ¬ A b) (hS : va_S A H0 H locs) {i : Nat} (hi : i < L) (hL : L ≤ 2048) (hd : decode cc pc = .ok (.iaload, 1))
    (kk : G p l e R s m args below meth c H locs cells slots Q vs (pc + 1) (.int (xs i) :: st)) : G p l e R s m args below meth c H locs cells slots Q vs pc (.int (nI i) :: .ref b :: st) := fun ls h =>
  va_sld C.1 C.2.1 hX hbl hbA hS (vp_in_nI hi (by omega)) hd (by rw [nI_clamp (by omega)]; exact kk ls h)
theorem g_slen (C : CX p s m args meth c cc own nL ret) {b L : Nat} {xs : Nat → Int32} (hX : va_X b L xs s H0) (hbl : b < H0.size) (hbA : ¬ A b) (hS : va_S A H0 H locs) (hd : decode cc pc = .ok (.arraylength, 1))
    (kk : G p l e R s m args below meth c H locs cells slots Q vs (pc + 1) (.int (nI L) :: st)) : G p l e R s m args below meth c H locs cells slots Q vs pc (.ref b :: st) := fun ls h =>
  va_slen C.1 C.2.1 hX hbl hbA hS hd (kk ls h)
/-- a call of a helper with a table of handlers -/
theorem g_mSW (C : CX p s m args meth c cc own nL ret) {bytes : ByteArray} {maxL2 index mc ms : Nat} {ret2 : Option FieldType} {hh : List (Nat × Nat × Nat × Nat)} {rm : Room} {y : MethodName} {As : List Value} {v : Option Value} {Pre : State → Prop} {Post : Heap → Prop} (n0 : Nat) (hn0 : As.length = n0)
    (hM : Met l y (.codeWith y bytes maxL2 ret2 hh :: WG) rm (va_Pc As Pre) (bq_M v Post A1) mc ms A1)
    (hl : Cond.methodLink own index y ∈ WG) (hi : Cond.static y ∈ WG) (hn : Cond.initialized y.cls ∈ WG) (hc : Cond.codeWith y bytes maxL2 ret2 hh ∈ WG)
    (hy : y.cls ≠ "java/lang/invoke/MethodHandle" ∧ y.cls ≠ "java/lang/invoke/VarHandle" ∧ (parseMethodDescriptor y.desc).map (fun d => d.parameters.length) = some n0)
    (hrm : rm.cells = mc ∧ rm.slots = ms ∧ rm.frames + 1 ≤ R.frames ∧ 8 + (maxL2 + 11) + rm.locals ≤ R.locals) (hbl : Bl Pre) (hpre : ∀ U : State, U.heap = H → s.WarmedH U.vm → Pre U)
    (hvl : vs.length = nL) (hst : st0 = As.reverse ++ st) (hcat : (st.map fun v => v.category).sum ≤ 8) (hcs : cells + mc ≤ R.cells ∧ slots + ms ≤ R.slots) (hS : va_S A0 H0 H locs) (hA : ∀ q, A1 q → A0 q) (hd : decode cc pc = .ok (.invokestatic index, 3))
    (kk : ∀ (H1 : Heap) (locs1 : List Loc), Post H1 → H.size ≤ H1.size → (∀ q : Nat, q < H.size → ¬ A1 q → H1[q]? = H[q]?) → va_S A0 H0 H1 locs1 → G p l e R s m args below meth c H1 locs1 (cells + mc) (slots + ms) Q vs (pc + 3) (v.toList ++ st)) : G p l e R s m args below meth c H locs cells slots Q vs pc st0 := by
  subst hst
  subst hn0
  intro ls h
  exact bq_cm (vx_runSW (As := As) (rest := st) (Ts := WG) ⟨C.1, C.2.1, C.2.2.1, C.2.2.2.1, C.2.2.2.2.1⟩ hM (vx_cwSW As.length C.2.2.2.2.1 (WG_gi (WG_cons hl (WG_cons hi (WG_cons hn (WG_cons hc WG_self))))) rfl hrm.1 hrm.2.1 hy ⟨hrm.2.2.1, hrm.2.2.2⟩) ⟨fun a U g mk q => ⟨q.1, hbl U g mk a q.2⟩, fun U hU hW => ⟨rfl, hpre U hU hW⟩⟩ rfl rfl (h.1.trans hvl) rfl (lv_room hcat) hd hcs) hS (fun q _ => hA q) hA (fun H1 locs1 h1 h2 h3 h4 => kk H1 locs1 h1 h2 h3 h4 ls h)
end LC
theorem cmp_self (x : Int64) : lg_cmp x x = 0 := by unfold lg_cmp; simp
theorem nI_z9 {k : Nat} (hk : k < 2147483648) (h : nI k = 0) : k = 0 := by
  have h9 := congrArg Int32.toInt h
  rw [nI_toInt hk, show (0 : Int32).toInt = 0 from rfl] at h9
  omega
theorem q_mxs_cong {f g : Nat → Int32} {h : Int64} : ∀ n, (∀ j, j < n → f j = g j) → q_mxs f h n = q_mxs g h n := by
  intro n
  induction n with
  | zero => intro _; rfl
  | succ n ih =>
    intro hj
    show q_mixv (q_mxs f h n) (f n).toInt64 = q_mixv (q_mxs g h n) (g n).toInt64
    rw [ih (fun j hjn => hj j (by omega)), hj n (by omega)]
abbrev LWW (cI cL cJ : ClassId) (o sa ba a e0 : Nat) (t : Nat → Nat) (om : Nat) (tm : Nat → Nat) (oa n len : Nat) (tx : Nat → Int32) (sv : Nat → LO) (x : PS) (f : Nat → Int64) (A : RW) (i : Nat → Int32) (h : Int64) : va_W :=
  MW cI om tm A i h ++ (JR cJ oa f :: BW cI cL o sa ba a e0 t n len (svg sv) tx (A 0 550) (q_nz (A 0)) (q_rw (q_nz (A 0)) 0) x sv)
def LI (dC : Nat → ClassId) (dI : Nat → Nat → Nat) (cI cL cJ : ClassId) (AL : Nat → Prop) (H0 : Heap) (o sa ba a e0 : Nat) (t : Nat → Nat) (om : Nat) (tm : Nat → Nat) (oa n len : Nat) (tx : Nat → Int32) (sv : Nat → LO) (x : PS) (f : Nat → Int64) (A : RW) (i : Nat → Int32) (h : Int64) (H : Heap) (locs : List Loc) : Prop :=
  RLs n len tx sv A i ∧ va_P (dC, dI) vwCl (LWW cI cL cJ o sa ba a e0 t om tm oa n len tx sv x f A i h) H ∧ va_D AL (LWW cI cL cJ o sa ba a e0 t om tm oa n len tx sv x f A i h) ∧ va_S AL H0 H locs

set_option maxHeartbeats 4000000 in
set_option maxRecDepth 100000 in
theorem lw_c0 {P_ : Program} {l : Launch} {E_ : Env} {s : State} {M_ : MethodId} {args : Array Value} {B_ : List Frame} {T_ : Method} {K_ : Code} {Q : State → Prop} {ret : Option FieldType} (C : CX P_ s M_ args T_ K_ cL_law RL 9 ret) (hls : l.stackTraces = false) {dC : Nat → ClassId} {dI : Nat → Nat → Nat} {cI cL cJ : ClassId} {g1 g2 : Nat} {o sa ba a e0 : Nat} {t : Nat → Nat} {om : Nat} {tm : Nat → Nat} {oa b L ii : Nat} {xs : Nat → Int32} (hK : EV dC dI cI cL cJ s) (hZ : ST g1 g2 (fun q => s.heap.size ≤ q) s s.heap) (hX : XE (fun q => s.heap.size ≤ q) s s.heap) (hXs : va_X b L xs s s.heap) (hbl : b < s.heap.size) (hL : L ≤ 2048) (hii : ii + 4 ≤ L) {n len : Nat} {tx : Nat → Int32} {sv : Nat → LO} {x : PS} {f : Nat → Int64} {A : RW} {i : Nat → Int32} {h : Int64} {H : Heap} {locs : List Loc} (hI : LI dC dI cI cL cJ (fun q => s.heap.size ≤ q) s.heap o sa ba a e0 t om tm oa n len tx sv x f A i h H locs)
    (kk : ∀ (n len : Nat) (tx : Nat → Int32) (sv : Nat → LO) (x : PS) (f : Nat → Int64) (A : RW) (i : Nat → Int32) (h : Int64) (H : Heap) (locs : List Loc), LI dC dI cI cL cJ (fun q => s.heap.size ≤ q) s.heap o sa ba a e0 t om tm oa n len tx sv x f A i h H locs → G P_ l E_ room_1 s M_ args B_ T_ K_ H locs (92 + (ii + 4)) (8073 + 6 * (ii + 4)) Q [some (.ref b), some (.ref o), some (.ref om), some (.ref oa), some (.int (nI ii)), none, none, none, none] 1617 []) :
    G P_ l E_ room_1 s M_ args B_ T_ K_ H locs (92 + ii) (8073 + 6 * ii) Q [some (.ref b), some (.ref o), some (.ref om), some (.ref oa), some (.int (nI ii)), none, none, none, none] 152 [] := by
  obtain ⟨hR, hP, hD, hS⟩ := hI
  obtain ⟨hn, hl, hi0, hi1, hki, hyr, htx, hsv⟩ := hR
  have hR : RLs n len tx sv A i := ⟨hn, hl, hi0, hi1, hki, hyr, htx, hsv⟩
  refine g_aload1 C dL_law_152 ?_
  refine g_aload0 C dL_law_153 ?_
  refine g_iload4 C dL_law_154 ?_
  refine g_iconst C (nI 1) (by decide) dL_law_156 ?_
  refine g_iaddN C dL_law_157 ?_
  refine g_sld C hXs hbl (Nat.not_le.mpr hbl) hS (by omega) hL dL_law_158 ?_
  refine g_aload0 C dL_law_159 ?_
  refine g_iload4 C dL_law_160 ?_
  refine g_iconst C (nI 2) (by decide) dL_law_162 ?_
  refine g_iaddN C dL_law_163 ?_
  refine g_sld C hXs hbl (Nat.not_le.mpr hbl) hS (by omega) hL dL_law_164 ?_
  refine g_aload3 C dL_law_165 ?_
  refine g_mSW (As := [.ref o, .int (xs (ii + 1)), .int (xs (ii + 2)), .ref oa]) C 4 rfl (c_L_lay (cd := k_lay (q_nz (A 0)) (xs (ii + 1)) (xs (ii + 2))) (cls := cl3) (W := BW cI cL o sa ba a e0 t n len (svg sv) tx (A 0 550) (q_nz (A 0)) (q_rw (q_nz (A 0)) 0) x sv) (PW := fun W1 => ∃ x9 : PS, W1 = BW cI cL o sa ba a e0 t (min (n + 1) 6) len (svg (sv_save sv n (A 0 550) (q_nz (A 0)) (q_rw (q_nz (A 0)) 0))) tx (A 0 550) (q_up (q_nz (A 0)) 3 (q_n (xs (ii + 1))) (xs (ii + 2))) (q_rw (q_up (q_nz (A 0)) 3 (q_n (xs (ii + 1))) (xs (ii + 2))) 0) x9 (sv_save sv n (A 0 550) (q_nz (A 0)) (q_rw (q_nz (A 0)) 0))) (PV := fun W1 => ∃ x9 : PS, W1 = BW cI cL o sa ba a e0 t n len (svg sv) tx (A 0 550) (q_nz (A 0)) (q_rw (q_nz (A 0)) 0) x9 sv) (fun H h9 => ⟨_, ⟨x, rfl⟩, h9.1, h9.2⟩) (fun H h9 => ⟨_, ⟨x, rfl⟩, h9.1, h9.2⟩) k4 rfl rfl rfl ⟨_, rfl⟩ BDM_bl (fun U h1 h2 h3 h4 h5 => ⟨h1, h2, h3, h4, h5⟩) (c_X2_lay hls hn)) wl_L_87 wt_L_lay wn_L wW_L_lay (by decide +kernel) ⟨rfl, rfl, by decide, by decide⟩ LHM_bl (LHM_at hK (P_r hP) (D_r hD).1 hZ hX hS (D_r hD).2) rfl rfl (by simp [Value.category]) ⟨by show _ ≤ 601024; omega, by show _ ≤ 7293034; omega⟩ hS (D_r hD).2 dL_law_166 (fun H locs hP1 _ hk1 hS => ?_)
  obtain ⟨f1, W1, hok, hno, hP1, hD1⟩ := hP1
  obtain ⟨hP, hD⟩ := PD_put hP hD hP1 hD1 hk1
  refine g_istore5 C rfl dL_law_169 ?_
  refine g_aload2 C dL_law_171 ?_
  refine g_aload0 C dL_law_172 ?_
  refine g_iload4 C dL_law_173 ?_
  refine g_iconst C (nI 1) (by decide) dL_law_175 ?_
  refine g_iaddN C dL_law_176 ?_
  refine g_sld C hXs hbl (Nat.not_le.mpr hbl) hS (by omega) hL dL_law_177 ?_
  refine g_aload0 C dL_law_178 ?_
  refine g_iload4 C dL_law_179 ?_
  refine g_iconst C (nI 2) (by decide) dL_law_181 ?_
  refine g_iaddN C dL_law_182 ?_
  refine g_sld C hXs hbl (Nat.not_le.mpr hbl) hS (by omega) hL dL_law_183 ?_
  refine g_mV (As := [.int (xs (ii + 1)), .int (xs (ii + 2))]) C 2 rfl (c_X3_lay hn hi0 hki) wl_L_92 wi_X3_lay wv_X3_lay wn_X3 wc_X3_lay (by decide +kernel) ⟨rfl, rfl, by decide, by decide⟩ MDM_bl (va_recv (ci := 3) (q0 := 0) hK (P_l hP) rfl rfl) (MDM_at hK (P_l hP) (D_l hD).1) rfl rfl (by simp [Value.category]) ⟨by show _ ≤ 601024; omega, by show _ ≤ 7293034; omega⟩ hS (D_l hD).2 dL_law_184 (fun H locs hP1 _ hk1 hS => ?_)
  obtain ⟨A', i', h', hP9, r0, r1, r3, r2, r4, r5⟩ := hP1
  obtain ⟨hP, hD⟩ := PD_join hP hD hP9 (List.Perm.refl _) hk1
  refine g_istore6 C rfl dL_law_187 ?_
  refine g_aload2 C dL_law_189 ?_
  refine g_mcV0 C hK (P_l hP) (c_X3_thrown) wl_L_93 wi_X3_thrown wv_X3_thrown wc_X3_thrown (by decide +kernel) ⟨rfl, rfl, by decide, by decide⟩ rfl (by simp [Value.category]) ⟨by show _ ≤ 601024; omega, by show _ ≤ 7293034; omega⟩ dL_law_190 ?_
  rw [r5]
  refine g_iload5 C dL_law_193 ?_
  refine g_icmp_eq C 200 dL_law_195 (by decide) (fun h195 => ?_) (fun h195 => ?_)
  · refine g_iload5 C dL_law_200 ?_
    refine g_if_ne C 217 dL_law_202 (by decide) (fun h202 => ?_) (fun h202 => ?_)
    · have hz : ¬ k_lay (q_nz (A 0)) (xs (ii + 1)) (xs (ii + 2)) = 0 := fun z => h202 (by rw [z]; rfl)
      refine g_goto C 1617 dL_law_217 (by decide) ?_
      obtain ⟨x2, rfl⟩ := hno hz
      rw [if_neg hz] at r0 r1 r3
      rw [← r0] at hP hD
      refine g_fg5 (g_fg6 ?_)
      refine g_wd (k := 92 + (ii + 4)) (n := 8073 + 6 * (ii + 4)) (by omega) (by omega) ?_
      exact kk _ _ _ _ _ _ _ _ _ _ _ ⟨RLs_cong hR r0 r1 r2 (r3.trans hi0.symm) r4, hP, hD, hS⟩
    · have hcd9 : k_lay (q_nz (A 0)) (xs (ii + 1)) (xs (ii + 2)) = 0 ∨ k_lay (q_nz (A 0)) (xs (ii + 1)) (xs (ii + 2)) = 1 ∨ k_lay (q_nz (A 0)) (xs (ii + 1)) (xs (ii + 2)) = 2 ∨ k_lay (q_nz (A 0)) (xs (ii + 1)) (xs (ii + 2)) = 3 := k4
      have hz : k_lay (q_nz (A 0)) (xs (ii + 1)) (xs (ii + 2)) = 0 := nI_z9 (by omega) h202
      obtain ⟨hv9, hW9⟩ := hok hz
      refine g_aload3 C dL_law_205 ?_
      refine g_iconst C (nI 0) (by decide) dL_law_206 ?_
      refine g_lald C hK (P_r hP) dL_law_207 ?_
      rw [hv9]
      refine g_iload6 C dL_law_208 ?_
      rw [if_pos hz]
      refine g_i2l C _ rfl dL_law_210 ?_
      refine g_lcmp C dL_law_211 ?_
      rw [cmp_self]
      refine g_if_eq C 217 dL_law_212 (by decide) (fun h212 => ?_) (fun h212 => ?_)
      · refine g_goto C 1617 dL_law_217 (by decide) ?_
        obtain ⟨x2, rfl⟩ := hW9
        rw [if_pos hz] at r0 r1 r3
        obtain ⟨q1, q2, q3⟩ := op_lay hki hz
        have w1 : q_nz (A' 0) = (q_up (q_nz (A 0)) 3 (q_n (xs (ii + 1))) (xs (ii + 2))) := by rw [r0]; exact q1
        have w2 : A' 0 550 = (A 0 550) := by rw [r0]; exact q2
        have hP : va_P (dC, dI) vwCl (MW cI om tm A' i' h' ++ (JR cJ oa f1 :: BW cI cL o sa ba a e0 t (min (n + 1) 6) len (svg (sv_save sv n (A 0 550) (q_nz (A 0)) (q_rw (q_nz (A 0)) 0))) tx (A' 0 550) (q_nz (A' 0)) (q_rw (q_nz (A' 0)) 0) x2 (sv_save sv n (A 0 550) (q_nz (A 0)) (q_rw (q_nz (A 0)) 0)))) H := by rw [w1, w2]; exact hP
        have hD : va_D (fun q => s.heap.size ≤ q) (MW cI om tm A' i' h' ++ (JR cJ oa f1 :: BW cI cL o sa ba a e0 t (min (n + 1) 6) len (svg (sv_save sv n (A 0 550) (q_nz (A 0)) (q_rw (q_nz (A 0)) 0))) tx (A' 0 550) (q_nz (A' 0)) (q_rw (q_nz (A' 0)) 0) x2 (sv_save sv n (A 0 550) (q_nz (A 0)) (q_rw (q_nz (A 0)) 0)))) := by rw [w1, w2]; exact hD
        refine g_fg5 (g_fg6 ?_)
        refine g_wd (k := 92 + (ii + 4)) (n := 8073 + 6 * (ii + 4)) (by omega) (by omega) ?_
        exact kk _ _ _ _ _ _ _ _ _ _ _ ⟨RLs_save hR r1 r3 (by rw [w1]; exact q3) (by rw [w2]; exact hyr) hl (r4.trans hi1) (TXR_cong htx r2), hP, hD, hS⟩
      · exact absurd rfl h212
  · exact absurd rfl h195

set_option maxHeartbeats 4000000 in
set_option maxRecDepth 100000 in
theorem lw_c1 {P_ : Program} {l : Launch} {E_ : Env} {s : State} {M_ : MethodId} {args : Array Value} {B_ : List Frame} {T_ : Method} {K_ : Code} {Q : State → Prop} {ret : Option FieldType} (C : CX P_ s M_ args T_ K_ cL_law RL 9 ret) (hls : l.stackTraces = false) {dC : Nat → ClassId} {dI : Nat → Nat → Nat} {cI cL cJ : ClassId} {g1 g2 : Nat} {o sa ba a e0 : Nat} {t : Nat → Nat} {om : Nat} {tm : Nat → Nat} {oa b L ii : Nat} {xs : Nat → Int32} (hK : EV dC dI cI cL cJ s) (hZ : ST g1 g2 (fun q => s.heap.size ≤ q) s s.heap) (hX : XE (fun q => s.heap.size ≤ q) s s.heap) (hXs : va_X b L xs s s.heap) (hbl : b < s.heap.size) (hL : L ≤ 2048) (hii : ii + 4 ≤ L) {n len : Nat} {tx : Nat → Int32} {sv : Nat → LO} {x : PS} {f : Nat → Int64} {A : RW} {i : Nat → Int32} {h : Int64} {H : Heap} {locs : List Loc} (hI : LI dC dI cI cL cJ (fun q => s.heap.size ≤ q) s.heap o sa ba a e0 t om tm oa n len tx sv x f A i h H locs)
    (kk : ∀ (n len : Nat) (tx : Nat → Int32) (sv : Nat → LO) (x : PS) (f : Nat → Int64) (A : RW) (i : Nat → Int32) (h : Int64) (H : Heap) (locs : List Loc), LI dC dI cI cL cJ (fun q => s.heap.size ≤ q) s.heap o sa ba a e0 t om tm oa n len tx sv x f A i h H locs → G P_ l E_ room_1 s M_ args B_ T_ K_ H locs (92 + (ii + 4)) (8073 + 6 * (ii + 4)) Q [some (.ref b), some (.ref o), some (.ref om), some (.ref oa), some (.int (nI ii)), none, none, none, none] 1617 []) :
    G P_ l E_ room_1 s M_ args B_ T_ K_ H locs (92 + ii) (8073 + 6 * ii) Q [some (.ref b), some (.ref o), some (.ref om), some (.ref oa), some (.int (nI ii)), none, none, none, none] 220 [] := by
  obtain ⟨hR, hP, hD, hS⟩ := hI
  obtain ⟨hn, hl, hi0, hi1, hki, hyr, htx, hsv⟩ := hR
  have hR : RLs n len tx sv A i := ⟨hn, hl, hi0, hi1, hki, hyr, htx, hsv⟩
  refine g_aload1 C dL_law_220 ?_
  refine g_aload0 C dL_law_221 ?_
  refine g_iload4 C dL_law_222 ?_
  refine g_iconst C (nI 1) (by decide) dL_law_224 ?_
  refine g_iaddN C dL_law_225 ?_
  refine g_sld C hXs hbl (Nat.not_le.mpr hbl) hS (by omega) hL dL_law_226 ?_
  refine g_aload3 C dL_law_227 ?_
  refine g_mSW (As := [.ref o, .int (xs (ii + 1)), .ref oa]) C 3 rfl (c_L_pass (cd := k_pass (A 0 550) (xs (ii + 1))) (cls := clA) (W := BW cI cL o sa ba a e0 t n len (svg sv) tx (A 0 550) (q_nz (A 0)) (q_rw (q_nz (A 0)) 0) x sv) (PW := fun W1 => ∃ x9 : PS, W1 = BW cI cL o sa ba a e0 t (min (n + 1) 6) len (svg (sv_save sv n (A 0 550) (q_nz (A 0)) (q_rw (q_nz (A 0)) 0))) tx ((A 0 550) + (xs (ii + 1))) (q_nz (A 0)) (q_rw (q_nz (A 0)) 0) x9 (sv_save sv n (A 0 550) (q_nz (A 0)) (q_rw (q_nz (A 0)) 0))) (PV := fun W1 => ∃ x9 : PS, W1 = BW cI cL o sa ba a e0 t n len (svg sv) tx (A 0 550) (q_nz (A 0)) (q_rw (q_nz (A 0)) 0) x9 sv) (fun H h9 => ⟨_, ⟨x, rfl⟩, h9.1, h9.2⟩) (fun H h9 => ⟨_, ⟨x, rfl⟩, h9.1, h9.2⟩) k3 rfl rfl ⟨_, rfl⟩ BDM_bl (fun U h1 h2 h3 h4 h5 => ⟨h1, h2, h3, h4, h5⟩) (c_X2_pass hls hn)) wl_L_96 wt_L_pass wn_L wW_L_pass (by decide +kernel) ⟨rfl, rfl, by decide, by decide⟩ LHM_bl (LHM_at hK (P_r hP) (D_r hD).1 hZ hX hS (D_r hD).2) rfl rfl (by simp [Value.category]) ⟨by show _ ≤ 601024; omega, by show _ ≤ 7293034; omega⟩ hS (D_r hD).2 dL_law_228 (fun H locs hP1 _ hk1 hS => ?_)
  obtain ⟨f1, W1, hok, hno, hP1, hD1⟩ := hP1
  obtain ⟨hP, hD⟩ := PD_put hP hD hP1 hD1 hk1
  refine g_istore5 C rfl dL_law_231 ?_
  refine g_aload2 C dL_law_233 ?_
  refine g_aload0 C dL_law_234 ?_
  refine g_iload4 C dL_law_235 ?_
  refine g_iconst C (nI 1) (by decide) dL_law_237 ?_
  refine g_iaddN C dL_law_238 ?_
  refine g_sld C hXs hbl (Nat.not_le.mpr hbl) hS (by omega) hL dL_law_239 ?_
  refine g_mV (As := [.int (xs (ii + 1))]) C 1 rfl (c_X3_pass hn hi0 hki) wl_L_99 wi_X3_pass wv_X3_pass wn_X3 wc_X3_pass (by decide +kernel) ⟨rfl, rfl, by decide, by decide⟩ MDM_bl (va_recv (ci := 3) (q0 := 0) hK (P_l hP) rfl rfl) (MDM_at hK (P_l hP) (D_l hD).1) rfl rfl (by simp [Value.category]) ⟨by show _ ≤ 601024; omega, by show _ ≤ 7293034; omega⟩ hS (D_l hD).2 dL_law_240 (fun H locs hP1 _ hk1 hS => ?_)
  obtain ⟨A', i', h', hP9, r0, r1, r3, r2, r4, r5⟩ := hP1
  obtain ⟨hP, hD⟩ := PD_join hP hD hP9 (List.Perm.refl _) hk1
  refine g_istore6 C rfl dL_law_243 ?_
  refine g_aload2 C dL_law_245 ?_
  refine g_mcV0 C hK (P_l hP) (c_X3_thrown) wl_L_93 wi_X3_thrown wv_X3_thrown wc_X3_thrown (by decide +kernel) ⟨rfl, rfl, by decide, by decide⟩ rfl (by simp [Value.category]) ⟨by show _ ≤ 601024; omega, by show _ ≤ 7293034; omega⟩ dL_law_246 ?_
  rw [r5]
  refine g_iload5 C dL_law_249 ?_
  refine g_icmp_eq C 256 dL_law_251 (by decide) (fun h251 => ?_) (fun h251 => ?_)
  · refine g_iload5 C dL_law_256 ?_
    refine g_if_ne C 273 dL_law_258 (by decide) (fun h258 => ?_) (fun h258 => ?_)
    · have hz : ¬ k_pass (A 0 550) (xs (ii + 1)) = 0 := fun z => h258 (by rw [z]; rfl)
      refine g_goto C 1617 dL_law_273 (by decide) ?_
      obtain ⟨x2, rfl⟩ := hno hz
      rw [if_neg hz] at r0 r1 r3
      rw [← r0] at hP hD
      refine g_fg5 (g_fg6 ?_)
      refine g_wd (k := 92 + (ii + 4)) (n := 8073 + 6 * (ii + 4)) (by omega) (by omega) ?_
      exact kk _ _ _ _ _ _ _ _ _ _ _ ⟨RLs_cong hR r0 r1 r2 (r3.trans hi0.symm) r4, hP, hD, hS⟩
    · have hcd9 : k_pass (A 0 550) (xs (ii + 1)) = 0 ∨ k_pass (A 0 550) (xs (ii + 1)) = 1 ∨ k_pass (A 0 550) (xs (ii + 1)) = 2 := k3
      have hz : k_pass (A 0 550) (xs (ii + 1)) = 0 := nI_z9 (by omega) h258
      obtain ⟨hv9, hW9⟩ := hok hz
      refine g_aload3 C dL_law_261 ?_
      refine g_iconst C (nI 0) (by decide) dL_law_262 ?_
      refine g_lald C hK (P_r hP) dL_law_263 ?_
      rw [hv9]
      refine g_iload6 C dL_law_264 ?_
      rw [if_pos hz]
      refine g_i2l C _ rfl dL_law_266 ?_
      refine g_lcmp C dL_law_267 ?_
      rw [cmp_self]
      refine g_if_eq C 273 dL_law_268 (by decide) (fun h268 => ?_) (fun h268 => ?_)
      · refine g_goto C 1617 dL_law_273 (by decide) ?_
        obtain ⟨x2, rfl⟩ := hW9
        rw [if_pos hz] at r0 r1 r3
        obtain ⟨q1, q2, q3⟩ := op_pass hyr hz
        have w1 : q_nz (A' 0) = (q_nz (A 0)) := by rw [r0]; exact q1
        have w2 : A' 0 550 = ((A 0 550) + (xs (ii + 1))) := by rw [r0]; exact q2
        have hP : va_P (dC, dI) vwCl (MW cI om tm A' i' h' ++ (JR cJ oa f1 :: BW cI cL o sa ba a e0 t (min (n + 1) 6) len (svg (sv_save sv n (A 0 550) (q_nz (A 0)) (q_rw (q_nz (A 0)) 0))) tx (A' 0 550) (q_nz (A' 0)) (q_rw (q_nz (A' 0)) 0) x2 (sv_save sv n (A 0 550) (q_nz (A 0)) (q_rw (q_nz (A 0)) 0)))) H := by rw [w1, w2]; exact hP
        have hD : va_D (fun q => s.heap.size ≤ q) (MW cI om tm A' i' h' ++ (JR cJ oa f1 :: BW cI cL o sa ba a e0 t (min (n + 1) 6) len (svg (sv_save sv n (A 0 550) (q_nz (A 0)) (q_rw (q_nz (A 0)) 0))) tx (A' 0 550) (q_nz (A' 0)) (q_rw (q_nz (A' 0)) 0) x2 (sv_save sv n (A 0 550) (q_nz (A 0)) (q_rw (q_nz (A 0)) 0)))) := by rw [w1, w2]; exact hD
        refine g_fg5 (g_fg6 ?_)
        refine g_wd (k := 92 + (ii + 4)) (n := 8073 + 6 * (ii + 4)) (by omega) (by omega) ?_
        exact kk _ _ _ _ _ _ _ _ _ _ _ ⟨RLs_save hR r1 r3 (by rw [w1]; exact hki) (by rw [w2]; exact q3) hl (r4.trans hi1) (TXR_cong htx r2), hP, hD, hS⟩
      · exact absurd rfl h268
  · exact absurd rfl h251

set_option maxHeartbeats 4000000 in
set_option maxRecDepth 100000 in
theorem lw_c2 {P_ : Program} {l : Launch} {E_ : Env} {s : State} {M_ : MethodId} {args : Array Value} {B_ : List Frame} {T_ : Method} {K_ : Code} {Q : State → Prop} {ret : Option FieldType} (C : CX P_ s M_ args T_ K_ cL_law RL 9 ret) (hls : l.stackTraces = false) {dC : Nat → ClassId} {dI : Nat → Nat → Nat} {cI cL cJ : ClassId} {g1 g2 : Nat} {o sa ba a e0 : Nat} {t : Nat → Nat} {om : Nat} {tm : Nat → Nat} {oa b L ii : Nat} {xs : Nat → Int32} (hK : EV dC dI cI cL cJ s) (hZ : ST g1 g2 (fun q => s.heap.size ≤ q) s s.heap) (hX : XE (fun q => s.heap.size ≤ q) s s.heap) (hXs : va_X b L xs s s.heap) (hbl : b < s.heap.size) (hL : L ≤ 2048) (hii : ii + 4 ≤ L) {n len : Nat} {tx : Nat → Int32} {sv : Nat → LO} {x : PS} {f : Nat → Int64} {A : RW} {i : Nat → Int32} {h : Int64} {H : Heap} {locs : List Loc} (hI : LI dC dI cI cL cJ (fun q => s.heap.size ≤ q) s.heap o sa ba a e0 t om tm oa n len tx sv x f A i h H locs)
    (kk : ∀ (n len : Nat) (tx : Nat → Int32) (sv : Nat → LO) (x : PS) (f : Nat → Int64) (A : RW) (i : Nat → Int32) (h : Int64) (H : Heap) (locs : List Loc), LI dC dI cI cL cJ (fun q => s.heap.size ≤ q) s.heap o sa ba a e0 t om tm oa n len tx sv x f A i h H locs → G P_ l E_ room_1 s M_ args B_ T_ K_ H locs (92 + (ii + 4)) (8073 + 6 * (ii + 4)) Q [some (.ref b), some (.ref o), some (.ref om), some (.ref oa), some (.int (nI ii)), none, none, none, none] 1617 []) :
    G P_ l E_ room_1 s M_ args B_ T_ K_ H locs (92 + ii) (8073 + 6 * ii) Q [some (.ref b), some (.ref o), some (.ref om), some (.ref oa), some (.int (nI ii)), none, none, none, none] 276 [] := by
  obtain ⟨hR, hP, hD, hS⟩ := hI
  obtain ⟨hn, hl, hi0, hi1, hki, hyr, htx, hsv⟩ := hR
  have hR : RLs n len tx sv A i := ⟨hn, hl, hi0, hi1, hki, hyr, htx, hsv⟩
  refine g_aload1 C dL_law_276 ?_
  refine g_aload0 C dL_law_277 ?_
  refine g_iload4 C dL_law_278 ?_
  refine g_iconst C (nI 1) (by decide) dL_law_280 ?_
  refine g_iaddN C dL_law_281 ?_
  refine g_sld C hXs hbl (Nat.not_le.mpr hbl) hS (by omega) hL dL_law_282 ?_
  refine g_aload0 C dL_law_283 ?_
  refine g_iload4 C dL_law_284 ?_
  refine g_iconst C (nI 2) (by decide) dL_law_286 ?_
  refine g_iaddN C dL_law_287 ?_
  refine g_sld C hXs hbl (Nat.not_le.mpr hbl) hS (by omega) hL dL_law_288 ?_
  refine g_d1 (v := bI (¬ xs (ii + 2) = 0)) 297 (fun K289 => ?_) ?_
  · skip
    refine g_if_eq C 296 dL_law_289 (by decide) (fun h289 => ?_) (fun h289 => ?_)
    · refine g_iconst C (nI 0) (by decide) dL_law_296 ?_
      exact K289 _ (bI_f (fun z => z h289))
    · refine g_iconst C (nI 1) (by decide) dL_law_292 ?_
      refine g_goto C 297 dL_law_293 (by decide) ?_
      exact K289 _ (bI_t h289)
  refine g_aload3 C dL_law_297 ?_
  refine g_mSW (As := [.ref o, .int (xs (ii + 1)), .int (bI (¬ xs (ii + 2) = 0)), .ref oa]) C 4 rfl (c_L_setParish (cd := k_par (xs (ii + 1))) (cls := (fun _ => XIO)) (W := BW cI cL o sa ba a e0 t n len (svg sv) tx (A 0 550) (q_nz (A 0)) (q_rw (q_nz (A 0)) 0) x sv) (PW := fun W1 => ∃ x9 : PS, W1 = BW cI cL o sa ba a e0 t (min (n + 1) 6) len (svg (sv_save sv n (A 0 550) (q_nz (A 0)) (q_rw (q_nz (A 0)) 0))) tx (A 0 550) (q_up (q_nz (A 0)) 0 (q_n (xs (ii + 1))) (nI (if ¬ xs (ii + 2) = 0 then 1 else 0))) (q_rw (q_up (q_nz (A 0)) 0 (q_n (xs (ii + 1))) (nI (if ¬ xs (ii + 2) = 0 then 1 else 0))) 0) x9 (sv_save sv n (A 0 550) (q_nz (A 0)) (q_rw (q_nz (A 0)) 0))) (PV := fun W1 => ∃ x9 : PS, W1 = BW cI cL o sa ba a e0 t n len (svg sv) tx (A 0 550) (q_nz (A 0)) (q_rw (q_nz (A 0)) 0) x9 sv) (fun H h9 => ⟨_, ⟨x, rfl⟩, h9.1, h9.2⟩) (fun H h9 => ⟨_, ⟨x, rfl⟩, h9.1, h9.2⟩) k2 rfl ⟨_, rfl⟩ BDM_bl (fun U h1 h2 h3 h4 h5 => ⟨h1, h2, h3, h4, h5⟩) (c_X2_setParish hls hn)) wl_L_100 wt_L_setParish wn_L wW_L_setParish (by decide +kernel) ⟨rfl, rfl, by decide, by decide⟩ LHM_bl (LHM_at hK (P_r hP) (D_r hD).1 hZ hX hS (D_r hD).2) rfl rfl (by simp [Value.category]) ⟨by show _ ≤ 601024; omega, by show _ ≤ 7293034; omega⟩ hS (D_r hD).2 dL_law_298 (fun H locs hP1 _ hk1 hS => ?_)
  obtain ⟨f1, W1, hok, hno, hP1, hD1⟩ := hP1
  obtain ⟨hP, hD⟩ := PD_put hP hD hP1 hD1 hk1
  refine g_istore5 C rfl dL_law_301 ?_
  refine g_aload2 C dL_law_303 ?_
  refine g_aload0 C dL_law_304 ?_
  refine g_iload4 C dL_law_305 ?_
  refine g_iconst C (nI 1) (by decide) dL_law_307 ?_
  refine g_iaddN C dL_law_308 ?_
  refine g_sld C hXs hbl (Nat.not_le.mpr hbl) hS (by omega) hL dL_law_309 ?_
  refine g_aload0 C dL_law_310 ?_
  refine g_iload4 C dL_law_311 ?_
  refine g_iconst C (nI 2) (by decide) dL_law_313 ?_
  refine g_iaddN C dL_law_314 ?_
  refine g_sld C hXs hbl (Nat.not_le.mpr hbl) hS (by omega) hL dL_law_315 ?_
  refine g_d1 (v := bI (¬ xs (ii + 2) = 0)) 324 (fun K316 => ?_) ?_
  · skip
    refine g_if_eq C 323 dL_law_316 (by decide) (fun h316 => ?_) (fun h316 => ?_)
    · refine g_iconst C (nI 0) (by decide) dL_law_323 ?_
      exact K316 _ (bI_f (fun z => z h316))
    · refine g_iconst C (nI 1) (by decide) dL_law_319 ?_
      refine g_goto C 324 dL_law_320 (by decide) ?_
      exact K316 _ (bI_t h316)
  refine g_mV (As := [.int (xs (ii + 1)), .int (bI (¬ xs (ii + 2) = 0))]) C 2 rfl (c_X3_setParish hn hi0 hki) wl_L_103 wi_X3_setParish wv_X3_setParish wn_X3 wc_X3_setParish (by decide +kernel) ⟨rfl, rfl, by decide, by decide⟩ MDM_bl (va_recv (ci := 3) (q0 := 0) hK (P_l hP) rfl rfl) (MDM_at hK (P_l hP) (D_l hD).1) rfl rfl (by simp [Value.category]) ⟨by show _ ≤ 601024; omega, by show _ ≤ 7293034; omega⟩ hS (D_l hD).2 dL_law_324 (fun H locs hP1 _ hk1 hS => ?_)
  obtain ⟨A', i', h', hP9, r0, r1, r3, r2, r4, r5⟩ := hP1
  obtain ⟨hP, hD⟩ := PD_join hP hD hP9 (List.Perm.refl _) hk1
  refine g_istore6 C rfl dL_law_327 ?_
  refine g_aload2 C dL_law_329 ?_
  refine g_mcV0 C hK (P_l hP) (c_X3_thrown) wl_L_93 wi_X3_thrown wv_X3_thrown wc_X3_thrown (by decide +kernel) ⟨rfl, rfl, by decide, by decide⟩ rfl (by simp [Value.category]) ⟨by show _ ≤ 601024; omega, by show _ ≤ 7293034; omega⟩ dL_law_330 ?_
  rw [r5]
  refine g_iload5 C dL_law_333 ?_
  refine g_icmp_eq C 340 dL_law_335 (by decide) (fun h335 => ?_) (fun h335 => ?_)
  · refine g_iload5 C dL_law_340 ?_
    refine g_if_ne C 357 dL_law_342 (by decide) (fun h342 => ?_) (fun h342 => ?_)
    · have hz : ¬ k_par (xs (ii + 1)) = 0 := fun z => h342 (by rw [z]; rfl)
      refine g_goto C 1617 dL_law_357 (by decide) ?_
      obtain ⟨x2, rfl⟩ := hno hz
      rw [if_neg hz] at r0 r1 r3
      rw [← r0] at hP hD
      refine g_fg5 (g_fg6 ?_)
      refine g_wd (k := 92 + (ii + 4)) (n := 8073 + 6 * (ii + 4)) (by omega) (by omega) ?_
      exact kk _ _ _ _ _ _ _ _ _ _ _ ⟨RLs_cong hR r0 r1 r2 (r3.trans hi0.symm) r4, hP, hD, hS⟩
    · have hcd9 : k_par (xs (ii + 1)) = 0 ∨ k_par (xs (ii + 1)) = 1 := k2
      have hz : k_par (xs (ii + 1)) = 0 := nI_z9 (by omega) h342
      obtain ⟨hv9, hW9⟩ := hok hz
      refine g_aload3 C dL_law_345 ?_
      refine g_iconst C (nI 0) (by decide) dL_law_346 ?_
      refine g_lald C hK (P_r hP) dL_law_347 ?_
      rw [hv9]
      refine g_iload6 C dL_law_348 ?_
      rw [if_pos hz]
      refine g_i2l C _ rfl dL_law_350 ?_
      refine g_lcmp C dL_law_351 ?_
      rw [cmp_self]
      refine g_if_eq C 357 dL_law_352 (by decide) (fun h352 => ?_) (fun h352 => ?_)
      · refine g_goto C 1617 dL_law_357 (by decide) ?_
        obtain ⟨x2, rfl⟩ := hW9
        rw [if_pos hz] at r0 r1 r3
        obtain ⟨q1, q2, q3⟩ := op_par (w := (nI (if ¬ xs (ii + 2) = 0 then 1 else 0))) hki hz
        have w1 : q_nz (A' 0) = (q_up (q_nz (A 0)) 0 (q_n (xs (ii + 1))) (nI (if ¬ xs (ii + 2) = 0 then 1 else 0))) := by rw [r0]; exact q1
        have w2 : A' 0 550 = (A 0 550) := by rw [r0]; exact q2
        have hP : va_P (dC, dI) vwCl (MW cI om tm A' i' h' ++ (JR cJ oa f1 :: BW cI cL o sa ba a e0 t (min (n + 1) 6) len (svg (sv_save sv n (A 0 550) (q_nz (A 0)) (q_rw (q_nz (A 0)) 0))) tx (A' 0 550) (q_nz (A' 0)) (q_rw (q_nz (A' 0)) 0) x2 (sv_save sv n (A 0 550) (q_nz (A 0)) (q_rw (q_nz (A 0)) 0)))) H := by rw [w1, w2]; exact hP
        have hD : va_D (fun q => s.heap.size ≤ q) (MW cI om tm A' i' h' ++ (JR cJ oa f1 :: BW cI cL o sa ba a e0 t (min (n + 1) 6) len (svg (sv_save sv n (A 0 550) (q_nz (A 0)) (q_rw (q_nz (A 0)) 0))) tx (A' 0 550) (q_nz (A' 0)) (q_rw (q_nz (A' 0)) 0) x2 (sv_save sv n (A 0 550) (q_nz (A 0)) (q_rw (q_nz (A 0)) 0)))) := by rw [w1, w2]; exact hD
        refine g_fg5 (g_fg6 ?_)
        refine g_wd (k := 92 + (ii + 4)) (n := 8073 + 6 * (ii + 4)) (by omega) (by omega) ?_
        exact kk _ _ _ _ _ _ _ _ _ _ _ ⟨RLs_save hR r1 r3 (by rw [w1]; exact q3) (by rw [w2]; exact hyr) hl (r4.trans hi1) (TXR_cong htx r2), hP, hD, hS⟩
      · exact absurd rfl h352
  · exact absurd rfl h335

set_option maxHeartbeats 4000000 in
set_option maxRecDepth 100000 in
theorem lw_c3 {P_ : Program} {l : Launch} {E_ : Env} {s : State} {M_ : MethodId} {args : Array Value} {B_ : List Frame} {T_ : Method} {K_ : Code} {Q : State → Prop} {ret : Option FieldType} (C : CX P_ s M_ args T_ K_ cL_law RL 9 ret) (hls : l.stackTraces = false) {dC : Nat → ClassId} {dI : Nat → Nat → Nat} {cI cL cJ : ClassId} {g1 g2 : Nat} {o sa ba a e0 : Nat} {t : Nat → Nat} {om : Nat} {tm : Nat → Nat} {oa b L ii : Nat} {xs : Nat → Int32} (hK : EV dC dI cI cL cJ s) (hZ : ST g1 g2 (fun q => s.heap.size ≤ q) s s.heap) (hX : XE (fun q => s.heap.size ≤ q) s s.heap) (hXs : va_X b L xs s s.heap) (hbl : b < s.heap.size) (hL : L ≤ 2048) (hii : ii + 4 ≤ L) {n len : Nat} {tx : Nat → Int32} {sv : Nat → LO} {x : PS} {f : Nat → Int64} {A : RW} {i : Nat → Int32} {h : Int64} {H : Heap} {locs : List Loc} (hI : LI dC dI cI cL cJ (fun q => s.heap.size ≤ q) s.heap o sa ba a e0 t om tm oa n len tx sv x f A i h H locs)
    (kk : ∀ (n len : Nat) (tx : Nat → Int32) (sv : Nat → LO) (x : PS) (f : Nat → Int64) (A : RW) (i : Nat → Int32) (h : Int64) (H : Heap) (locs : List Loc), LI dC dI cI cL cJ (fun q => s.heap.size ≤ q) s.heap o sa ba a e0 t om tm oa n len tx sv x f A i h H locs → G P_ l E_ room_1 s M_ args B_ T_ K_ H locs (92 + (ii + 4)) (8073 + 6 * (ii + 4)) Q [some (.ref b), some (.ref o), some (.ref om), some (.ref oa), some (.int (nI ii)), none, none, none, none] 1617 []) :
    G P_ l E_ room_1 s M_ args B_ T_ K_ H locs (92 + ii) (8073 + 6 * ii) Q [some (.ref b), some (.ref o), some (.ref om), some (.ref oa), some (.int (nI ii)), none, none, none, none] 360 [] := by
  obtain ⟨hR, hP, hD, hS⟩ := hI
  obtain ⟨hn, hl, hi0, hi1, hki, hyr, htx, hsv⟩ := hR
  have hR : RLs n len tx sv A i := ⟨hn, hl, hi0, hi1, hki, hyr, htx, hsv⟩
  refine g_aload1 C dL_law_360 ?_
  refine g_aload0 C dL_law_361 ?_
  refine g_iload4 C dL_law_362 ?_
  refine g_iconst C (nI 1) (by decide) dL_law_364 ?_
  refine g_iaddN C dL_law_365 ?_
  refine g_sld C hXs hbl (Nat.not_le.mpr hbl) hS (by omega) hL dL_law_366 ?_
  refine g_aload0 C dL_law_367 ?_
  refine g_iload4 C dL_law_368 ?_
  refine g_iconst C (nI 2) (by decide) dL_law_370 ?_
  refine g_iaddN C dL_law_371 ?_
  refine g_sld C hXs hbl (Nat.not_le.mpr hbl) hS (by omega) hL dL_law_372 ?_
  refine g_aload0 C dL_law_373 ?_
  refine g_iload4 C dL_law_374 ?_
  refine g_iconst C (nI 3) (by decide) dL_law_376 ?_
  refine g_iaddN C dL_law_377 ?_
  refine g_sld C hXs hbl (Nat.not_le.mpr hbl) hS (by omega) hL dL_law_378 ?_
  refine g_aload3 C dL_law_379 ?_
  refine g_mSW (As := [.ref o, .int (xs (ii + 1)), .int (xs (ii + 2)), .int (xs (ii + 3)), .ref oa]) C 5 rfl (c_L_bury (cd := k_bury (q_nz (A 0)) (A 0 550) (xs (ii + 1)) (xs (ii + 2)) (xs (ii + 3))) (cls := cl3) (W := BW cI cL o sa ba a e0 t n len (svg sv) tx (A 0 550) (q_nz (A 0)) (q_rw (q_nz (A 0)) 0) x sv) (PW := fun W1 => ∃ x9 : PS, W1 = BW cI cL o sa ba a e0 t (min (n + 1) 6) len (svg (sv_save sv n (A 0 550) (q_nz (A 0)) (q_rw (q_nz (A 0)) 0))) tx (A 0 550) (q_addB (q_nz (A 0)) (A 0 550) (q_n (xs (ii + 1))) (q_n (xs (ii + 2))) (q_n (xs (ii + 3)))) (q_rw (q_addB (q_nz (A 0)) (A 0 550) (q_n (xs (ii + 1))) (q_n (xs (ii + 2))) (q_n (xs (ii + 3)))) 0) x9 (sv_save sv n (A 0 550) (q_nz (A 0)) (q_rw (q_nz (A 0)) 0))) (PV := fun W1 => ∃ x9 : PS, W1 = BW cI cL o sa ba a e0 t n len (svg sv) tx (A 0 550) (q_nz (A 0)) (q_rw (q_nz (A 0)) 0) x9 sv) (fun H h9 => ⟨_, ⟨x, rfl⟩, h9.1, h9.2⟩) (fun H h9 => ⟨_, ⟨x, rfl⟩, h9.1, h9.2⟩) k4 rfl rfl rfl ⟨_, rfl⟩ BDM_bl (fun U h1 h2 h3 h4 h5 => ⟨h1, h2, h3, h4, h5⟩) (c_X2_bury hls hn hki)) wl_L_104 wt_L_bury wn_L wW_L_bury (by decide +kernel) ⟨rfl, rfl, by decide, by decide⟩ LHM_bl (LHM_at hK (P_r hP) (D_r hD).1 hZ hX hS (D_r hD).2) rfl rfl (by simp [Value.category]) ⟨by show _ ≤ 601024; omega, by show _ ≤ 7293034; omega⟩ hS (D_r hD).2 dL_law_380 (fun H locs hP1 _ hk1 hS => ?_)
  obtain ⟨f1, W1, hok, hno, hP1, hD1⟩ := hP1
  obtain ⟨hP, hD⟩ := PD_put hP hD hP1 hD1 hk1
  refine g_istore5 C rfl dL_law_383 ?_
  refine g_aload2 C dL_law_385 ?_
  refine g_aload0 C dL_law_386 ?_
  refine g_iload4 C dL_law_387 ?_
  refine g_iconst C (nI 1) (by decide) dL_law_389 ?_
  refine g_iaddN C dL_law_390 ?_
  refine g_sld C hXs hbl (Nat.not_le.mpr hbl) hS (by omega) hL dL_law_391 ?_
  refine g_aload0 C dL_law_392 ?_
  refine g_iload4 C dL_law_393 ?_
  refine g_iconst C (nI 2) (by decide) dL_law_395 ?_
  refine g_iaddN C dL_law_396 ?_
  refine g_sld C hXs hbl (Nat.not_le.mpr hbl) hS (by omega) hL dL_law_397 ?_
  refine g_aload0 C dL_law_398 ?_
  refine g_iload4 C dL_law_399 ?_
  refine g_iconst C (nI 3) (by decide) dL_law_401 ?_
  refine g_iaddN C dL_law_402 ?_
  refine g_sld C hXs hbl (Nat.not_le.mpr hbl) hS (by omega) hL dL_law_403 ?_
  refine g_mV (As := [.int (xs (ii + 1)), .int (xs (ii + 2)), .int (xs (ii + 3))]) C 3 rfl (c_X3_bury hn hi0 hki) wl_L_107 wi_X3_bury wv_X3_bury wn_X3 wc_X3_bury (by decide +kernel) ⟨rfl, rfl, by decide, by decide⟩ MDM_bl (va_recv (ci := 3) (q0 := 0) hK (P_l hP) rfl rfl) (MDM_at hK (P_l hP) (D_l hD).1) rfl rfl (by simp [Value.category]) ⟨by show _ ≤ 601024; omega, by show _ ≤ 7293034; omega⟩ hS (D_l hD).2 dL_law_404 (fun H locs hP1 _ hk1 hS => ?_)
  obtain ⟨A', i', h', hP9, r0, r1, r3, r2, r4, r5⟩ := hP1
  obtain ⟨hP, hD⟩ := PD_join hP hD hP9 (List.Perm.refl _) hk1
  refine g_istore6 C rfl dL_law_407 ?_
  refine g_aload2 C dL_law_409 ?_
  refine g_mcV0 C hK (P_l hP) (c_X3_thrown) wl_L_93 wi_X3_thrown wv_X3_thrown wc_X3_thrown (by decide +kernel) ⟨rfl, rfl, by decide, by decide⟩ rfl (by simp [Value.category]) ⟨by show _ ≤ 601024; omega, by show _ ≤ 7293034; omega⟩ dL_law_410 ?_
  rw [r5]
  refine g_iload5 C dL_law_413 ?_
  refine g_icmp_eq C 420 dL_law_415 (by decide) (fun h415 => ?_) (fun h415 => ?_)
  · refine g_iload5 C dL_law_420 ?_
    refine g_if_ne C 437 dL_law_422 (by decide) (fun h422 => ?_) (fun h422 => ?_)
    · have hz : ¬ k_bury (q_nz (A 0)) (A 0 550) (xs (ii + 1)) (xs (ii + 2)) (xs (ii + 3)) = 0 := fun z => h422 (by rw [z]; rfl)
      refine g_goto C 1617 dL_law_437 (by decide) ?_
      obtain ⟨x2, rfl⟩ := hno hz
      rw [if_neg hz] at r0 r1 r3
      rw [← r0] at hP hD
      refine g_fg5 (g_fg6 ?_)
      refine g_wd (k := 92 + (ii + 4)) (n := 8073 + 6 * (ii + 4)) (by omega) (by omega) ?_
      exact kk _ _ _ _ _ _ _ _ _ _ _ ⟨RLs_cong hR r0 r1 r2 (r3.trans hi0.symm) r4, hP, hD, hS⟩
    · have hcd9 : k_bury (q_nz (A 0)) (A 0 550) (xs (ii + 1)) (xs (ii + 2)) (xs (ii + 3)) = 0 ∨ k_bury (q_nz (A 0)) (A 0 550) (xs (ii + 1)) (xs (ii + 2)) (xs (ii + 3)) = 1 ∨ k_bury (q_nz (A 0)) (A 0 550) (xs (ii + 1)) (xs (ii + 2)) (xs (ii + 3)) = 2 ∨ k_bury (q_nz (A 0)) (A 0 550) (xs (ii + 1)) (xs (ii + 2)) (xs (ii + 3)) = 3 := k4
      have hz : k_bury (q_nz (A 0)) (A 0 550) (xs (ii + 1)) (xs (ii + 2)) (xs (ii + 3)) = 0 := nI_z9 (by omega) h422
      obtain ⟨hv9, hW9⟩ := hok hz
      refine g_aload3 C dL_law_425 ?_
      refine g_iconst C (nI 0) (by decide) dL_law_426 ?_
      refine g_lald C hK (P_r hP) dL_law_427 ?_
      rw [hv9]
      refine g_iload6 C dL_law_428 ?_
      rw [if_pos hz]
      refine g_i2l C _ rfl dL_law_430 ?_
      refine g_lcmp C dL_law_431 ?_
      rw [cmp_self]
      refine g_if_eq C 437 dL_law_432 (by decide) (fun h432 => ?_) (fun h432 => ?_)
      · refine g_goto C 1617 dL_law_437 (by decide) ?_
        obtain ⟨x2, rfl⟩ := hW9
        rw [if_pos hz] at r0 r1 r3
        obtain ⟨q1, q2, q3⟩ := op_bury hki hyr hz
        have w1 : q_nz (A' 0) = (q_addB (q_nz (A 0)) (A 0 550) (q_n (xs (ii + 1))) (q_n (xs (ii + 2))) (q_n (xs (ii + 3)))) := by rw [r0]; exact q1
        have w2 : A' 0 550 = (A 0 550) := by rw [r0]; exact q2
        have hP : va_P (dC, dI) vwCl (MW cI om tm A' i' h' ++ (JR cJ oa f1 :: BW cI cL o sa ba a e0 t (min (n + 1) 6) len (svg (sv_save sv n (A 0 550) (q_nz (A 0)) (q_rw (q_nz (A 0)) 0))) tx (A' 0 550) (q_nz (A' 0)) (q_rw (q_nz (A' 0)) 0) x2 (sv_save sv n (A 0 550) (q_nz (A 0)) (q_rw (q_nz (A 0)) 0)))) H := by rw [w1, w2]; exact hP
        have hD : va_D (fun q => s.heap.size ≤ q) (MW cI om tm A' i' h' ++ (JR cJ oa f1 :: BW cI cL o sa ba a e0 t (min (n + 1) 6) len (svg (sv_save sv n (A 0 550) (q_nz (A 0)) (q_rw (q_nz (A 0)) 0))) tx (A' 0 550) (q_nz (A' 0)) (q_rw (q_nz (A' 0)) 0) x2 (sv_save sv n (A 0 550) (q_nz (A 0)) (q_rw (q_nz (A 0)) 0)))) := by rw [w1, w2]; exact hD
        refine g_fg5 (g_fg6 ?_)
        refine g_wd (k := 92 + (ii + 4)) (n := 8073 + 6 * (ii + 4)) (by omega) (by omega) ?_
        exact kk _ _ _ _ _ _ _ _ _ _ _ ⟨RLs_save hR r1 r3 (by rw [w1]; exact q3) (by rw [w2]; exact hyr) hl (r4.trans hi1) (TXR_cong htx r2), hP, hD, hS⟩
      · exact absurd rfl h432
  · exact absurd rfl h415

set_option maxHeartbeats 4000000 in
set_option maxRecDepth 100000 in
theorem lw_c4 {P_ : Program} {l : Launch} {E_ : Env} {s : State} {M_ : MethodId} {args : Array Value} {B_ : List Frame} {T_ : Method} {K_ : Code} {Q : State → Prop} {ret : Option FieldType} (C : CX P_ s M_ args T_ K_ cL_law RL 9 ret) (hls : l.stackTraces = false) {dC : Nat → ClassId} {dI : Nat → Nat → Nat} {cI cL cJ : ClassId} {g1 g2 : Nat} {o sa ba a e0 : Nat} {t : Nat → Nat} {om : Nat} {tm : Nat → Nat} {oa b L ii : Nat} {xs : Nat → Int32} (hK : EV dC dI cI cL cJ s) (hZ : ST g1 g2 (fun q => s.heap.size ≤ q) s s.heap) (hX : XE (fun q => s.heap.size ≤ q) s s.heap) (hXs : va_X b L xs s s.heap) (hbl : b < s.heap.size) (hL : L ≤ 2048) (hii : ii + 4 ≤ L) {n len : Nat} {tx : Nat → Int32} {sv : Nat → LO} {x : PS} {f : Nat → Int64} {A : RW} {i : Nat → Int32} {h : Int64} {H : Heap} {locs : List Loc} (hI : LI dC dI cI cL cJ (fun q => s.heap.size ≤ q) s.heap o sa ba a e0 t om tm oa n len tx sv x f A i h H locs)
    (kk : ∀ (n len : Nat) (tx : Nat → Int32) (sv : Nat → LO) (x : PS) (f : Nat → Int64) (A : RW) (i : Nat → Int32) (h : Int64) (H : Heap) (locs : List Loc), LI dC dI cI cL cJ (fun q => s.heap.size ≤ q) s.heap o sa ba a e0 t om tm oa n len tx sv x f A i h H locs → G P_ l E_ room_1 s M_ args B_ T_ K_ H locs (92 + (ii + 4)) (8073 + 6 * (ii + 4)) Q [some (.ref b), some (.ref o), some (.ref om), some (.ref oa), some (.int (nI ii)), none, none, none, none] 1617 []) :
    G P_ l E_ room_1 s M_ args B_ T_ K_ H locs (92 + ii) (8073 + 6 * ii) Q [some (.ref b), some (.ref o), some (.ref om), some (.ref oa), some (.int (nI ii)), none, none, none, none] 440 [] := by
  obtain ⟨hR, hP, hD, hS⟩ := hI
  obtain ⟨hn, hl, hi0, hi1, hki, hyr, htx, hsv⟩ := hR
  have hR : RLs n len tx sv A i := ⟨hn, hl, hi0, hi1, hki, hyr, htx, hsv⟩
  refine g_aload1 C dL_law_440 ?_
  refine g_aload0 C dL_law_441 ?_
  refine g_iload4 C dL_law_442 ?_
  refine g_iconst C (nI 1) (by decide) dL_law_444 ?_
  refine g_iaddN C dL_law_445 ?_
  refine g_sld C hXs hbl (Nat.not_le.mpr hbl) hS (by omega) hL dL_law_446 ?_
  refine g_aload0 C dL_law_447 ?_
  refine g_iload4 C dL_law_448 ?_
  refine g_iconst C (nI 2) (by decide) dL_law_450 ?_
  refine g_iaddN C dL_law_451 ?_
  refine g_sld C hXs hbl (Nat.not_le.mpr hbl) hS (by omega) hL dL_law_452 ?_
  refine g_aload0 C dL_law_453 ?_
  refine g_iload4 C dL_law_454 ?_
  refine g_iconst C (nI 3) (by decide) dL_law_456 ?_
  refine g_iaddN C dL_law_457 ?_
  refine g_sld C hXs hbl (Nat.not_le.mpr hbl) hS (by omega) hL dL_law_458 ?_
  refine g_aload3 C dL_law_459 ?_
  refine g_mSW (As := [.ref o, .int (xs (ii + 1)), .int (xs (ii + 2)), .int (xs (ii + 3)), .ref oa]) C 5 rfl (c_L_reserve (cd := k_res (q_nz (A 0)) (A 0 550) (xs (ii + 1)) (xs (ii + 2)) (xs (ii + 3))) (cls := cl3) (W := BW cI cL o sa ba a e0 t n len (svg sv) tx (A 0 550) (q_nz (A 0)) (q_rw (q_nz (A 0)) 0) x sv) (PW := fun W1 => ∃ x9 : PS, W1 = BW cI cL o sa ba a e0 t (min (n + 1) 6) len (svg (sv_save sv n (A 0 550) (q_nz (A 0)) (q_rw (q_nz (A 0)) 0))) tx (A 0 550) (q_addR (q_nz (A 0)) (A 0 550) (q_n (xs (ii + 1))) (q_n (xs (ii + 2))) (q_n (xs (ii + 3)))) (q_rw (q_addR (q_nz (A 0)) (A 0 550) (q_n (xs (ii + 1))) (q_n (xs (ii + 2))) (q_n (xs (ii + 3)))) 0) x9 (sv_save sv n (A 0 550) (q_nz (A 0)) (q_rw (q_nz (A 0)) 0))) (PV := fun W1 => ∃ x9 : PS, W1 = BW cI cL o sa ba a e0 t n len (svg sv) tx (A 0 550) (q_nz (A 0)) (q_rw (q_nz (A 0)) 0) x9 sv) (fun H h9 => ⟨_, ⟨x, rfl⟩, h9.1, h9.2⟩) (fun H h9 => ⟨_, ⟨x, rfl⟩, h9.1, h9.2⟩) k4 rfl rfl rfl ⟨_, rfl⟩ BDM_bl (fun U h1 h2 h3 h4 h5 => ⟨h1, h2, h3, h4, h5⟩) (c_X2_reserve hls hn hki)) wl_L_108 wt_L_reserve wn_L wW_L_reserve (by decide +kernel) ⟨rfl, rfl, by decide, by decide⟩ LHM_bl (LHM_at hK (P_r hP) (D_r hD).1 hZ hX hS (D_r hD).2) rfl rfl (by simp [Value.category]) ⟨by show _ ≤ 601024; omega, by show _ ≤ 7293034; omega⟩ hS (D_r hD).2 dL_law_460 (fun H locs hP1 _ hk1 hS => ?_)
  obtain ⟨f1, W1, hok, hno, hP1, hD1⟩ := hP1
  obtain ⟨hP, hD⟩ := PD_put hP hD hP1 hD1 hk1
  refine g_istore5 C rfl dL_law_463 ?_
  refine g_aload2 C dL_law_465 ?_
  refine g_aload0 C dL_law_466 ?_
  refine g_iload4 C dL_law_467 ?_
  refine g_iconst C (nI 1) (by decide) dL_law_469 ?_
  refine g_iaddN C dL_law_470 ?_
  refine g_sld C hXs hbl (Nat.not_le.mpr hbl) hS (by omega) hL dL_law_471 ?_
  refine g_aload0 C dL_law_472 ?_
  refine g_iload4 C dL_law_473 ?_
  refine g_iconst C (nI 2) (by decide) dL_law_475 ?_
  refine g_iaddN C dL_law_476 ?_
  refine g_sld C hXs hbl (Nat.not_le.mpr hbl) hS (by omega) hL dL_law_477 ?_
  refine g_aload0 C dL_law_478 ?_
  refine g_iload4 C dL_law_479 ?_
  refine g_iconst C (nI 3) (by decide) dL_law_481 ?_
  refine g_iaddN C dL_law_482 ?_
  refine g_sld C hXs hbl (Nat.not_le.mpr hbl) hS (by omega) hL dL_law_483 ?_
  refine g_mV (As := [.int (xs (ii + 1)), .int (xs (ii + 2)), .int (xs (ii + 3))]) C 3 rfl (c_X3_reserve hn hi0 hki) wl_L_110 wi_X3_reserve wv_X3_reserve wn_X3 wc_X3_reserve (by decide +kernel) ⟨rfl, rfl, by decide, by decide⟩ MDM_bl (va_recv (ci := 3) (q0 := 0) hK (P_l hP) rfl rfl) (MDM_at hK (P_l hP) (D_l hD).1) rfl rfl (by simp [Value.category]) ⟨by show _ ≤ 601024; omega, by show _ ≤ 7293034; omega⟩ hS (D_l hD).2 dL_law_484 (fun H locs hP1 _ hk1 hS => ?_)
  obtain ⟨A', i', h', hP9, r0, r1, r3, r2, r4, r5⟩ := hP1
  obtain ⟨hP, hD⟩ := PD_join hP hD hP9 (List.Perm.refl _) hk1
  refine g_istore6 C rfl dL_law_487 ?_
  refine g_aload2 C dL_law_489 ?_
  refine g_mcV0 C hK (P_l hP) (c_X3_thrown) wl_L_93 wi_X3_thrown wv_X3_thrown wc_X3_thrown (by decide +kernel) ⟨rfl, rfl, by decide, by decide⟩ rfl (by simp [Value.category]) ⟨by show _ ≤ 601024; omega, by show _ ≤ 7293034; omega⟩ dL_law_490 ?_
  rw [r5]
  refine g_iload5 C dL_law_493 ?_
  refine g_icmp_eq C 500 dL_law_495 (by decide) (fun h495 => ?_) (fun h495 => ?_)
  · refine g_iload5 C dL_law_500 ?_
    refine g_if_ne C 517 dL_law_502 (by decide) (fun h502 => ?_) (fun h502 => ?_)
    · have hz : ¬ k_res (q_nz (A 0)) (A 0 550) (xs (ii + 1)) (xs (ii + 2)) (xs (ii + 3)) = 0 := fun z => h502 (by rw [z]; rfl)
      refine g_goto C 1617 dL_law_517 (by decide) ?_
      obtain ⟨x2, rfl⟩ := hno hz
      rw [if_neg hz] at r0 r1 r3
      rw [← r0] at hP hD
      refine g_fg5 (g_fg6 ?_)
      refine g_wd (k := 92 + (ii + 4)) (n := 8073 + 6 * (ii + 4)) (by omega) (by omega) ?_
      exact kk _ _ _ _ _ _ _ _ _ _ _ ⟨RLs_cong hR r0 r1 r2 (r3.trans hi0.symm) r4, hP, hD, hS⟩
    · have hcd9 : k_res (q_nz (A 0)) (A 0 550) (xs (ii + 1)) (xs (ii + 2)) (xs (ii + 3)) = 0 ∨ k_res (q_nz (A 0)) (A 0 550) (xs (ii + 1)) (xs (ii + 2)) (xs (ii + 3)) = 1 ∨ k_res (q_nz (A 0)) (A 0 550) (xs (ii + 1)) (xs (ii + 2)) (xs (ii + 3)) = 2 ∨ k_res (q_nz (A 0)) (A 0 550) (xs (ii + 1)) (xs (ii + 2)) (xs (ii + 3)) = 3 := k4
      have hz : k_res (q_nz (A 0)) (A 0 550) (xs (ii + 1)) (xs (ii + 2)) (xs (ii + 3)) = 0 := nI_z9 (by omega) h502
      obtain ⟨hv9, hW9⟩ := hok hz
      refine g_aload3 C dL_law_505 ?_
      refine g_iconst C (nI 0) (by decide) dL_law_506 ?_
      refine g_lald C hK (P_r hP) dL_law_507 ?_
      rw [hv9]
      refine g_iload6 C dL_law_508 ?_
      rw [if_pos hz, (op_res hki hz).2.2.2]
      refine g_i2l C _ rfl dL_law_510 ?_
      refine g_lcmp C dL_law_511 ?_
      rw [cmp_self]
      refine g_if_eq C 517 dL_law_512 (by decide) (fun h512 => ?_) (fun h512 => ?_)
      · refine g_goto C 1617 dL_law_517 (by decide) ?_
        obtain ⟨x2, rfl⟩ := hW9
        rw [if_pos hz] at r0 r1 r3
        obtain ⟨q1, q2, q3, q4⟩ := op_res hki hz
        have w1 : q_nz (A' 0) = (q_addR (q_nz (A 0)) (A 0 550) (q_n (xs (ii + 1))) (q_n (xs (ii + 2))) (q_n (xs (ii + 3)))) := by rw [r0]; exact q1
        have w2 : A' 0 550 = (A 0 550) := by rw [r0]; exact q2
        have hP : va_P (dC, dI) vwCl (MW cI om tm A' i' h' ++ (JR cJ oa f1 :: BW cI cL o sa ba a e0 t (min (n + 1) 6) len (svg (sv_save sv n (A 0 550) (q_nz (A 0)) (q_rw (q_nz (A 0)) 0))) tx (A' 0 550) (q_nz (A' 0)) (q_rw (q_nz (A' 0)) 0) x2 (sv_save sv n (A 0 550) (q_nz (A 0)) (q_rw (q_nz (A 0)) 0)))) H := by rw [w1, w2]; exact hP
        have hD : va_D (fun q => s.heap.size ≤ q) (MW cI om tm A' i' h' ++ (JR cJ oa f1 :: BW cI cL o sa ba a e0 t (min (n + 1) 6) len (svg (sv_save sv n (A 0 550) (q_nz (A 0)) (q_rw (q_nz (A 0)) 0))) tx (A' 0 550) (q_nz (A' 0)) (q_rw (q_nz (A' 0)) 0) x2 (sv_save sv n (A 0 550) (q_nz (A 0)) (q_rw (q_nz (A 0)) 0)))) := by rw [w1, w2]; exact hD
        refine g_fg5 (g_fg6 ?_)
        refine g_wd (k := 92 + (ii + 4)) (n := 8073 + 6 * (ii + 4)) (by omega) (by omega) ?_
        exact kk _ _ _ _ _ _ _ _ _ _ _ ⟨RLs_save hR r1 r3 (by rw [w1]; exact q3) (by rw [w2]; exact hyr) hl (r4.trans hi1) (TXR_cong htx r2), hP, hD, hS⟩
      · exact absurd rfl h512
  · exact absurd rfl h495

set_option maxHeartbeats 4000000 in
set_option maxRecDepth 100000 in
theorem lw_c5 {P_ : Program} {l : Launch} {E_ : Env} {s : State} {M_ : MethodId} {args : Array Value} {B_ : List Frame} {T_ : Method} {K_ : Code} {Q : State → Prop} {ret : Option FieldType} (C : CX P_ s M_ args T_ K_ cL_law RL 9 ret) (hls : l.stackTraces = false) {dC : Nat → ClassId} {dI : Nat → Nat → Nat} {cI cL cJ : ClassId} {g1 g2 : Nat} {o sa ba a e0 : Nat} {t : Nat → Nat} {om : Nat} {tm : Nat → Nat} {oa b L ii : Nat} {xs : Nat → Int32} (hK : EV dC dI cI cL cJ s) (hZ : ST g1 g2 (fun q => s.heap.size ≤ q) s s.heap) (hX : XE (fun q => s.heap.size ≤ q) s s.heap) (hXs : va_X b L xs s s.heap) (hbl : b < s.heap.size) (hL : L ≤ 2048) (hii : ii + 4 ≤ L) {n len : Nat} {tx : Nat → Int32} {sv : Nat → LO} {x : PS} {f : Nat → Int64} {A : RW} {i : Nat → Int32} {h : Int64} {H : Heap} {locs : List Loc} (hI : LI dC dI cI cL cJ (fun q => s.heap.size ≤ q) s.heap o sa ba a e0 t om tm oa n len tx sv x f A i h H locs)
    (kk : ∀ (n len : Nat) (tx : Nat → Int32) (sv : Nat → LO) (x : PS) (f : Nat → Int64) (A : RW) (i : Nat → Int32) (h : Int64) (H : Heap) (locs : List Loc), LI dC dI cI cL cJ (fun q => s.heap.size ≤ q) s.heap o sa ba a e0 t om tm oa n len tx sv x f A i h H locs → G P_ l E_ room_1 s M_ args B_ T_ K_ H locs (92 + (ii + 4)) (8073 + 6 * (ii + 4)) Q [some (.ref b), some (.ref o), some (.ref om), some (.ref oa), some (.int (nI ii)), none, none, none, none] 1617 []) :
    G P_ l E_ room_1 s M_ args B_ T_ K_ H locs (92 + ii) (8073 + 6 * ii) Q [some (.ref b), some (.ref o), some (.ref om), some (.ref oa), some (.int (nI ii)), none, none, none, none] 520 [] := by
  obtain ⟨hR, hP, hD, hS⟩ := hI
  obtain ⟨hn, hl, hi0, hi1, hki, hyr, htx, hsv⟩ := hR
  have hR : RLs n len tx sv A i := ⟨hn, hl, hi0, hi1, hki, hyr, htx, hsv⟩
  refine g_aload1 C dL_law_520 ?_
  refine g_aload0 C dL_law_521 ?_
  refine g_iload4 C dL_law_522 ?_
  refine g_iconst C (nI 1) (by decide) dL_law_524 ?_
  refine g_iaddN C dL_law_525 ?_
  refine g_sld C hXs hbl (Nat.not_le.mpr hbl) hS (by omega) hL dL_law_526 ?_
  refine g_aload0 C dL_law_527 ?_
  refine g_iload4 C dL_law_528 ?_
  refine g_iconst C (nI 2) (by decide) dL_law_530 ?_
  refine g_iaddN C dL_law_531 ?_
  refine g_sld C hXs hbl (Nat.not_le.mpr hbl) hS (by omega) hL dL_law_532 ?_
  refine g_aload3 C dL_law_533 ?_
  refine g_mSW (As := [.ref o, .int (xs (ii + 1)), .int (xs (ii + 2)), .ref oa]) C 4 rfl (c_L_buildVault (cd := k_vau (q_nz (A 0)) (A 0 550) (xs (ii + 1)) (xs (ii + 2))) (cls := clS) (W := BW cI cL o sa ba a e0 t n len (svg sv) tx (A 0 550) (q_nz (A 0)) (q_rw (q_nz (A 0)) 0) x sv) (PW := fun W1 => ∃ x9 : PS, W1 = BW cI cL o sa ba a e0 t (min (n + 1) 6) len (svg (sv_save sv n (A 0 550) (q_nz (A 0)) (q_rw (q_nz (A 0)) 0))) tx (A 0 550) (q_addV (q_nz (A 0)) (q_n (xs (ii + 1))) (q_n (xs (ii + 2)))) (q_rw (q_addV (q_nz (A 0)) (q_n (xs (ii + 1))) (q_n (xs (ii + 2)))) 0) x9 (sv_save sv n (A 0 550) (q_nz (A 0)) (q_rw (q_nz (A 0)) 0))) (PV := fun W1 => ∃ x9 : PS, W1 = BW cI cL o sa ba a e0 t n len (svg sv) tx (A 0 550) (q_nz (A 0)) (q_rw (q_nz (A 0)) 0) x9 sv) (fun H h9 => ⟨_, ⟨x, rfl⟩, h9.1, h9.2⟩) (fun H h9 => ⟨_, ⟨x, rfl⟩, h9.1, h9.2⟩) k3 rfl rfl ⟨_, rfl⟩ BDM_bl (fun U h1 h2 h3 h4 h5 => ⟨h1, h2, h3, h4, h5⟩) (c_X2_buildVault hls hn hki)) wl_L_111 wt_L_buildVault wn_L wW_L_buildVault (by decide +kernel) ⟨rfl, rfl, by decide, by decide⟩ LHM_bl (LHM_at hK (P_r hP) (D_r hD).1 hZ hX hS (D_r hD).2) rfl rfl (by simp [Value.category]) ⟨by show _ ≤ 601024; omega, by show _ ≤ 7293034; omega⟩ hS (D_r hD).2 dL_law_534 (fun H locs hP1 _ hk1 hS => ?_)
  obtain ⟨f1, W1, hok, hno, hP1, hD1⟩ := hP1
  obtain ⟨hP, hD⟩ := PD_put hP hD hP1 hD1 hk1
  refine g_istore5 C rfl dL_law_537 ?_
  refine g_aload2 C dL_law_539 ?_
  refine g_aload0 C dL_law_540 ?_
  refine g_iload4 C dL_law_541 ?_
  refine g_iconst C (nI 1) (by decide) dL_law_543 ?_
  refine g_iaddN C dL_law_544 ?_
  refine g_sld C hXs hbl (Nat.not_le.mpr hbl) hS (by omega) hL dL_law_545 ?_
  refine g_aload0 C dL_law_546 ?_
  refine g_iload4 C dL_law_547 ?_
  refine g_iconst C (nI 2) (by decide) dL_law_549 ?_
  refine g_iaddN C dL_law_550 ?_
  refine g_sld C hXs hbl (Nat.not_le.mpr hbl) hS (by omega) hL dL_law_551 ?_
  refine g_mV (As := [.int (xs (ii + 1)), .int (xs (ii + 2))]) C 2 rfl (c_X3_buildVault hn hi0 hki) wl_L_113 wi_X3_buildVault wv_X3_buildVault wn_X3 wc_X3_buildVault (by decide +kernel) ⟨rfl, rfl, by decide, by decide⟩ MDM_bl (va_recv (ci := 3) (q0 := 0) hK (P_l hP) rfl rfl) (MDM_at hK (P_l hP) (D_l hD).1) rfl rfl (by simp [Value.category]) ⟨by show _ ≤ 601024; omega, by show _ ≤ 7293034; omega⟩ hS (D_l hD).2 dL_law_552 (fun H locs hP1 _ hk1 hS => ?_)
  obtain ⟨A', i', h', hP9, r0, r1, r3, r2, r4, r5⟩ := hP1
  obtain ⟨hP, hD⟩ := PD_join hP hD hP9 (List.Perm.refl _) hk1
  refine g_istore6 C rfl dL_law_555 ?_
  refine g_aload2 C dL_law_557 ?_
  refine g_mcV0 C hK (P_l hP) (c_X3_thrown) wl_L_93 wi_X3_thrown wv_X3_thrown wc_X3_thrown (by decide +kernel) ⟨rfl, rfl, by decide, by decide⟩ rfl (by simp [Value.category]) ⟨by show _ ≤ 601024; omega, by show _ ≤ 7293034; omega⟩ dL_law_558 ?_
  rw [r5]
  refine g_iload5 C dL_law_561 ?_
  refine g_icmp_eq C 568 dL_law_563 (by decide) (fun h563 => ?_) (fun h563 => ?_)
  · refine g_iload5 C dL_law_568 ?_
    refine g_if_ne C 585 dL_law_570 (by decide) (fun h570 => ?_) (fun h570 => ?_)
    · have hz : ¬ k_vau (q_nz (A 0)) (A 0 550) (xs (ii + 1)) (xs (ii + 2)) = 0 := fun z => h570 (by rw [z]; rfl)
      refine g_goto C 1617 dL_law_585 (by decide) ?_
      obtain ⟨x2, rfl⟩ := hno hz
      rw [if_neg hz] at r0 r1 r3
      rw [← r0] at hP hD
      refine g_fg5 (g_fg6 ?_)
      refine g_wd (k := 92 + (ii + 4)) (n := 8073 + 6 * (ii + 4)) (by omega) (by omega) ?_
      exact kk _ _ _ _ _ _ _ _ _ _ _ ⟨RLs_cong hR r0 r1 r2 (r3.trans hi0.symm) r4, hP, hD, hS⟩
    · have hcd9 : k_vau (q_nz (A 0)) (A 0 550) (xs (ii + 1)) (xs (ii + 2)) = 0 ∨ k_vau (q_nz (A 0)) (A 0 550) (xs (ii + 1)) (xs (ii + 2)) = 1 ∨ k_vau (q_nz (A 0)) (A 0 550) (xs (ii + 1)) (xs (ii + 2)) = 2 := k3
      have hz : k_vau (q_nz (A 0)) (A 0 550) (xs (ii + 1)) (xs (ii + 2)) = 0 := nI_z9 (by omega) h570
      obtain ⟨hv9, hW9⟩ := hok hz
      refine g_aload3 C dL_law_573 ?_
      refine g_iconst C (nI 0) (by decide) dL_law_574 ?_
      refine g_lald C hK (P_r hP) dL_law_575 ?_
      rw [hv9]
      refine g_iload6 C dL_law_576 ?_
      rw [if_pos hz, (op_vau hki hz).2.2.2]
      refine g_i2l C _ rfl dL_law_578 ?_
      refine g_lcmp C dL_law_579 ?_
      rw [cmp_self]
      refine g_if_eq C 585 dL_law_580 (by decide) (fun h580 => ?_) (fun h580 => ?_)
      · refine g_goto C 1617 dL_law_585 (by decide) ?_
        obtain ⟨x2, rfl⟩ := hW9
        rw [if_pos hz] at r0 r1 r3
        obtain ⟨q1, q2, q3, q4⟩ := op_vau hki hz
        have w1 : q_nz (A' 0) = (q_addV (q_nz (A 0)) (q_n (xs (ii + 1))) (q_n (xs (ii + 2)))) := by rw [r0]; exact q1
        have w2 : A' 0 550 = (A 0 550) := by rw [r0]; exact q2
        have hP : va_P (dC, dI) vwCl (MW cI om tm A' i' h' ++ (JR cJ oa f1 :: BW cI cL o sa ba a e0 t (min (n + 1) 6) len (svg (sv_save sv n (A 0 550) (q_nz (A 0)) (q_rw (q_nz (A 0)) 0))) tx (A' 0 550) (q_nz (A' 0)) (q_rw (q_nz (A' 0)) 0) x2 (sv_save sv n (A 0 550) (q_nz (A 0)) (q_rw (q_nz (A 0)) 0)))) H := by rw [w1, w2]; exact hP
        have hD : va_D (fun q => s.heap.size ≤ q) (MW cI om tm A' i' h' ++ (JR cJ oa f1 :: BW cI cL o sa ba a e0 t (min (n + 1) 6) len (svg (sv_save sv n (A 0 550) (q_nz (A 0)) (q_rw (q_nz (A 0)) 0))) tx (A' 0 550) (q_nz (A' 0)) (q_rw (q_nz (A' 0)) 0) x2 (sv_save sv n (A 0 550) (q_nz (A 0)) (q_rw (q_nz (A 0)) 0)))) := by rw [w1, w2]; exact hD
        refine g_fg5 (g_fg6 ?_)
        refine g_wd (k := 92 + (ii + 4)) (n := 8073 + 6 * (ii + 4)) (by omega) (by omega) ?_
        exact kk _ _ _ _ _ _ _ _ _ _ _ ⟨RLs_save hR r1 r3 (by rw [w1]; exact q3) (by rw [w2]; exact hyr) hl (r4.trans hi1) (TXR_cong htx r2), hP, hD, hS⟩
      · exact absurd rfl h580
  · exact absurd rfl h563

set_option maxHeartbeats 4000000 in
set_option maxRecDepth 100000 in
theorem lw_c6 {P_ : Program} {l : Launch} {E_ : Env} {s : State} {M_ : MethodId} {args : Array Value} {B_ : List Frame} {T_ : Method} {K_ : Code} {Q : State → Prop} {ret : Option FieldType} (C : CX P_ s M_ args T_ K_ cL_law RL 9 ret) (hls : l.stackTraces = false) {dC : Nat → ClassId} {dI : Nat → Nat → Nat} {cI cL cJ : ClassId} {g1 g2 : Nat} {o sa ba a e0 : Nat} {t : Nat → Nat} {om : Nat} {tm : Nat → Nat} {oa b L ii : Nat} {xs : Nat → Int32} (hK : EV dC dI cI cL cJ s) (hZ : ST g1 g2 (fun q => s.heap.size ≤ q) s s.heap) (hX : XE (fun q => s.heap.size ≤ q) s s.heap) (hXs : va_X b L xs s s.heap) (hbl : b < s.heap.size) (hL : L ≤ 2048) (hii : ii + 4 ≤ L) {n len : Nat} {tx : Nat → Int32} {sv : Nat → LO} {x : PS} {f : Nat → Int64} {A : RW} {i : Nat → Int32} {h : Int64} {H : Heap} {locs : List Loc} (hI : LI dC dI cI cL cJ (fun q => s.heap.size ≤ q) s.heap o sa ba a e0 t om tm oa n len tx sv x f A i h H locs)
    (kk : ∀ (n len : Nat) (tx : Nat → Int32) (sv : Nat → LO) (x : PS) (f : Nat → Int64) (A : RW) (i : Nat → Int32) (h : Int64) (H : Heap) (locs : List Loc), LI dC dI cI cL cJ (fun q => s.heap.size ≤ q) s.heap o sa ba a e0 t om tm oa n len tx sv x f A i h H locs → G P_ l E_ room_1 s M_ args B_ T_ K_ H locs (92 + (ii + 4)) (8073 + 6 * (ii + 4)) Q [some (.ref b), some (.ref o), some (.ref om), some (.ref oa), some (.int (nI ii)), none, none, none, none] 1617 []) :
    G P_ l E_ room_1 s M_ args B_ T_ K_ H locs (92 + ii) (8073 + 6 * ii) Q [some (.ref b), some (.ref o), some (.ref om), some (.ref oa), some (.int (nI ii)), none, none, none, none] 588 [] := by
  obtain ⟨hR, hP, hD, hS⟩ := hI
  obtain ⟨hn, hl, hi0, hi1, hki, hyr, htx, hsv⟩ := hR
  have hR : RLs n len tx sv A i := ⟨hn, hl, hi0, hi1, hki, hyr, htx, hsv⟩
  refine g_aload1 C dL_law_588 ?_
  refine g_aload0 C dL_law_589 ?_
  refine g_iload4 C dL_law_590 ?_
  refine g_iconst C (nI 1) (by decide) dL_law_592 ?_
  refine g_iaddN C dL_law_593 ?_
  refine g_sld C hXs hbl (Nat.not_le.mpr hbl) hS (by omega) hL dL_law_594 ?_
  refine g_aload3 C dL_law_595 ?_
  refine g_mSW (As := [.ref o, .int (xs (ii + 1)), .ref oa]) C 3 rfl (c_L_clear (cd := k_clr (q_nz (A 0)) (A 0 550) (xs (ii + 1))) (cls := clS) (W := BW cI cL o sa ba a e0 t n len (svg sv) tx (A 0 550) (q_nz (A 0)) (q_rw (q_nz (A 0)) 0) x sv) (PW := fun W1 => ∃ x9 : PS, W1 = BW cI cL o sa ba a e0 t (min (n + 1) 6) len (svg (sv_save sv n (A 0 550) (q_nz (A 0)) (q_rw (q_nz (A 0)) 0))) tx (A 0 550) (q_rm (q_nz (A 0)) (q_n (xs (ii + 1))) 3) (q_rw (q_rm (q_nz (A 0)) (q_n (xs (ii + 1))) 3) 0) x9 (sv_save sv n (A 0 550) (q_nz (A 0)) (q_rw (q_nz (A 0)) 0))) (PV := fun W1 => ∃ x9 : PS, W1 = BW cI cL o sa ba a e0 t n len (svg sv) tx (A 0 550) (q_nz (A 0)) (q_rw (q_nz (A 0)) 0) x9 sv) (fun H h9 => ⟨_, ⟨x, rfl⟩, h9.1, h9.2⟩) (fun H h9 => ⟨_, ⟨x, rfl⟩, h9.1, h9.2⟩) k3 rfl rfl ⟨_, rfl⟩ BDM_bl (fun U h1 h2 h3 h4 h5 => ⟨h1, h2, h3, h4, h5⟩) (c_X2_clear hls hn hki)) wl_L_114 wt_L_clear wn_L wW_L_clear (by decide +kernel) ⟨rfl, rfl, by decide, by decide⟩ LHM_bl (LHM_at hK (P_r hP) (D_r hD).1 hZ hX hS (D_r hD).2) rfl rfl (by simp [Value.category]) ⟨by show _ ≤ 601024; omega, by show _ ≤ 7293034; omega⟩ hS (D_r hD).2 dL_law_596 (fun H locs hP1 _ hk1 hS => ?_)
  obtain ⟨f1, W1, hok, hno, hP1, hD1⟩ := hP1
  obtain ⟨hP, hD⟩ := PD_put hP hD hP1 hD1 hk1
  refine g_istore5 C rfl dL_law_599 ?_
  refine g_aload2 C dL_law_601 ?_
  refine g_aload0 C dL_law_602 ?_
  refine g_iload4 C dL_law_603 ?_
  refine g_iconst C (nI 1) (by decide) dL_law_605 ?_
  refine g_iaddN C dL_law_606 ?_
  refine g_sld C hXs hbl (Nat.not_le.mpr hbl) hS (by omega) hL dL_law_607 ?_
  refine g_mV (As := [.int (xs (ii + 1))]) C 1 rfl (c_X3_clear hn hi0 hki) wl_L_116 wi_X3_clear wv_X3_clear wn_X3 wc_X3_clear (by decide +kernel) ⟨rfl, rfl, by decide, by decide⟩ MDM_bl (va_recv (ci := 3) (q0 := 0) hK (P_l hP) rfl rfl) (MDM_at hK (P_l hP) (D_l hD).1) rfl rfl (by simp [Value.category]) ⟨by show _ ≤ 601024; omega, by show _ ≤ 7293034; omega⟩ hS (D_l hD).2 dL_law_608 (fun H locs hP1 _ hk1 hS => ?_)
  obtain ⟨A', i', h', hP9, r0, r1, r3, r2, r4, r5⟩ := hP1
  obtain ⟨hP, hD⟩ := PD_join hP hD hP9 (List.Perm.refl _) hk1
  refine g_istore6 C rfl dL_law_611 ?_
  refine g_aload2 C dL_law_613 ?_
  refine g_mcV0 C hK (P_l hP) (c_X3_thrown) wl_L_93 wi_X3_thrown wv_X3_thrown wc_X3_thrown (by decide +kernel) ⟨rfl, rfl, by decide, by decide⟩ rfl (by simp [Value.category]) ⟨by show _ ≤ 601024; omega, by show _ ≤ 7293034; omega⟩ dL_law_614 ?_
  rw [r5]
  refine g_iload5 C dL_law_617 ?_
  refine g_icmp_eq C 624 dL_law_619 (by decide) (fun h619 => ?_) (fun h619 => ?_)
  · refine g_iload5 C dL_law_624 ?_
    refine g_if_ne C 641 dL_law_626 (by decide) (fun h626 => ?_) (fun h626 => ?_)
    · have hz : ¬ k_clr (q_nz (A 0)) (A 0 550) (xs (ii + 1)) = 0 := fun z => h626 (by rw [z]; rfl)
      refine g_goto C 1617 dL_law_641 (by decide) ?_
      obtain ⟨x2, rfl⟩ := hno hz
      rw [if_neg hz] at r0 r1 r3
      rw [← r0] at hP hD
      refine g_fg5 (g_fg6 ?_)
      refine g_wd (k := 92 + (ii + 4)) (n := 8073 + 6 * (ii + 4)) (by omega) (by omega) ?_
      exact kk _ _ _ _ _ _ _ _ _ _ _ ⟨RLs_cong hR r0 r1 r2 (r3.trans hi0.symm) r4, hP, hD, hS⟩
    · have hcd9 : k_clr (q_nz (A 0)) (A 0 550) (xs (ii + 1)) = 0 ∨ k_clr (q_nz (A 0)) (A 0 550) (xs (ii + 1)) = 1 ∨ k_clr (q_nz (A 0)) (A 0 550) (xs (ii + 1)) = 2 := k3
      have hz : k_clr (q_nz (A 0)) (A 0 550) (xs (ii + 1)) = 0 := nI_z9 (by omega) h626
      obtain ⟨hv9, hW9⟩ := hok hz
      refine g_aload3 C dL_law_629 ?_
      refine g_iconst C (nI 0) (by decide) dL_law_630 ?_
      refine g_lald C hK (P_r hP) dL_law_631 ?_
      rw [hv9]
      refine g_iload6 C dL_law_632 ?_
      rw [if_pos hz]
      refine g_i2l C _ rfl dL_law_634 ?_
      refine g_lcmp C dL_law_635 ?_
      rw [cmp_self]
      refine g_if_eq C 641 dL_law_636 (by decide) (fun h636 => ?_) (fun h636 => ?_)
      · refine g_goto C 1617 dL_law_641 (by decide) ?_
        obtain ⟨x2, rfl⟩ := hW9
        rw [if_pos hz] at r0 r1 r3
        obtain ⟨q1, q2, q3⟩ := op_clr hki hz
        have w1 : q_nz (A' 0) = (q_rm (q_nz (A 0)) (q_n (xs (ii + 1))) 3) := by rw [r0]; exact q1
        have w2 : A' 0 550 = (A 0 550) := by rw [r0]; exact q2
        have hP : va_P (dC, dI) vwCl (MW cI om tm A' i' h' ++ (JR cJ oa f1 :: BW cI cL o sa ba a e0 t (min (n + 1) 6) len (svg (sv_save sv n (A 0 550) (q_nz (A 0)) (q_rw (q_nz (A 0)) 0))) tx (A' 0 550) (q_nz (A' 0)) (q_rw (q_nz (A' 0)) 0) x2 (sv_save sv n (A 0 550) (q_nz (A 0)) (q_rw (q_nz (A 0)) 0)))) H := by rw [w1, w2]; exact hP
        have hD : va_D (fun q => s.heap.size ≤ q) (MW cI om tm A' i' h' ++ (JR cJ oa f1 :: BW cI cL o sa ba a e0 t (min (n + 1) 6) len (svg (sv_save sv n (A 0 550) (q_nz (A 0)) (q_rw (q_nz (A 0)) 0))) tx (A' 0 550) (q_nz (A' 0)) (q_rw (q_nz (A' 0)) 0) x2 (sv_save sv n (A 0 550) (q_nz (A 0)) (q_rw (q_nz (A 0)) 0)))) := by rw [w1, w2]; exact hD
        refine g_fg5 (g_fg6 ?_)
        refine g_wd (k := 92 + (ii + 4)) (n := 8073 + 6 * (ii + 4)) (by omega) (by omega) ?_
        exact kk _ _ _ _ _ _ _ _ _ _ _ ⟨RLs_save hR r1 r3 (by rw [w1]; exact q3) (by rw [w2]; exact hyr) hl (r4.trans hi1) (TXR_cong htx r2), hP, hD, hS⟩
      · exact absurd rfl h636
  · exact absurd rfl h619

set_option maxHeartbeats 4000000 in
set_option maxRecDepth 100000 in
theorem lw_c7 {P_ : Program} {l : Launch} {E_ : Env} {s : State} {M_ : MethodId} {args : Array Value} {B_ : List Frame} {T_ : Method} {K_ : Code} {Q : State → Prop} {ret : Option FieldType} (C : CX P_ s M_ args T_ K_ cL_law RL 9 ret) (hls : l.stackTraces = false) {dC : Nat → ClassId} {dI : Nat → Nat → Nat} {cI cL cJ : ClassId} {g1 g2 : Nat} {o sa ba a e0 : Nat} {t : Nat → Nat} {om : Nat} {tm : Nat → Nat} {oa b L ii : Nat} {xs : Nat → Int32} (hK : EV dC dI cI cL cJ s) (hZ : ST g1 g2 (fun q => s.heap.size ≤ q) s s.heap) (hX : XE (fun q => s.heap.size ≤ q) s s.heap) (hXs : va_X b L xs s s.heap) (hbl : b < s.heap.size) (hL : L ≤ 2048) (hii : ii + 4 ≤ L) {n len : Nat} {tx : Nat → Int32} {sv : Nat → LO} {x : PS} {f : Nat → Int64} {A : RW} {i : Nat → Int32} {h : Int64} {H : Heap} {locs : List Loc} (hI : LI dC dI cI cL cJ (fun q => s.heap.size ≤ q) s.heap o sa ba a e0 t om tm oa n len tx sv x f A i h H locs)
    (kk : ∀ (n len : Nat) (tx : Nat → Int32) (sv : Nat → LO) (x : PS) (f : Nat → Int64) (A : RW) (i : Nat → Int32) (h : Int64) (H : Heap) (locs : List Loc), LI dC dI cI cL cJ (fun q => s.heap.size ≤ q) s.heap o sa ba a e0 t om tm oa n len tx sv x f A i h H locs → G P_ l E_ room_1 s M_ args B_ T_ K_ H locs (92 + (ii + 4)) (8073 + 6 * (ii + 4)) Q [some (.ref b), some (.ref o), some (.ref om), some (.ref oa), some (.int (nI ii)), none, none, none, none] 1617 []) :
    G P_ l E_ room_1 s M_ args B_ T_ K_ H locs (92 + ii) (8073 + 6 * ii) Q [some (.ref b), some (.ref o), some (.ref om), some (.ref oa), some (.int (nI ii)), none, none, none, none] 644 [] := by
  obtain ⟨hR, hP, hD, hS⟩ := hI
  obtain ⟨hn, hl, hi0, hi1, hki, hyr, htx, hsv⟩ := hR
  have hR : RLs n len tx sv A i := ⟨hn, hl, hi0, hi1, hki, hyr, htx, hsv⟩
  refine g_aload1 C dL_law_644 ?_
  refine g_aload0 C dL_law_645 ?_
  refine g_iload4 C dL_law_646 ?_
  refine g_iconst C (nI 1) (by decide) dL_law_648 ?_
  refine g_iaddN C dL_law_649 ?_
  refine g_sld C hXs hbl (Nat.not_le.mpr hbl) hS (by omega) hL dL_law_650 ?_
  refine g_aload3 C dL_law_651 ?_
  refine g_mSW (As := [.ref o, .int (xs (ii + 1)), .ref oa]) C 3 rfl (c_L_append (cd := k_app len (xs (ii + 1))) (cls := clA) (W := BW cI cL o sa ba a e0 t n len (svg sv) tx (A 0 550) (q_nz (A 0)) (q_rw (q_nz (A 0)) 0) x sv) (PW := fun W1 => ∃ x9 : PS, W1 = BW cI cL o sa ba a e0 t n (len + 1) (svg sv) (upd tx len (xs (ii + 1))) (A 0 550) (q_nz (A 0)) (q_rw (q_nz (A 0)) 0) x9 sv) (PV := fun W1 => ∃ x9 : PS, W1 = BW cI cL o sa ba a e0 t n len (svg sv) tx (A 0 550) (q_nz (A 0)) (q_rw (q_nz (A 0)) 0) x9 sv) (fun H h9 => ⟨_, ⟨x, rfl⟩, h9.1, h9.2⟩) (fun H h9 => ⟨_, ⟨x, rfl⟩, h9.1, h9.2⟩) k3 rfl rfl ⟨_, rfl⟩ BDM_bl (fun U h1 h2 h3 h4 h5 => ⟨h1, h2, h3, h4, h5⟩) (c_X2_append hls hn hl)) wl_L_117 wt_L_append wn_L wW_L_append (by decide +kernel) ⟨rfl, rfl, by decide, by decide⟩ LHM_bl (LHM_at hK (P_r hP) (D_r hD).1 hZ hX hS (D_r hD).2) rfl rfl (by simp [Value.category]) ⟨by show _ ≤ 601024; omega, by show _ ≤ 7293034; omega⟩ hS (D_r hD).2 dL_law_652 (fun H locs hP1 _ hk1 hS => ?_)
  obtain ⟨f1, W1, hok, hno, hP1, hD1⟩ := hP1
  obtain ⟨hP, hD⟩ := PD_put hP hD hP1 hD1 hk1
  refine g_istore5 C rfl dL_law_655 ?_
  refine g_aload2 C dL_law_657 ?_
  refine g_aload0 C dL_law_658 ?_
  refine g_iload4 C dL_law_659 ?_
  refine g_iconst C (nI 1) (by decide) dL_law_661 ?_
  refine g_iaddN C dL_law_662 ?_
  refine g_sld C hXs hbl (Nat.not_le.mpr hbl) hS (by omega) hL dL_law_663 ?_
  refine g_mV (As := [.int (xs (ii + 1))]) C 1 rfl (c_X3_append hl hi1) wl_L_119 wi_X3_append wv_X3_append wn_X3 wc_X3_append (by decide +kernel) ⟨rfl, rfl, by decide, by decide⟩ MDM_bl (va_recv (ci := 3) (q0 := 0) hK (P_l hP) rfl rfl) (MDM_at hK (P_l hP) (D_l hD).1) rfl rfl (by simp [Value.category]) ⟨by show _ ≤ 601024; omega, by show _ ≤ 7293034; omega⟩ hS (D_l hD).2 dL_law_664 (fun H locs hP1 _ hk1 hS => ?_)
  obtain ⟨A', i', hP9, r0, r1, r2, r3, r4, r5⟩ := hP1
  obtain ⟨hP, hD⟩ := PD_join hP hD hP9 (List.Perm.refl _) hk1
  refine g_istore6 C rfl dL_law_667 ?_
  refine g_aload2 C dL_law_669 ?_
  refine g_mcV0 C hK (P_l hP) (c_X3_thrown) wl_L_93 wi_X3_thrown wv_X3_thrown wc_X3_thrown (by decide +kernel) ⟨rfl, rfl, by decide, by decide⟩ rfl (by simp [Value.category]) ⟨by show _ ≤ 601024; omega, by show _ ≤ 7293034; omega⟩ dL_law_670 ?_
  rw [r5]
  refine g_iload5 C dL_law_673 ?_
  refine g_icmp_eq C 680 dL_law_675 (by decide) (fun h675 => ?_) (fun h675 => ?_)
  · refine g_iload5 C dL_law_680 ?_
    refine g_if_ne C 697 dL_law_682 (by decide) (fun h682 => ?_) (fun h682 => ?_)
    · have hz : ¬ k_app len (xs (ii + 1)) = 0 := fun z => h682 (by rw [z]; rfl)
      refine g_goto C 1617 dL_law_697 (by decide) ?_
      obtain ⟨x2, rfl⟩ := hno hz
      rw [if_neg hz] at r2 r4
      rw [← r0] at hP hD
      refine g_fg5 (g_fg6 ?_)
      refine g_wd (k := 92 + (ii + 4)) (n := 8073 + 6 * (ii + 4)) (by omega) (by omega) ?_
      exact kk _ _ _ _ _ _ _ _ _ _ _ ⟨RLs_cong hR r0 r1 r2 r3 (r4.trans hi1.symm), hP, hD, hS⟩
    · have hcd9 : k_app len (xs (ii + 1)) = 0 ∨ k_app len (xs (ii + 1)) = 1 ∨ k_app len (xs (ii + 1)) = 2 := k3
      have hz : k_app len (xs (ii + 1)) = 0 := nI_z9 (by omega) h682
      obtain ⟨hv9, hW9⟩ := hok hz
      refine g_aload3 C dL_law_685 ?_
      refine g_iconst C (nI 0) (by decide) dL_law_686 ?_
      refine g_lald C hK (P_r hP) dL_law_687 ?_
      rw [hv9]
      refine g_iload6 C dL_law_688 ?_
      rw [if_pos hz]
      refine g_i2l C _ rfl dL_law_690 ?_
      refine g_lcmp C dL_law_691 ?_
      rw [cmp_self]
      refine g_if_eq C 697 dL_law_692 (by decide) (fun h692 => ?_) (fun h692 => ?_)
      · refine g_goto C 1617 dL_law_697 (by decide) ?_
        obtain ⟨x2, rfl⟩ := hW9
        rw [if_pos hz] at r2 r4
        obtain ⟨q1, q2⟩ := k30 hz
        rw [← r0] at hP hD
        refine g_fg5 (g_fg6 ?_)
        refine g_wd (k := 92 + (ii + 4)) (n := 8073 + 6 * (ii + 4)) (by omega) (by omega) ?_
        exact kk _ _ _ _ _ _ _ _ _ _ _ ⟨⟨hn, by omega, r3.trans hi0, r4, by rw [r0]; exact hki, by rw [r0]; exact hyr, by rw [r2]; exact TXR_app htx (Decidable.not_not.mp q1), by rw [r1]; exact hsv⟩, hP, hD, hS⟩
      · exact absurd rfl h692
  · exact absurd rfl h675

set_option maxHeartbeats 4000000 in
set_option maxRecDepth 100000 in
theorem lw_c11 {P_ : Program} {l : Launch} {E_ : Env} {s : State} {M_ : MethodId} {args : Array Value} {B_ : List Frame} {T_ : Method} {K_ : Code} {Q : State → Prop} {ret : Option FieldType} (C : CX P_ s M_ args T_ K_ cL_law RL 9 ret) (hls : l.stackTraces = false) {dC : Nat → ClassId} {dI : Nat → Nat → Nat} {cI cL cJ : ClassId} {g1 g2 : Nat} {o sa ba a e0 : Nat} {t : Nat → Nat} {om : Nat} {tm : Nat → Nat} {oa b L ii : Nat} {xs : Nat → Int32} (hK : EV dC dI cI cL cJ s) (hZ : ST g1 g2 (fun q => s.heap.size ≤ q) s s.heap) (hX : XE (fun q => s.heap.size ≤ q) s s.heap) (hXs : va_X b L xs s s.heap) (hbl : b < s.heap.size) (hL : L ≤ 2048) (hii : ii + 4 ≤ L) {n len : Nat} {tx : Nat → Int32} {sv : Nat → LO} {x : PS} {f : Nat → Int64} {A : RW} {i : Nat → Int32} {h : Int64} {H : Heap} {locs : List Loc} (hI : LI dC dI cI cL cJ (fun q => s.heap.size ≤ q) s.heap o sa ba a e0 t om tm oa n len tx sv x f A i h H locs)
    (kk : ∀ (n len : Nat) (tx : Nat → Int32) (sv : Nat → LO) (x : PS) (f : Nat → Int64) (A : RW) (i : Nat → Int32) (h : Int64) (H : Heap) (locs : List Loc), LI dC dI cI cL cJ (fun q => s.heap.size ≤ q) s.heap o sa ba a e0 t om tm oa n len tx sv x f A i h H locs → G P_ l E_ room_1 s M_ args B_ T_ K_ H locs (92 + (ii + 4)) (8073 + 6 * (ii + 4)) Q [some (.ref b), some (.ref o), some (.ref om), some (.ref oa), some (.int (nI ii)), none, none, none, none] 1617 []) :
    G P_ l E_ room_1 s M_ args B_ T_ K_ H locs (92 + ii) (8073 + 6 * ii) Q [some (.ref b), some (.ref o), some (.ref om), some (.ref oa), some (.int (nI ii)), none, none, none, none] 770 [] := by
  obtain ⟨hR, hP, hD, hS⟩ := hI
  obtain ⟨hn, hl, hi0, hi1, hki, hyr, htx, hsv⟩ := hR
  have hR : RLs n len tx sv A i := ⟨hn, hl, hi0, hi1, hki, hyr, htx, hsv⟩
  refine g_aload1 C dL_law_770 ?_
  refine g_aload3 C dL_law_771 ?_
  refine g_mSW (As := [.ref o, .ref oa]) C 2 rfl (c_L_undo (cd := k_un n) (cls := (fun _ => XIS)) (W := BW cI cL o sa ba a e0 t n len (svg sv) tx (A 0 550) (q_nz (A 0)) (q_rw (q_nz (A 0)) 0) x sv) (PW := fun W1 => ∃ x9 : PS, W1 = BW cI cL o sa ba a e0 t (n - 1) len (svg sv) tx (sv (n - 1)).2.2.1 (sv (n - 1)).2.2.2.1 (sv (n - 1)).2.2.2.2 x9 sv) (PV := fun W1 => ∃ x9 : PS, W1 = BW cI cL o sa ba a e0 t n len (svg sv) tx (A 0 550) (q_nz (A 0)) (q_rw (q_nz (A 0)) 0) x9 sv) (fun H h9 => ⟨_, ⟨x, rfl⟩, h9.1, h9.2⟩) (fun H h9 => ⟨_, ⟨x, rfl⟩, h9.1, h9.2⟩) k2 rfl ⟨_, rfl⟩ BDM_bl (fun U h1 h2 h3 h4 h5 => ⟨h1, h2, h3, h4, h5⟩) (c_X2_undo hls hn)) wl_L_132 wt_L_undo wn_L wW_L_undo (by decide +kernel) ⟨rfl, rfl, by decide, by decide⟩ LHM_bl (LHM_at hK (P_r hP) (D_r hD).1 hZ hX hS (D_r hD).2) rfl rfl (by simp [Value.category]) ⟨by show _ ≤ 601024; omega, by show _ ≤ 7293034; omega⟩ hS (D_r hD).2 dL_law_772 (fun H locs hP1 _ hk1 hS => ?_)
  obtain ⟨f1, W1, hok, hno, hP1, hD1⟩ := hP1
  obtain ⟨hP, hD⟩ := PD_put hP hD hP1 hD1 hk1
  refine g_istore5 C rfl dL_law_775 ?_
  refine g_aload2 C dL_law_777 ?_
  refine g_mV (As := []) C 0 rfl (c_X3_undo hn hi0) wl_L_134 wi_X3_undo wv_X3_undo wn_X3 wc_X3_undo (by decide +kernel) ⟨rfl, rfl, by decide, by decide⟩ MDM_bl (va_recv (ci := 3) (q0 := 0) hK (P_l hP) rfl rfl) (MDM_at hK (P_l hP) (D_l hD).1) rfl rfl (by simp [Value.category]) ⟨by show _ ≤ 601024; omega, by show _ ≤ 7293034; omega⟩ hS (D_l hD).2 dL_law_778 (fun H locs hP1 _ hk1 hS => ?_)
  obtain ⟨A', i', hP9, r0, r1, r2, r3, r4, r5⟩ := hP1
  obtain ⟨hP, hD⟩ := PD_join hP hD hP9 (List.Perm.refl _) hk1
  refine g_istore6 C rfl dL_law_781 ?_
  refine g_aload2 C dL_law_783 ?_
  refine g_mcV0 C hK (P_l hP) (c_X3_thrown) wl_L_93 wi_X3_thrown wv_X3_thrown wc_X3_thrown (by decide +kernel) ⟨rfl, rfl, by decide, by decide⟩ rfl (by simp [Value.category]) ⟨by show _ ≤ 601024; omega, by show _ ≤ 7293034; omega⟩ dL_law_784 ?_
  rw [r5]
  refine g_iload5 C dL_law_787 ?_
  refine g_icmp_eq C 794 dL_law_789 (by decide) (fun h789 => ?_) (fun h789 => ?_)
  · refine g_iload5 C dL_law_794 ?_
    refine g_if_ne C 811 dL_law_796 (by decide) (fun h796 => ?_) (fun h796 => ?_)
    · have hz : ¬ k_un n = 0 := fun z => h796 (by rw [z]; rfl)
      refine g_goto C 1617 dL_law_811 (by decide) ?_
      obtain ⟨x2, rfl⟩ := hno hz
      have hz0 : n = 0 := Decidable.byContradiction (fun z => hz (if_neg z))
      rw [if_pos hz0] at r0
      rw [← r0] at hP hD
      refine g_fg5 (g_fg6 ?_)
      refine g_wd (k := 92 + (ii + 4)) (n := 8073 + 6 * (ii + 4)) (by omega) (by omega) ?_
      exact kk _ _ _ _ _ _ _ _ _ _ _ ⟨RLs_cong hR r0 r1 r2 (r3.trans (by rw [hi0, hz0])) r4, hP, hD, hS⟩
    · have hcd9 : k_un n = 0 ∨ k_un n = 1 := k2
      have hz : k_un n = 0 := nI_z9 (by omega) h796
      obtain ⟨hv9, hW9⟩ := hok hz
      refine g_aload3 C dL_law_799 ?_
      refine g_iconst C (nI 0) (by decide) dL_law_800 ?_
      refine g_lald C hK (P_r hP) dL_law_801 ?_
      rw [hv9]
      refine g_iload6 C dL_law_802 ?_
      rw [if_neg (k20 hz)]
      refine g_i2l C _ rfl dL_law_804 ?_
      refine g_lcmp C dL_law_805 ?_
      rw [cmp_self]
      refine g_if_eq C 811 dL_law_806 (by decide) (fun h806 => ?_) (fun h806 => ?_)
      · refine g_goto C 1617 dL_law_811 (by decide) ?_
        obtain ⟨x2, rfl⟩ := hW9
        rw [if_neg (k20 hz)] at r0
        obtain ⟨q0, q1, q2, q3⟩ := RLs_undo hR (k20 hz) r0 r1 r2 r3 r4
        rw [q1, q2, q3] at hP hD
        refine g_fg5 (g_fg6 ?_)
        refine g_wd (k := 92 + (ii + 4)) (n := 8073 + 6 * (ii + 4)) (by omega) (by omega) ?_
        exact kk _ _ _ _ _ _ _ _ _ _ _ ⟨q0, hP, hD, hS⟩
      · exact absurd rfl h806
  · exact absurd rfl h789

set_option maxHeartbeats 4000000 in
set_option maxRecDepth 100000 in
theorem lw_c12 {P_ : Program} {l : Launch} {E_ : Env} {s : State} {M_ : MethodId} {args : Array Value} {B_ : List Frame} {T_ : Method} {K_ : Code} {Q : State → Prop} {ret : Option FieldType} (C : CX P_ s M_ args T_ K_ cL_law RL 9 ret) (hls : l.stackTraces = false) {dC : Nat → ClassId} {dI : Nat → Nat → Nat} {cI cL cJ : ClassId} {g1 g2 : Nat} {o sa ba a e0 : Nat} {t : Nat → Nat} {om : Nat} {tm : Nat → Nat} {oa b L ii : Nat} {xs : Nat → Int32} (hK : EV dC dI cI cL cJ s) (hZ : ST g1 g2 (fun q => s.heap.size ≤ q) s s.heap) (hX : XE (fun q => s.heap.size ≤ q) s s.heap) (hXs : va_X b L xs s s.heap) (hbl : b < s.heap.size) (hL : L ≤ 2048) (hii : ii + 4 ≤ L) {n len : Nat} {tx : Nat → Int32} {sv : Nat → LO} {x : PS} {f : Nat → Int64} {A : RW} {i : Nat → Int32} {h : Int64} {H : Heap} {locs : List Loc} (hI : LI dC dI cI cL cJ (fun q => s.heap.size ≤ q) s.heap o sa ba a e0 t om tm oa n len tx sv x f A i h H locs)
    (kk : ∀ (n len : Nat) (tx : Nat → Int32) (sv : Nat → LO) (x : PS) (f : Nat → Int64) (A : RW) (i : Nat → Int32) (h : Int64) (H : Heap) (locs : List Loc), LI dC dI cI cL cJ (fun q => s.heap.size ≤ q) s.heap o sa ba a e0 t om tm oa n len tx sv x f A i h H locs → G P_ l E_ room_1 s M_ args B_ T_ K_ H locs (92 + (ii + 4)) (8073 + 6 * (ii + 4)) Q [some (.ref b), some (.ref o), some (.ref om), some (.ref oa), some (.int (nI ii)), none, none, none, none] 1617 []) :
    G P_ l E_ room_1 s M_ args B_ T_ K_ H locs (92 + ii) (8073 + 6 * ii) Q [some (.ref b), some (.ref o), some (.ref om), some (.ref oa), some (.int (nI ii)), none, none, none, none] 814 [] := by
  obtain ⟨hR, hP, hD, hS⟩ := hI
  obtain ⟨hn, hl, hi0, hi1, hki, hyr, htx, hsv⟩ := hR
  have hR : RLs n len tx sv A i := ⟨hn, hl, hi0, hi1, hki, hyr, htx, hsv⟩
  refine g_aload1 C dL_law_814 ?_
  refine g_aload0 C dL_law_815 ?_
  refine g_iload4 C dL_law_816 ?_
  refine g_iconst C (nI 1) (by decide) dL_law_818 ?_
  refine g_iaddN C dL_law_819 ?_
  refine g_sld C hXs hbl (Nat.not_le.mpr hbl) hS (by omega) hL dL_law_820 ?_
  refine g_aload0 C dL_law_821 ?_
  refine g_iload4 C dL_law_822 ?_
  refine g_iconst C (nI 2) (by decide) dL_law_824 ?_
  refine g_iaddN C dL_law_825 ?_
  refine g_sld C hXs hbl (Nat.not_le.mpr hbl) hS (by omega) hL dL_law_826 ?_
  refine g_aload3 C dL_law_827 ?_
  refine g_mSW (As := [.ref o, .int (xs (ii + 1)), .int (xs (ii + 2)), .ref oa]) C 4 rfl (c_L_plot (cd := k_pw (xs (ii + 1)) (xs (ii + 2))) (cls := clI) (W := BW cI cL o sa ba a e0 t n len (svg sv) tx (A 0 550) (q_nz (A 0)) (q_rw (q_nz (A 0)) 0) x sv) k3 rfl rfl ⟨_, rfl⟩ BDM_bl (fun U h1 h2 h3 h4 h5 => ⟨h1, h2, h3, h4, h5⟩) (c_X2_plot hls hki)) wl_L_135 wt_L_plot wn_L wW_L_plot (by decide +kernel) ⟨rfl, rfl, by decide, by decide⟩ LHM_bl (LHM_at hK (P_r hP) (D_r hD).1 hZ hX hS (D_r hD).2) rfl rfl (by simp [Value.category]) ⟨by show _ ≤ 601024; omega, by show _ ≤ 7293034; omega⟩ hS (D_r hD).2 dL_law_828 (fun H locs hP1 _ hk1 hS => ?_)
  obtain ⟨f1, hok, hP1, hD1⟩ := hP1
  obtain ⟨hP, hD⟩ := PD_put hP hD hP1 hD1 hk1
  refine g_istore5 C rfl dL_law_831 ?_
  refine g_aload2 C dL_law_833 ?_
  refine g_aload0 C dL_law_834 ?_
  refine g_iload4 C dL_law_835 ?_
  refine g_iconst C (nI 1) (by decide) dL_law_837 ?_
  refine g_iaddN C dL_law_838 ?_
  refine g_sld C hXs hbl (Nat.not_le.mpr hbl) hS (by omega) hL dL_law_839 ?_
  refine g_aload0 C dL_law_840 ?_
  refine g_iload4 C dL_law_841 ?_
  refine g_iconst C (nI 2) (by decide) dL_law_843 ?_
  refine g_iaddN C dL_law_844 ?_
  refine g_sld C hXs hbl (Nat.not_le.mpr hbl) hS (by omega) hL dL_law_845 ?_
  refine g_mV (As := [.int (xs (ii + 1)), .int (xs (ii + 2))]) C 2 rfl (c_X3_plot hki) wl_L_137 wi_X3_plot wv_X3_plot wn_X3 wc_X3_plot (by decide +kernel) ⟨rfl, rfl, by decide, by decide⟩ MDM_bl (va_recv (ci := 3) (q0 := 0) hK (P_l hP) rfl rfl) (MDM_at hK (P_l hP) (D_l hD).1) rfl rfl (by simp [Value.category]) ⟨by show _ ≤ 601024; omega, by show _ ≤ 7293034; omega⟩ hS (D_l hD).2 dL_law_846 (fun H locs hP1 _ hk1 hS => ?_)
  obtain ⟨A', i', h', hP9, r0, r1, r2, r3, r4, r5⟩ := hP1
  obtain ⟨hP, hD⟩ := PD_join hP hD hP9 (List.Perm.refl _) hk1
  refine g_istore6 C rfl dL_law_849 ?_
  refine g_aload2 C dL_law_851 ?_
  refine g_mcV0 C hK (P_l hP) (c_X3_thrown) wl_L_93 wi_X3_thrown wv_X3_thrown wc_X3_thrown (by decide +kernel) ⟨rfl, rfl, by decide, by decide⟩ rfl (by simp [Value.category]) ⟨by show _ ≤ 601024; omega, by show _ ≤ 7293034; omega⟩ dL_law_852 ?_
  rw [r5]
  refine g_iload5 C dL_law_855 ?_
  refine g_icmp_eq C 862 dL_law_857 (by decide) (fun h857 => ?_) (fun h857 => ?_)
  · refine g_iload5 C dL_law_862 ?_
    refine g_if_ne C 879 dL_law_864 (by decide) (fun h864 => ?_) (fun h864 => ?_)
    · have hz : ¬ k_pw (xs (ii + 1)) (xs (ii + 2)) = 0 := fun z => h864 (by rw [z]; rfl)
      refine g_goto C 1617 dL_law_879 (by decide) ?_
      rw [← r0] at hP hD
      refine g_fg5 (g_fg6 ?_)
      refine g_wd (k := 92 + (ii + 4)) (n := 8073 + 6 * (ii + 4)) (by omega) (by omega) ?_
      exact kk _ _ _ _ _ _ _ _ _ _ _ ⟨RLs_cong hR r0 r1 r2 r3 r4, hP, hD, hS⟩
    · have hcd9 : k_pw (xs (ii + 1)) (xs (ii + 2)) = 0 ∨ k_pw (xs (ii + 1)) (xs (ii + 2)) = 1 ∨ k_pw (xs (ii + 1)) (xs (ii + 2)) = 2 := k3
      have hz : k_pw (xs (ii + 1)) (xs (ii + 2)) = 0 := nI_z9 (by omega) h864
      have hv9 := hok hz
      refine g_aload3 C dL_law_867 ?_
      refine g_iconst C (nI 0) (by decide) dL_law_868 ?_
      refine g_lald C hK (P_r hP) dL_law_869 ?_
      rw [hv9]
      refine g_iload6 C dL_law_870 ?_
      rw [if_pos hz]
      refine g_i2l C _ rfl dL_law_872 ?_
      refine g_lcmp C dL_law_873 ?_
      rw [cmp_self]
      refine g_if_eq C 879 dL_law_874 (by decide) (fun h874 => ?_) (fun h874 => ?_)
      · refine g_goto C 1617 dL_law_879 (by decide) ?_
        rw [← r0] at hP hD
        refine g_fg5 (g_fg6 ?_)
        refine g_wd (k := 92 + (ii + 4)) (n := 8073 + 6 * (ii + 4)) (by omega) (by omega) ?_
        exact kk _ _ _ _ _ _ _ _ _ _ _ ⟨RLs_cong hR r0 r1 r2 r3 r4, hP, hD, hS⟩
      · exact absurd rfl h874
  · exact absurd rfl h857

set_option maxHeartbeats 4000000 in
set_option maxRecDepth 100000 in
theorem lw_c13 {P_ : Program} {l : Launch} {E_ : Env} {s : State} {M_ : MethodId} {args : Array Value} {B_ : List Frame} {T_ : Method} {K_ : Code} {Q : State → Prop} {ret : Option FieldType} (C : CX P_ s M_ args T_ K_ cL_law RL 9 ret) (hls : l.stackTraces = false) {dC : Nat → ClassId} {dI : Nat → Nat → Nat} {cI cL cJ : ClassId} {g1 g2 : Nat} {o sa ba a e0 : Nat} {t : Nat → Nat} {om : Nat} {tm : Nat → Nat} {oa b L ii : Nat} {xs : Nat → Int32} (hK : EV dC dI cI cL cJ s) (hZ : ST g1 g2 (fun q => s.heap.size ≤ q) s s.heap) (hX : XE (fun q => s.heap.size ≤ q) s s.heap) (hXs : va_X b L xs s s.heap) (hbl : b < s.heap.size) (hL : L ≤ 2048) (hii : ii + 4 ≤ L) {n len : Nat} {tx : Nat → Int32} {sv : Nat → LO} {x : PS} {f : Nat → Int64} {A : RW} {i : Nat → Int32} {h : Int64} {H : Heap} {locs : List Loc} (hI : LI dC dI cI cL cJ (fun q => s.heap.size ≤ q) s.heap o sa ba a e0 t om tm oa n len tx sv x f A i h H locs)
    (kk : ∀ (n len : Nat) (tx : Nat → Int32) (sv : Nat → LO) (x : PS) (f : Nat → Int64) (A : RW) (i : Nat → Int32) (h : Int64) (H : Heap) (locs : List Loc), LI dC dI cI cL cJ (fun q => s.heap.size ≤ q) s.heap o sa ba a e0 t om tm oa n len tx sv x f A i h H locs → G P_ l E_ room_1 s M_ args B_ T_ K_ H locs (92 + (ii + 4)) (8073 + 6 * (ii + 4)) Q [some (.ref b), some (.ref o), some (.ref om), some (.ref oa), some (.int (nI ii)), none, none, none, none] 1617 []) :
    G P_ l E_ room_1 s M_ args B_ T_ K_ H locs (92 + ii) (8073 + 6 * ii) Q [some (.ref b), some (.ref o), some (.ref om), some (.ref oa), some (.int (nI ii)), none, none, none, none] 882 [] := by
  obtain ⟨hR, hP, hD, hS⟩ := hI
  obtain ⟨hn, hl, hi0, hi1, hki, hyr, htx, hsv⟩ := hR
  have hR : RLs n len tx sv A i := ⟨hn, hl, hi0, hi1, hki, hyr, htx, hsv⟩
  refine g_aload1 C dL_law_882 ?_
  refine g_aload0 C dL_law_883 ?_
  refine g_iload4 C dL_law_884 ?_
  refine g_iconst C (nI 1) (by decide) dL_law_886 ?_
  refine g_iaddN C dL_law_887 ?_
  refine g_sld C hXs hbl (Nat.not_le.mpr hbl) hS (by omega) hL dL_law_888 ?_
  refine g_aload0 C dL_law_889 ?_
  refine g_iload4 C dL_law_890 ?_
  refine g_iconst C (nI 2) (by decide) dL_law_892 ?_
  refine g_iaddN C dL_law_893 ?_
  refine g_sld C hXs hbl (Nat.not_le.mpr hbl) hS (by omega) hL dL_law_894 ?_
  refine g_aload0 C dL_law_895 ?_
  refine g_iload4 C dL_law_896 ?_
  refine g_iconst C (nI 3) (by decide) dL_law_898 ?_
  refine g_iaddN C dL_law_899 ?_
  refine g_sld C hXs hbl (Nat.not_le.mpr hbl) hS (by omega) hL dL_law_900 ?_
  refine g_aload3 C dL_law_901 ?_
  refine g_mSW (As := [.ref o, .int (xs (ii + 1)), .int (xs (ii + 2)), .int (xs (ii + 3)), .ref oa]) C 5 rfl (c_L_burial (cd := k_bl (xs (ii + 1)) (xs (ii + 2)) (xs (ii + 3))) (cls := clI) (W := BW cI cL o sa ba a e0 t n len (svg sv) tx (A 0 550) (q_nz (A 0)) (q_rw (q_nz (A 0)) 0) x sv) k3 rfl rfl ⟨_, rfl⟩ BDM_bl (fun U h1 h2 h3 h4 h5 => ⟨h1, h2, h3, h4, h5⟩) (c_X2_burial hls hki)) wl_L_138 wt_L_burial wn_L wW_L_burial (by decide +kernel) ⟨rfl, rfl, by decide, by decide⟩ LHM_bl (LHM_at hK (P_r hP) (D_r hD).1 hZ hX hS (D_r hD).2) rfl rfl (by simp [Value.category]) ⟨by show _ ≤ 601024; omega, by show _ ≤ 7293034; omega⟩ hS (D_r hD).2 dL_law_902 (fun H locs hP1 _ hk1 hS => ?_)
  obtain ⟨f1, hok, hP1, hD1⟩ := hP1
  obtain ⟨hP, hD⟩ := PD_put hP hD hP1 hD1 hk1
  refine g_istore5 C rfl dL_law_905 ?_
  refine g_aload2 C dL_law_907 ?_
  refine g_aload0 C dL_law_908 ?_
  refine g_iload4 C dL_law_909 ?_
  refine g_iconst C (nI 1) (by decide) dL_law_911 ?_
  refine g_iaddN C dL_law_912 ?_
  refine g_sld C hXs hbl (Nat.not_le.mpr hbl) hS (by omega) hL dL_law_913 ?_
  refine g_aload0 C dL_law_914 ?_
  refine g_iload4 C dL_law_915 ?_
  refine g_iconst C (nI 2) (by decide) dL_law_917 ?_
  refine g_iaddN C dL_law_918 ?_
  refine g_sld C hXs hbl (Nat.not_le.mpr hbl) hS (by omega) hL dL_law_919 ?_
  refine g_aload0 C dL_law_920 ?_
  refine g_iload4 C dL_law_921 ?_
  refine g_iconst C (nI 3) (by decide) dL_law_923 ?_
  refine g_iaddN C dL_law_924 ?_
  refine g_sld C hXs hbl (Nat.not_le.mpr hbl) hS (by omega) hL dL_law_925 ?_
  refine g_mV (As := [.int (xs (ii + 1)), .int (xs (ii + 2)), .int (xs (ii + 3))]) C 3 rfl (c_X3_burial hki) wl_L_140 wi_X3_burial wv_X3_burial wn_X3 wc_X3_burial (by decide +kernel) ⟨rfl, rfl, by decide, by decide⟩ MDM_bl (va_recv (ci := 3) (q0 := 0) hK (P_l hP) rfl rfl) (MDM_at hK (P_l hP) (D_l hD).1) rfl rfl (by simp [Value.category]) ⟨by show _ ≤ 601024; omega, by show _ ≤ 7293034; omega⟩ hS (D_l hD).2 dL_law_926 (fun H locs hP1 _ hk1 hS => ?_)
  obtain ⟨A', i', h', hP9, r0, r1, r2, r3, r4, r5⟩ := hP1
  obtain ⟨hP, hD⟩ := PD_join hP hD hP9 (List.Perm.refl _) hk1
  refine g_istore6 C rfl dL_law_929 ?_
  refine g_aload2 C dL_law_931 ?_
  refine g_mcV0 C hK (P_l hP) (c_X3_thrown) wl_L_93 wi_X3_thrown wv_X3_thrown wc_X3_thrown (by decide +kernel) ⟨rfl, rfl, by decide, by decide⟩ rfl (by simp [Value.category]) ⟨by show _ ≤ 601024; omega, by show _ ≤ 7293034; omega⟩ dL_law_932 ?_
  rw [r5]
  refine g_iload5 C dL_law_935 ?_
  refine g_icmp_eq C 942 dL_law_937 (by decide) (fun h937 => ?_) (fun h937 => ?_)
  · refine g_iload5 C dL_law_942 ?_
    refine g_if_ne C 959 dL_law_944 (by decide) (fun h944 => ?_) (fun h944 => ?_)
    · have hz : ¬ k_bl (xs (ii + 1)) (xs (ii + 2)) (xs (ii + 3)) = 0 := fun z => h944 (by rw [z]; rfl)
      refine g_goto C 1617 dL_law_959 (by decide) ?_
      rw [← r0] at hP hD
      refine g_fg5 (g_fg6 ?_)
      refine g_wd (k := 92 + (ii + 4)) (n := 8073 + 6 * (ii + 4)) (by omega) (by omega) ?_
      exact kk _ _ _ _ _ _ _ _ _ _ _ ⟨RLs_cong hR r0 r1 r2 r3 r4, hP, hD, hS⟩
    · have hcd9 : k_bl (xs (ii + 1)) (xs (ii + 2)) (xs (ii + 3)) = 0 ∨ k_bl (xs (ii + 1)) (xs (ii + 2)) (xs (ii + 3)) = 1 ∨ k_bl (xs (ii + 1)) (xs (ii + 2)) (xs (ii + 3)) = 2 := k3
      have hz : k_bl (xs (ii + 1)) (xs (ii + 2)) (xs (ii + 3)) = 0 := nI_z9 (by omega) h944
      have hv9 := hok hz
      refine g_aload3 C dL_law_947 ?_
      refine g_iconst C (nI 0) (by decide) dL_law_948 ?_
      refine g_lald C hK (P_r hP) dL_law_949 ?_
      rw [hv9]
      refine g_iload6 C dL_law_950 ?_
      rw [if_pos hz]
      refine g_i2l C _ rfl dL_law_952 ?_
      refine g_lcmp C dL_law_953 ?_
      rw [cmp_self]
      refine g_if_eq C 959 dL_law_954 (by decide) (fun h954 => ?_) (fun h954 => ?_)
      · refine g_goto C 1617 dL_law_959 (by decide) ?_
        rw [← r0] at hP hD
        refine g_fg5 (g_fg6 ?_)
        refine g_wd (k := 92 + (ii + 4)) (n := 8073 + 6 * (ii + 4)) (by omega) (by omega) ?_
        exact kk _ _ _ _ _ _ _ _ _ _ _ ⟨RLs_cong hR r0 r1 r2 r3 r4, hP, hD, hS⟩
      · exact absurd rfl h954
  · exact absurd rfl h937

set_option maxHeartbeats 4000000 in
set_option maxRecDepth 100000 in
theorem lw_c14 {P_ : Program} {l : Launch} {E_ : Env} {s : State} {M_ : MethodId} {args : Array Value} {B_ : List Frame} {T_ : Method} {K_ : Code} {Q : State → Prop} {ret : Option FieldType} (C : CX P_ s M_ args T_ K_ cL_law RL 9 ret) (hls : l.stackTraces = false) {dC : Nat → ClassId} {dI : Nat → Nat → Nat} {cI cL cJ : ClassId} {g1 g2 : Nat} {o sa ba a e0 : Nat} {t : Nat → Nat} {om : Nat} {tm : Nat → Nat} {oa b L ii : Nat} {xs : Nat → Int32} (hK : EV dC dI cI cL cJ s) (hZ : ST g1 g2 (fun q => s.heap.size ≤ q) s s.heap) (hX : XE (fun q => s.heap.size ≤ q) s s.heap) (hXs : va_X b L xs s s.heap) (hbl : b < s.heap.size) (hL : L ≤ 2048) (hii : ii + 4 ≤ L) {n len : Nat} {tx : Nat → Int32} {sv : Nat → LO} {x : PS} {f : Nat → Int64} {A : RW} {i : Nat → Int32} {h : Int64} {H : Heap} {locs : List Loc} (hI : LI dC dI cI cL cJ (fun q => s.heap.size ≤ q) s.heap o sa ba a e0 t om tm oa n len tx sv x f A i h H locs)
    (kk : ∀ (n len : Nat) (tx : Nat → Int32) (sv : Nat → LO) (x : PS) (f : Nat → Int64) (A : RW) (i : Nat → Int32) (h : Int64) (H : Heap) (locs : List Loc), LI dC dI cI cL cJ (fun q => s.heap.size ≤ q) s.heap o sa ba a e0 t om tm oa n len tx sv x f A i h H locs → G P_ l E_ room_1 s M_ args B_ T_ K_ H locs (92 + (ii + 4)) (8073 + 6 * (ii + 4)) Q [some (.ref b), some (.ref o), some (.ref om), some (.ref oa), some (.int (nI ii)), none, none, none, none] 1617 []) :
    G P_ l E_ room_1 s M_ args B_ T_ K_ H locs (92 + ii) (8073 + 6 * ii) Q [some (.ref b), some (.ref o), some (.ref om), some (.ref oa), some (.int (nI ii)), none, none, none, none] 962 [] := by
  obtain ⟨hR, hP, hD, hS⟩ := hI
  obtain ⟨hn, hl, hi0, hi1, hki, hyr, htx, hsv⟩ := hR
  have hR : RLs n len tx sv A i := ⟨hn, hl, hi0, hi1, hki, hyr, htx, hsv⟩
  refine g_aload1 C dL_law_962 ?_
  refine g_aload0 C dL_law_963 ?_
  refine g_iload4 C dL_law_964 ?_
  refine g_iconst C (nI 1) (by decide) dL_law_966 ?_
  refine g_iaddN C dL_law_967 ?_
  refine g_sld C hXs hbl (Nat.not_le.mpr hbl) hS (by omega) hL dL_law_968 ?_
  refine g_aload0 C dL_law_969 ?_
  refine g_iload4 C dL_law_970 ?_
  refine g_iconst C (nI 2) (by decide) dL_law_972 ?_
  refine g_iaddN C dL_law_973 ?_
  refine g_sld C hXs hbl (Nat.not_le.mpr hbl) hS (by omega) hL dL_law_974 ?_
  refine g_aload3 C dL_law_975 ?_
  refine g_mSW (As := [.ref o, .int (xs (ii + 1)), .int (xs (ii + 2)), .ref oa]) C 4 rfl (c_L_family (cd := k_fw (xs (ii + 1)) (xs (ii + 2))) (cls := clI) (W := BW cI cL o sa ba a e0 t n len (svg sv) tx (A 0 550) (q_nz (A 0)) (q_rw (q_nz (A 0)) 0) x sv) k3 rfl rfl ⟨_, rfl⟩ BDM_bl (fun U h1 h2 h3 h4 h5 => ⟨h1, h2, h3, h4, h5⟩) (c_X2_family hls hki)) wl_L_141 wt_L_family wn_L wW_L_family (by decide +kernel) ⟨rfl, rfl, by decide, by decide⟩ LHM_bl (LHM_at hK (P_r hP) (D_r hD).1 hZ hX hS (D_r hD).2) rfl rfl (by simp [Value.category]) ⟨by show _ ≤ 601024; omega, by show _ ≤ 7293034; omega⟩ hS (D_r hD).2 dL_law_976 (fun H locs hP1 _ hk1 hS => ?_)
  obtain ⟨f1, hok, hP1, hD1⟩ := hP1
  obtain ⟨hP, hD⟩ := PD_put hP hD hP1 hD1 hk1
  refine g_istore5 C rfl dL_law_979 ?_
  refine g_aload2 C dL_law_981 ?_
  refine g_aload0 C dL_law_982 ?_
  refine g_iload4 C dL_law_983 ?_
  refine g_iconst C (nI 1) (by decide) dL_law_985 ?_
  refine g_iaddN C dL_law_986 ?_
  refine g_sld C hXs hbl (Nat.not_le.mpr hbl) hS (by omega) hL dL_law_987 ?_
  refine g_aload0 C dL_law_988 ?_
  refine g_iload4 C dL_law_989 ?_
  refine g_iconst C (nI 2) (by decide) dL_law_991 ?_
  refine g_iaddN C dL_law_992 ?_
  refine g_sld C hXs hbl (Nat.not_le.mpr hbl) hS (by omega) hL dL_law_993 ?_
  refine g_mV (As := [.int (xs (ii + 1)), .int (xs (ii + 2))]) C 2 rfl (c_X3_family hki) wl_L_143 wi_X3_family wv_X3_family wn_X3 wc_X3_family (by decide +kernel) ⟨rfl, rfl, by decide, by decide⟩ MDM_bl (va_recv (ci := 3) (q0 := 0) hK (P_l hP) rfl rfl) (MDM_at hK (P_l hP) (D_l hD).1) rfl rfl (by simp [Value.category]) ⟨by show _ ≤ 601024; omega, by show _ ≤ 7293034; omega⟩ hS (D_l hD).2 dL_law_994 (fun H locs hP1 _ hk1 hS => ?_)
  obtain ⟨A', i', h', hP9, r0, r1, r2, r3, r4, r5⟩ := hP1
  obtain ⟨hP, hD⟩ := PD_join hP hD hP9 (List.Perm.refl _) hk1
  refine g_istore6 C rfl dL_law_997 ?_
  refine g_aload2 C dL_law_999 ?_
  refine g_mcV0 C hK (P_l hP) (c_X3_thrown) wl_L_93 wi_X3_thrown wv_X3_thrown wc_X3_thrown (by decide +kernel) ⟨rfl, rfl, by decide, by decide⟩ rfl (by simp [Value.category]) ⟨by show _ ≤ 601024; omega, by show _ ≤ 7293034; omega⟩ dL_law_1000 ?_
  rw [r5]
  refine g_iload5 C dL_law_1003 ?_
  refine g_icmp_eq C 1010 dL_law_1005 (by decide) (fun h1005 => ?_) (fun h1005 => ?_)
  · refine g_iload5 C dL_law_1010 ?_
    refine g_if_ne C 1027 dL_law_1012 (by decide) (fun h1012 => ?_) (fun h1012 => ?_)
    · have hz : ¬ k_fw (xs (ii + 1)) (xs (ii + 2)) = 0 := fun z => h1012 (by rw [z]; rfl)
      refine g_goto C 1617 dL_law_1027 (by decide) ?_
      rw [← r0] at hP hD
      refine g_fg5 (g_fg6 ?_)
      refine g_wd (k := 92 + (ii + 4)) (n := 8073 + 6 * (ii + 4)) (by omega) (by omega) ?_
      exact kk _ _ _ _ _ _ _ _ _ _ _ ⟨RLs_cong hR r0 r1 r2 r3 r4, hP, hD, hS⟩
    · have hcd9 : k_fw (xs (ii + 1)) (xs (ii + 2)) = 0 ∨ k_fw (xs (ii + 1)) (xs (ii + 2)) = 1 ∨ k_fw (xs (ii + 1)) (xs (ii + 2)) = 2 := k3
      have hz : k_fw (xs (ii + 1)) (xs (ii + 2)) = 0 := nI_z9 (by omega) h1012
      have hv9 := hok hz
      refine g_aload3 C dL_law_1015 ?_
      refine g_iconst C (nI 0) (by decide) dL_law_1016 ?_
      refine g_lald C hK (P_r hP) dL_law_1017 ?_
      rw [hv9]
      refine g_iload6 C dL_law_1018 ?_
      rw [if_pos hz]
      refine g_i2l C _ rfl dL_law_1020 ?_
      refine g_lcmp C dL_law_1021 ?_
      rw [cmp_self]
      refine g_if_eq C 1027 dL_law_1022 (by decide) (fun h1022 => ?_) (fun h1022 => ?_)
      · refine g_goto C 1617 dL_law_1027 (by decide) ?_
        rw [← r0] at hP hD
        refine g_fg5 (g_fg6 ?_)
        refine g_wd (k := 92 + (ii + 4)) (n := 8073 + 6 * (ii + 4)) (by omega) (by omega) ?_
        exact kk _ _ _ _ _ _ _ _ _ _ _ ⟨RLs_cong hR r0 r1 r2 r3 r4, hP, hD, hS⟩
      · exact absurd rfl h1022
  · exact absurd rfl h1005

set_option maxHeartbeats 4000000 in
set_option maxRecDepth 100000 in
theorem lw_c15 {P_ : Program} {l : Launch} {E_ : Env} {s : State} {M_ : MethodId} {args : Array Value} {B_ : List Frame} {T_ : Method} {K_ : Code} {Q : State → Prop} {ret : Option FieldType} (C : CX P_ s M_ args T_ K_ cL_law RL 9 ret) (hls : l.stackTraces = false) {dC : Nat → ClassId} {dI : Nat → Nat → Nat} {cI cL cJ : ClassId} {g1 g2 : Nat} {o sa ba a e0 : Nat} {t : Nat → Nat} {om : Nat} {tm : Nat → Nat} {oa b L ii : Nat} {xs : Nat → Int32} (hK : EV dC dI cI cL cJ s) (hZ : ST g1 g2 (fun q => s.heap.size ≤ q) s s.heap) (hX : XE (fun q => s.heap.size ≤ q) s s.heap) (hXs : va_X b L xs s s.heap) (hbl : b < s.heap.size) (hL : L ≤ 2048) (hii : ii + 4 ≤ L) {n len : Nat} {tx : Nat → Int32} {sv : Nat → LO} {x : PS} {f : Nat → Int64} {A : RW} {i : Nat → Int32} {h : Int64} {H : Heap} {locs : List Loc} (hI : LI dC dI cI cL cJ (fun q => s.heap.size ≤ q) s.heap o sa ba a e0 t om tm oa n len tx sv x f A i h H locs)
    (kk : ∀ (n len : Nat) (tx : Nat → Int32) (sv : Nat → LO) (x : PS) (f : Nat → Int64) (A : RW) (i : Nat → Int32) (h : Int64) (H : Heap) (locs : List Loc), LI dC dI cI cL cJ (fun q => s.heap.size ≤ q) s.heap o sa ba a e0 t om tm oa n len tx sv x f A i h H locs → G P_ l E_ room_1 s M_ args B_ T_ K_ H locs (92 + (ii + 4)) (8073 + 6 * (ii + 4)) Q [some (.ref b), some (.ref o), some (.ref om), some (.ref oa), some (.int (nI ii)), none, none, none, none] 1617 []) :
    G P_ l E_ room_1 s M_ args B_ T_ K_ H locs (92 + ii) (8073 + 6 * ii) Q [some (.ref b), some (.ref o), some (.ref om), some (.ref oa), some (.int (nI ii)), none, none, none, none] 1030 [] := by
  obtain ⟨hR, hP, hD, hS⟩ := hI
  obtain ⟨hn, hl, hi0, hi1, hki, hyr, htx, hsv⟩ := hR
  have hR : RLs n len tx sv A i := ⟨hn, hl, hi0, hi1, hki, hyr, htx, hsv⟩
  refine g_aload1 C dL_law_1030 ?_
  refine g_aload0 C dL_law_1031 ?_
  refine g_iload4 C dL_law_1032 ?_
  refine g_iconst C (nI 1) (by decide) dL_law_1034 ?_
  refine g_iaddN C dL_law_1035 ?_
  refine g_sld C hXs hbl (Nat.not_le.mpr hbl) hS (by omega) hL dL_law_1036 ?_
  refine g_aload3 C dL_law_1037 ?_
  refine g_mSW (As := [.ref o, .int (xs (ii + 1)), .ref oa]) C 3 rfl (c_L_count (cd := k_w (xs (ii + 1))) (cls := (fun _ => XIA)) (W := BW cI cL o sa ba a e0 t n len (svg sv) tx (A 0 550) (q_nz (A 0)) (q_rw (q_nz (A 0)) 0) x sv) k2 rfl ⟨_, rfl⟩ BDM_bl (fun U h1 h2 h3 h4 h5 => ⟨h1, h2, h3, h4, h5⟩) (c_X2_count hls hki)) wl_L_144 wt_L_count wn_L wW_L_count (by decide +kernel) ⟨rfl, rfl, by decide, by decide⟩ LHM_bl (LHM_at hK (P_r hP) (D_r hD).1 hZ hX hS (D_r hD).2) rfl rfl (by simp [Value.category]) ⟨by show _ ≤ 601024; omega, by show _ ≤ 7293034; omega⟩ hS (D_r hD).2 dL_law_1038 (fun H locs hP1 _ hk1 hS => ?_)
  obtain ⟨f1, hok, hP1, hD1⟩ := hP1
  obtain ⟨hP, hD⟩ := PD_put hP hD hP1 hD1 hk1
  refine g_istore5 C rfl dL_law_1041 ?_
  refine g_aload2 C dL_law_1043 ?_
  refine g_aload0 C dL_law_1044 ?_
  refine g_iload4 C dL_law_1045 ?_
  refine g_iconst C (nI 1) (by decide) dL_law_1047 ?_
  refine g_iaddN C dL_law_1048 ?_
  refine g_sld C hXs hbl (Nat.not_le.mpr hbl) hS (by omega) hL dL_law_1049 ?_
  refine g_mV (As := [.int (xs (ii + 1))]) C 1 rfl (c_X3_count hki) wl_L_146 wi_X3_count wv_X3_count wn_X3 wc_X3_count (by decide +kernel) ⟨rfl, rfl, by decide, by decide⟩ MDM_bl (va_recv (ci := 3) (q0 := 0) hK (P_l hP) rfl rfl) (MDM_at hK (P_l hP) (D_l hD).1) rfl rfl (by simp [Value.category]) ⟨by show _ ≤ 601024; omega, by show _ ≤ 7293034; omega⟩ hS (D_l hD).2 dL_law_1050 (fun H locs hP1 _ hk1 hS => ?_)
  obtain ⟨A', i', h', hP9, r0, r1, r2, r3, r4, r5⟩ := hP1
  obtain ⟨hP, hD⟩ := PD_join hP hD hP9 (List.Perm.refl _) hk1
  refine g_istore6 C rfl dL_law_1053 ?_
  refine g_aload2 C dL_law_1055 ?_
  refine g_mcV0 C hK (P_l hP) (c_X3_thrown) wl_L_93 wi_X3_thrown wv_X3_thrown wc_X3_thrown (by decide +kernel) ⟨rfl, rfl, by decide, by decide⟩ rfl (by simp [Value.category]) ⟨by show _ ≤ 601024; omega, by show _ ≤ 7293034; omega⟩ dL_law_1056 ?_
  rw [r5]
  refine g_iload5 C dL_law_1059 ?_
  refine g_icmp_eq C 1066 dL_law_1061 (by decide) (fun h1061 => ?_) (fun h1061 => ?_)
  · refine g_iload5 C dL_law_1066 ?_
    refine g_if_ne C 1083 dL_law_1068 (by decide) (fun h1068 => ?_) (fun h1068 => ?_)
    · have hz : ¬ k_w (xs (ii + 1)) = 0 := fun z => h1068 (by rw [z]; rfl)
      refine g_goto C 1617 dL_law_1083 (by decide) ?_
      rw [← r0] at hP hD
      refine g_fg5 (g_fg6 ?_)
      refine g_wd (k := 92 + (ii + 4)) (n := 8073 + 6 * (ii + 4)) (by omega) (by omega) ?_
      exact kk _ _ _ _ _ _ _ _ _ _ _ ⟨RLs_cong hR r0 r1 r2 r3 r4, hP, hD, hS⟩
    · have hcd9 : k_w (xs (ii + 1)) = 0 ∨ k_w (xs (ii + 1)) = 1 := k2
      have hz : k_w (xs (ii + 1)) = 0 := nI_z9 (by omega) h1068
      have hv9 := hok hz
      refine g_aload3 C dL_law_1071 ?_
      refine g_iconst C (nI 0) (by decide) dL_law_1072 ?_
      refine g_lald C hK (P_r hP) dL_law_1073 ?_
      rw [hv9]
      refine g_iload6 C dL_law_1074 ?_
      rw [if_pos hz, hi0]
      refine g_i2l C _ rfl dL_law_1076 ?_
      refine g_lcmp C dL_law_1077 ?_
      rw [cmp_self]
      refine g_if_eq C 1083 dL_law_1078 (by decide) (fun h1078 => ?_) (fun h1078 => ?_)
      · refine g_goto C 1617 dL_law_1083 (by decide) ?_
        rw [← r0] at hP hD
        refine g_fg5 (g_fg6 ?_)
        refine g_wd (k := 92 + (ii + 4)) (n := 8073 + 6 * (ii + 4)) (by omega) (by omega) ?_
        exact kk _ _ _ _ _ _ _ _ _ _ _ ⟨RLs_cong hR r0 r1 r2 r3 r4, hP, hD, hS⟩
      · exact absurd rfl h1078
  · exact absurd rfl h1061

set_option maxHeartbeats 4000000 in
set_option maxRecDepth 100000 in
theorem lw_c16 {P_ : Program} {l : Launch} {E_ : Env} {s : State} {M_ : MethodId} {args : Array Value} {B_ : List Frame} {T_ : Method} {K_ : Code} {Q : State → Prop} {ret : Option FieldType} (C : CX P_ s M_ args T_ K_ cL_law RL 9 ret) (hls : l.stackTraces = false) {dC : Nat → ClassId} {dI : Nat → Nat → Nat} {cI cL cJ : ClassId} {g1 g2 : Nat} {o sa ba a e0 : Nat} {t : Nat → Nat} {om : Nat} {tm : Nat → Nat} {oa b L ii : Nat} {xs : Nat → Int32} (hK : EV dC dI cI cL cJ s) (hZ : ST g1 g2 (fun q => s.heap.size ≤ q) s s.heap) (hX : XE (fun q => s.heap.size ≤ q) s s.heap) (hXs : va_X b L xs s s.heap) (hbl : b < s.heap.size) (hL : L ≤ 2048) (hii : ii + 4 ≤ L) {n len : Nat} {tx : Nat → Int32} {sv : Nat → LO} {x : PS} {f : Nat → Int64} {A : RW} {i : Nat → Int32} {h : Int64} {H : Heap} {locs : List Loc} (hI : LI dC dI cI cL cJ (fun q => s.heap.size ≤ q) s.heap o sa ba a e0 t om tm oa n len tx sv x f A i h H locs)
    (kk : ∀ (n len : Nat) (tx : Nat → Int32) (sv : Nat → LO) (x : PS) (f : Nat → Int64) (A : RW) (i : Nat → Int32) (h : Int64) (H : Heap) (locs : List Loc), LI dC dI cI cL cJ (fun q => s.heap.size ≤ q) s.heap o sa ba a e0 t om tm oa n len tx sv x f A i h H locs → G P_ l E_ room_1 s M_ args B_ T_ K_ H locs (92 + (ii + 4)) (8073 + 6 * (ii + 4)) Q [some (.ref b), some (.ref o), some (.ref om), some (.ref oa), some (.int (nI ii)), none, none, none, none] 1617 []) :
    G P_ l E_ room_1 s M_ args B_ T_ K_ H locs (92 + ii) (8073 + 6 * ii) Q [some (.ref b), some (.ref o), some (.ref om), some (.ref oa), some (.int (nI ii)), none, none, none, none] 1086 [] := by
  obtain ⟨hR, hP, hD, hS⟩ := hI
  obtain ⟨hn, hl, hi0, hi1, hki, hyr, htx, hsv⟩ := hR
  have hR : RLs n len tx sv A i := ⟨hn, hl, hi0, hi1, hki, hyr, htx, hsv⟩
  refine g_aload1 C dL_law_1086 ?_
  refine g_aload0 C dL_law_1087 ?_
  refine g_iload4 C dL_law_1088 ?_
  refine g_iconst C (nI 1) (by decide) dL_law_1090 ?_
  refine g_iaddN C dL_law_1091 ?_
  refine g_sld C hXs hbl (Nat.not_le.mpr hbl) hS (by omega) hL dL_law_1092 ?_
  refine g_aload0 C dL_law_1093 ?_
  refine g_iload4 C dL_law_1094 ?_
  refine g_iconst C (nI 2) (by decide) dL_law_1096 ?_
  refine g_iaddN C dL_law_1097 ?_
  refine g_sld C hXs hbl (Nat.not_le.mpr hbl) hS (by omega) hL dL_law_1098 ?_
  refine g_aload0 C dL_law_1099 ?_
  refine g_iload4 C dL_law_1100 ?_
  refine g_iconst C (nI 3) (by decide) dL_law_1102 ?_
  refine g_iaddN C dL_law_1103 ?_
  refine g_sld C hXs hbl (Nat.not_le.mpr hbl) hS (by omega) hL dL_law_1104 ?_
  refine g_aload3 C dL_law_1105 ?_
  refine g_mSW (As := [.ref o, .int (xs (ii + 1)), .int (xs (ii + 2)), .int (xs (ii + 3)), .ref oa]) C 5 rfl (c_L_why (cd := k_fpd (xs (ii + 1)) (xs (ii + 2)) (xs (ii + 3))) (cls := clI) (W := BW cI cL o sa ba a e0 t n len (svg sv) tx (A 0 550) (q_nz (A 0)) (q_rw (q_nz (A 0)) 0) x sv) k3 rfl rfl ⟨_, rfl⟩ BDM_bl (fun U h1 h2 h3 h4 h5 => ⟨h1, h2, h3, h4, h5⟩) (c_X2_why hls hki)) wl_L_147 wt_L_why wn_L wW_L_why (by decide +kernel) ⟨rfl, rfl, by decide, by decide⟩ LHM_bl (LHM_at hK (P_r hP) (D_r hD).1 hZ hX hS (D_r hD).2) rfl rfl (by simp [Value.category]) ⟨by show _ ≤ 601024; omega, by show _ ≤ 7293034; omega⟩ hS (D_r hD).2 dL_law_1106 (fun H locs hP1 _ hk1 hS => ?_)
  obtain ⟨f1, hok, hP1, hD1⟩ := hP1
  obtain ⟨hP, hD⟩ := PD_put hP hD hP1 hD1 hk1
  refine g_istore5 C rfl dL_law_1109 ?_
  refine g_aload2 C dL_law_1111 ?_
  refine g_aload0 C dL_law_1112 ?_
  refine g_iload4 C dL_law_1113 ?_
  refine g_iconst C (nI 1) (by decide) dL_law_1115 ?_
  refine g_iaddN C dL_law_1116 ?_
  refine g_sld C hXs hbl (Nat.not_le.mpr hbl) hS (by omega) hL dL_law_1117 ?_
  refine g_aload0 C dL_law_1118 ?_
  refine g_iload4 C dL_law_1119 ?_
  refine g_iconst C (nI 2) (by decide) dL_law_1121 ?_
  refine g_iaddN C dL_law_1122 ?_
  refine g_sld C hXs hbl (Nat.not_le.mpr hbl) hS (by omega) hL dL_law_1123 ?_
  refine g_aload0 C dL_law_1124 ?_
  refine g_iload4 C dL_law_1125 ?_
  refine g_iconst C (nI 3) (by decide) dL_law_1127 ?_
  refine g_iaddN C dL_law_1128 ?_
  refine g_sld C hXs hbl (Nat.not_le.mpr hbl) hS (by omega) hL dL_law_1129 ?_
  refine g_mV (As := [.int (xs (ii + 1)), .int (xs (ii + 2)), .int (xs (ii + 3))]) C 3 rfl (c_X3_why hki) wl_L_149 wi_X3_why wv_X3_why wn_X3 wc_X3_why (by decide +kernel) ⟨rfl, rfl, by decide, by decide⟩ MDM_bl (va_recv (ci := 3) (q0 := 0) hK (P_l hP) rfl rfl) (MDM_at hK (P_l hP) (D_l hD).1) rfl rfl (by simp [Value.category]) ⟨by show _ ≤ 601024; omega, by show _ ≤ 7293034; omega⟩ hS (D_l hD).2 dL_law_1130 (fun H locs hP1 _ hk1 hS => ?_)
  obtain ⟨A', i', h', hP9, r0, r1, r2, r3, r4, r5⟩ := hP1
  obtain ⟨hP, hD⟩ := PD_join hP hD hP9 (List.Perm.refl _) hk1
  refine g_istore6 C rfl dL_law_1133 ?_
  refine g_aload2 C dL_law_1135 ?_
  refine g_mcV0 C hK (P_l hP) (c_X3_thrown) wl_L_93 wi_X3_thrown wv_X3_thrown wc_X3_thrown (by decide +kernel) ⟨rfl, rfl, by decide, by decide⟩ rfl (by simp [Value.category]) ⟨by show _ ≤ 601024; omega, by show _ ≤ 7293034; omega⟩ dL_law_1136 ?_
  rw [r5]
  refine g_iload5 C dL_law_1139 ?_
  refine g_icmp_eq C 1146 dL_law_1141 (by decide) (fun h1141 => ?_) (fun h1141 => ?_)
  · refine g_iload5 C dL_law_1146 ?_
    refine g_if_ne C 1163 dL_law_1148 (by decide) (fun h1148 => ?_) (fun h1148 => ?_)
    · have hz : ¬ k_fpd (xs (ii + 1)) (xs (ii + 2)) (xs (ii + 3)) = 0 := fun z => h1148 (by rw [z]; rfl)
      refine g_goto C 1617 dL_law_1163 (by decide) ?_
      rw [← r0] at hP hD
      refine g_fg5 (g_fg6 ?_)
      refine g_wd (k := 92 + (ii + 4)) (n := 8073 + 6 * (ii + 4)) (by omega) (by omega) ?_
      exact kk _ _ _ _ _ _ _ _ _ _ _ ⟨RLs_cong hR r0 r1 r2 r3 r4, hP, hD, hS⟩
    · have hcd9 : k_fpd (xs (ii + 1)) (xs (ii + 2)) (xs (ii + 3)) = 0 ∨ k_fpd (xs (ii + 1)) (xs (ii + 2)) (xs (ii + 3)) = 1 ∨ k_fpd (xs (ii + 1)) (xs (ii + 2)) (xs (ii + 3)) = 2 := k3
      have hz : k_fpd (xs (ii + 1)) (xs (ii + 2)) (xs (ii + 3)) = 0 := nI_z9 (by omega) h1148
      have hv9 := hok hz
      refine g_aload3 C dL_law_1151 ?_
      refine g_iconst C (nI 0) (by decide) dL_law_1152 ?_
      refine g_lald C hK (P_r hP) dL_law_1153 ?_
      rw [hv9]
      refine g_iload6 C dL_law_1154 ?_
      rw [if_pos hz]
      refine g_i2l C _ rfl dL_law_1156 ?_
      refine g_lcmp C dL_law_1157 ?_
      rw [cmp_self]
      refine g_if_eq C 1163 dL_law_1158 (by decide) (fun h1158 => ?_) (fun h1158 => ?_)
      · refine g_goto C 1617 dL_law_1163 (by decide) ?_
        rw [← r0] at hP hD
        refine g_fg5 (g_fg6 ?_)
        refine g_wd (k := 92 + (ii + 4)) (n := 8073 + 6 * (ii + 4)) (by omega) (by omega) ?_
        exact kk _ _ _ _ _ _ _ _ _ _ _ ⟨RLs_cong hR r0 r1 r2 r3 r4, hP, hD, hS⟩
      · exact absurd rfl h1158
  · exact absurd rfl h1141

set_option maxHeartbeats 4000000 in
set_option maxRecDepth 100000 in
theorem lw_c17 {P_ : Program} {l : Launch} {E_ : Env} {s : State} {M_ : MethodId} {args : Array Value} {B_ : List Frame} {T_ : Method} {K_ : Code} {Q : State → Prop} {ret : Option FieldType} (C : CX P_ s M_ args T_ K_ cL_law RL 9 ret) (hls : l.stackTraces = false) {dC : Nat → ClassId} {dI : Nat → Nat → Nat} {cI cL cJ : ClassId} {g1 g2 : Nat} {o sa ba a e0 : Nat} {t : Nat → Nat} {om : Nat} {tm : Nat → Nat} {oa b L ii : Nat} {xs : Nat → Int32} (hK : EV dC dI cI cL cJ s) (hZ : ST g1 g2 (fun q => s.heap.size ≤ q) s s.heap) (hX : XE (fun q => s.heap.size ≤ q) s s.heap) (hXs : va_X b L xs s s.heap) (hbl : b < s.heap.size) (hL : L ≤ 2048) (hii : ii + 4 ≤ L) {n len : Nat} {tx : Nat → Int32} {sv : Nat → LO} {x : PS} {f : Nat → Int64} {A : RW} {i : Nat → Int32} {h : Int64} {H : Heap} {locs : List Loc} (hI : LI dC dI cI cL cJ (fun q => s.heap.size ≤ q) s.heap o sa ba a e0 t om tm oa n len tx sv x f A i h H locs)
    (kk : ∀ (n len : Nat) (tx : Nat → Int32) (sv : Nat → LO) (x : PS) (f : Nat → Int64) (A : RW) (i : Nat → Int32) (h : Int64) (H : Heap) (locs : List Loc), LI dC dI cI cL cJ (fun q => s.heap.size ≤ q) s.heap o sa ba a e0 t om tm oa n len tx sv x f A i h H locs → G P_ l E_ room_1 s M_ args B_ T_ K_ H locs (92 + (ii + 4)) (8073 + 6 * (ii + 4)) Q [some (.ref b), some (.ref o), some (.ref om), some (.ref oa), some (.int (nI ii)), none, none, none, none] 1617 []) :
    G P_ l E_ room_1 s M_ args B_ T_ K_ H locs (92 + ii) (8073 + 6 * ii) Q [some (.ref b), some (.ref o), some (.ref om), some (.ref oa), some (.int (nI ii)), none, none, none, none] 1166 [] := by
  obtain ⟨hR, hP, hD, hS⟩ := hI
  obtain ⟨hn, hl, hi0, hi1, hki, hyr, htx, hsv⟩ := hR
  have hR : RLs n len tx sv A i := ⟨hn, hl, hi0, hi1, hki, hyr, htx, hsv⟩
  refine g_aload1 C dL_law_1166 ?_
  refine g_aload0 C dL_law_1167 ?_
  refine g_iload4 C dL_law_1168 ?_
  refine g_iconst C (nI 1) (by decide) dL_law_1170 ?_
  refine g_iaddN C dL_law_1171 ?_
  refine g_sld C hXs hbl (Nat.not_le.mpr hbl) hS (by omega) hL dL_law_1172 ?_
  refine g_aload0 C dL_law_1173 ?_
  refine g_iload4 C dL_law_1174 ?_
  refine g_iconst C (nI 2) (by decide) dL_law_1176 ?_
  refine g_iaddN C dL_law_1177 ?_
  refine g_sld C hXs hbl (Nat.not_le.mpr hbl) hS (by omega) hL dL_law_1178 ?_
  refine g_aload0 C dL_law_1179 ?_
  refine g_iload4 C dL_law_1180 ?_
  refine g_iconst C (nI 3) (by decide) dL_law_1182 ?_
  refine g_iaddN C dL_law_1183 ?_
  refine g_sld C hXs hbl (Nat.not_le.mpr hbl) hS (by omega) hL dL_law_1184 ?_
  refine g_aload3 C dL_law_1185 ?_
  refine g_mSW (As := [.ref o, .int (xs (ii + 1)), .int (xs (ii + 2)), .int (xs (ii + 3)), .ref oa]) C 5 rfl (c_L_fee (cd := k_fpd (xs (ii + 1)) (xs (ii + 2)) (xs (ii + 3))) (cls := clI) (W := BW cI cL o sa ba a e0 t n len (svg sv) tx (A 0 550) (q_nz (A 0)) (q_rw (q_nz (A 0)) 0) x sv) k3 rfl rfl ⟨_, rfl⟩ BDM_bl (fun U h1 h2 h3 h4 h5 => ⟨h1, h2, h3, h4, h5⟩) (c_X2_fee hls hki)) wl_L_150 wt_L_fee wn_L wW_L_fee (by decide +kernel) ⟨rfl, rfl, by decide, by decide⟩ LHM_bl (LHM_at hK (P_r hP) (D_r hD).1 hZ hX hS (D_r hD).2) rfl rfl (by simp [Value.category]) ⟨by show _ ≤ 601024; omega, by show _ ≤ 7293034; omega⟩ hS (D_r hD).2 dL_law_1186 (fun H locs hP1 _ hk1 hS => ?_)
  obtain ⟨f1, hok, hP1, hD1⟩ := hP1
  obtain ⟨hP, hD⟩ := PD_put hP hD hP1 hD1 hk1
  refine g_istore5 C rfl dL_law_1189 ?_
  refine g_aload2 C dL_law_1191 ?_
  refine g_aload0 C dL_law_1192 ?_
  refine g_iload4 C dL_law_1193 ?_
  refine g_iconst C (nI 1) (by decide) dL_law_1195 ?_
  refine g_iaddN C dL_law_1196 ?_
  refine g_sld C hXs hbl (Nat.not_le.mpr hbl) hS (by omega) hL dL_law_1197 ?_
  refine g_aload0 C dL_law_1198 ?_
  refine g_iload4 C dL_law_1199 ?_
  refine g_iconst C (nI 2) (by decide) dL_law_1201 ?_
  refine g_iaddN C dL_law_1202 ?_
  refine g_sld C hXs hbl (Nat.not_le.mpr hbl) hS (by omega) hL dL_law_1203 ?_
  refine g_aload0 C dL_law_1204 ?_
  refine g_iload4 C dL_law_1205 ?_
  refine g_iconst C (nI 3) (by decide) dL_law_1207 ?_
  refine g_iaddN C dL_law_1208 ?_
  refine g_sld C hXs hbl (Nat.not_le.mpr hbl) hS (by omega) hL dL_law_1209 ?_
  refine g_mV (As := [.int (xs (ii + 1)), .int (xs (ii + 2)), .int (xs (ii + 3))]) C 3 rfl (c_X3_fee hki) wl_L_152 wi_X3_fee wv_X3_fee wn_X3 wc_X3_fee (by decide +kernel) ⟨rfl, rfl, by decide, by decide⟩ MDM_bl (va_recv (ci := 3) (q0 := 0) hK (P_l hP) rfl rfl) (MDM_at hK (P_l hP) (D_l hD).1) rfl rfl (by simp [Value.category]) ⟨by show _ ≤ 601024; omega, by show _ ≤ 7293034; omega⟩ hS (D_l hD).2 dL_law_1210 (fun H locs hP1 _ hk1 hS => ?_)
  obtain ⟨A', i', h', hP9, r0, r1, r2, r3, r4, r5⟩ := hP1
  obtain ⟨hP, hD⟩ := PD_join hP hD hP9 (List.Perm.refl _) hk1
  refine g_istore6 C rfl dL_law_1213 ?_
  refine g_aload2 C dL_law_1215 ?_
  refine g_mcV0 C hK (P_l hP) (c_X3_thrown) wl_L_93 wi_X3_thrown wv_X3_thrown wc_X3_thrown (by decide +kernel) ⟨rfl, rfl, by decide, by decide⟩ rfl (by simp [Value.category]) ⟨by show _ ≤ 601024; omega, by show _ ≤ 7293034; omega⟩ dL_law_1216 ?_
  rw [r5]
  refine g_iload5 C dL_law_1219 ?_
  refine g_icmp_eq C 1226 dL_law_1221 (by decide) (fun h1221 => ?_) (fun h1221 => ?_)
  · refine g_iload5 C dL_law_1226 ?_
    refine g_if_ne C 1243 dL_law_1228 (by decide) (fun h1228 => ?_) (fun h1228 => ?_)
    · have hz : ¬ k_fpd (xs (ii + 1)) (xs (ii + 2)) (xs (ii + 3)) = 0 := fun z => h1228 (by rw [z]; rfl)
      refine g_goto C 1617 dL_law_1243 (by decide) ?_
      rw [← r0] at hP hD
      refine g_fg5 (g_fg6 ?_)
      refine g_wd (k := 92 + (ii + 4)) (n := 8073 + 6 * (ii + 4)) (by omega) (by omega) ?_
      exact kk _ _ _ _ _ _ _ _ _ _ _ ⟨RLs_cong hR r0 r1 r2 r3 r4, hP, hD, hS⟩
    · have hcd9 : k_fpd (xs (ii + 1)) (xs (ii + 2)) (xs (ii + 3)) = 0 ∨ k_fpd (xs (ii + 1)) (xs (ii + 2)) (xs (ii + 3)) = 1 ∨ k_fpd (xs (ii + 1)) (xs (ii + 2)) (xs (ii + 3)) = 2 := k3
      have hz : k_fpd (xs (ii + 1)) (xs (ii + 2)) (xs (ii + 3)) = 0 := nI_z9 (by omega) h1228
      have hv9 := hok hz
      refine g_aload3 C dL_law_1231 ?_
      refine g_iconst C (nI 0) (by decide) dL_law_1232 ?_
      refine g_lald C hK (P_r hP) dL_law_1233 ?_
      rw [hv9]
      refine g_iload6 C dL_law_1234 ?_
      rw [if_pos hz]
      refine g_i2l C _ rfl dL_law_1236 ?_
      refine g_lcmp C dL_law_1237 ?_
      rw [cmp_self]
      refine g_if_eq C 1243 dL_law_1238 (by decide) (fun h1238 => ?_) (fun h1238 => ?_)
      · refine g_goto C 1617 dL_law_1243 (by decide) ?_
        rw [← r0] at hP hD
        refine g_fg5 (g_fg6 ?_)
        refine g_wd (k := 92 + (ii + 4)) (n := 8073 + 6 * (ii + 4)) (by omega) (by omega) ?_
        exact kk _ _ _ _ _ _ _ _ _ _ _ ⟨RLs_cong hR r0 r1 r2 r3 r4, hP, hD, hS⟩
      · exact absurd rfl h1238
  · exact absurd rfl h1221

set_option maxHeartbeats 4000000 in
set_option maxRecDepth 100000 in
theorem lw_c18 {P_ : Program} {l : Launch} {E_ : Env} {s : State} {M_ : MethodId} {args : Array Value} {B_ : List Frame} {T_ : Method} {K_ : Code} {Q : State → Prop} {ret : Option FieldType} (C : CX P_ s M_ args T_ K_ cL_law RL 9 ret) (hls : l.stackTraces = false) {dC : Nat → ClassId} {dI : Nat → Nat → Nat} {cI cL cJ : ClassId} {g1 g2 : Nat} {o sa ba a e0 : Nat} {t : Nat → Nat} {om : Nat} {tm : Nat → Nat} {oa b L ii : Nat} {xs : Nat → Int32} (hK : EV dC dI cI cL cJ s) (hZ : ST g1 g2 (fun q => s.heap.size ≤ q) s s.heap) (hX : XE (fun q => s.heap.size ≤ q) s s.heap) (hXs : va_X b L xs s s.heap) (hbl : b < s.heap.size) (hL : L ≤ 2048) (hii : ii + 4 ≤ L) {n len : Nat} {tx : Nat → Int32} {sv : Nat → LO} {x : PS} {f : Nat → Int64} {A : RW} {i : Nat → Int32} {h : Int64} {H : Heap} {locs : List Loc} (hI : LI dC dI cI cL cJ (fun q => s.heap.size ≤ q) s.heap o sa ba a e0 t om tm oa n len tx sv x f A i h H locs)
    (kk : ∀ (n len : Nat) (tx : Nat → Int32) (sv : Nat → LO) (x : PS) (f : Nat → Int64) (A : RW) (i : Nat → Int32) (h : Int64) (H : Heap) (locs : List Loc), LI dC dI cI cL cJ (fun q => s.heap.size ≤ q) s.heap o sa ba a e0 t om tm oa n len tx sv x f A i h H locs → G P_ l E_ room_1 s M_ args B_ T_ K_ H locs (92 + (ii + 4)) (8073 + 6 * (ii + 4)) Q [some (.ref b), some (.ref o), some (.ref om), some (.ref oa), some (.int (nI ii)), none, none, none, none] 1617 []) :
    G P_ l E_ room_1 s M_ args B_ T_ K_ H locs (92 + ii) (8073 + 6 * ii) Q [some (.ref b), some (.ref o), some (.ref om), some (.ref oa), some (.int (nI ii)), none, none, none, none] 1246 [] := by
  obtain ⟨hR, hP, hD, hS⟩ := hI
  obtain ⟨hn, hl, hi0, hi1, hki, hyr, htx, hsv⟩ := hR
  have hR : RLs n len tx sv A i := ⟨hn, hl, hi0, hi1, hki, hyr, htx, hsv⟩
  refine g_aload1 C dL_law_1246 ?_
  refine g_aload0 C dL_law_1247 ?_
  refine g_iload4 C dL_law_1248 ?_
  refine g_iconst C (nI 1) (by decide) dL_law_1250 ?_
  refine g_iaddN C dL_law_1251 ?_
  refine g_sld C hXs hbl (Nat.not_le.mpr hbl) hS (by omega) hL dL_law_1252 ?_
  refine g_aload0 C dL_law_1253 ?_
  refine g_iload4 C dL_law_1254 ?_
  refine g_iconst C (nI 2) (by decide) dL_law_1256 ?_
  refine g_iaddN C dL_law_1257 ?_
  refine g_sld C hXs hbl (Nat.not_le.mpr hbl) hS (by omega) hL dL_law_1258 ?_
  refine g_aload3 C dL_law_1259 ?_
  refine g_mSW (As := [.ref o, .int (xs (ii + 1)), .int (xs (ii + 2)), .ref oa]) C 4 rfl (c_L_deepest (cd := k_fp (xs (ii + 1)) (xs (ii + 2))) (cls := (fun _ => XIO)) (W := BW cI cL o sa ba a e0 t n len (svg sv) tx (A 0 550) (q_nz (A 0)) (q_rw (q_nz (A 0)) 0) x sv) k2 rfl ⟨_, rfl⟩ BDM_bl (fun U h1 h2 h3 h4 h5 => ⟨h1, h2, h3, h4, h5⟩) (c_X2_deepest hls hki)) wl_L_153 wt_L_deepest wn_L wW_L_deepest (by decide +kernel) ⟨rfl, rfl, by decide, by decide⟩ LHM_bl (LHM_at hK (P_r hP) (D_r hD).1 hZ hX hS (D_r hD).2) rfl rfl (by simp [Value.category]) ⟨by show _ ≤ 601024; omega, by show _ ≤ 7293034; omega⟩ hS (D_r hD).2 dL_law_1260 (fun H locs hP1 _ hk1 hS => ?_)
  obtain ⟨f1, hok, hP1, hD1⟩ := hP1
  obtain ⟨hP, hD⟩ := PD_put hP hD hP1 hD1 hk1
  refine g_istore5 C rfl dL_law_1263 ?_
  refine g_aload2 C dL_law_1265 ?_
  refine g_aload0 C dL_law_1266 ?_
  refine g_iload4 C dL_law_1267 ?_
  refine g_iconst C (nI 1) (by decide) dL_law_1269 ?_
  refine g_iaddN C dL_law_1270 ?_
  refine g_sld C hXs hbl (Nat.not_le.mpr hbl) hS (by omega) hL dL_law_1271 ?_
  refine g_aload0 C dL_law_1272 ?_
  refine g_iload4 C dL_law_1273 ?_
  refine g_iconst C (nI 2) (by decide) dL_law_1275 ?_
  refine g_iaddN C dL_law_1276 ?_
  refine g_sld C hXs hbl (Nat.not_le.mpr hbl) hS (by omega) hL dL_law_1277 ?_
  refine g_mV (As := [.int (xs (ii + 1)), .int (xs (ii + 2))]) C 2 rfl (c_X3_deepest hki) wl_L_155 wi_X3_deepest wv_X3_deepest wn_X3 wc_X3_deepest (by decide +kernel) ⟨rfl, rfl, by decide, by decide⟩ MDM_bl (va_recv (ci := 3) (q0 := 0) hK (P_l hP) rfl rfl) (MDM_at hK (P_l hP) (D_l hD).1) rfl rfl (by simp [Value.category]) ⟨by show _ ≤ 601024; omega, by show _ ≤ 7293034; omega⟩ hS (D_l hD).2 dL_law_1278 (fun H locs hP1 _ hk1 hS => ?_)
  obtain ⟨A', i', h', hP9, r0, r1, r2, r3, r4, r5⟩ := hP1
  obtain ⟨hP, hD⟩ := PD_join hP hD hP9 (List.Perm.refl _) hk1
  refine g_istore6 C rfl dL_law_1281 ?_
  refine g_aload2 C dL_law_1283 ?_
  refine g_mcV0 C hK (P_l hP) (c_X3_thrown) wl_L_93 wi_X3_thrown wv_X3_thrown wc_X3_thrown (by decide +kernel) ⟨rfl, rfl, by decide, by decide⟩ rfl (by simp [Value.category]) ⟨by show _ ≤ 601024; omega, by show _ ≤ 7293034; omega⟩ dL_law_1284 ?_
  rw [r5]
  refine g_iload5 C dL_law_1287 ?_
  refine g_icmp_eq C 1294 dL_law_1289 (by decide) (fun h1289 => ?_) (fun h1289 => ?_)
  · refine g_iload5 C dL_law_1294 ?_
    refine g_if_ne C 1311 dL_law_1296 (by decide) (fun h1296 => ?_) (fun h1296 => ?_)
    · have hz : ¬ k_fp (xs (ii + 1)) (xs (ii + 2)) = 0 := fun z => h1296 (by rw [z]; rfl)
      refine g_goto C 1617 dL_law_1311 (by decide) ?_
      rw [← r0] at hP hD
      refine g_fg5 (g_fg6 ?_)
      refine g_wd (k := 92 + (ii + 4)) (n := 8073 + 6 * (ii + 4)) (by omega) (by omega) ?_
      exact kk _ _ _ _ _ _ _ _ _ _ _ ⟨RLs_cong hR r0 r1 r2 r3 r4, hP, hD, hS⟩
    · have hcd9 : k_fp (xs (ii + 1)) (xs (ii + 2)) = 0 ∨ k_fp (xs (ii + 1)) (xs (ii + 2)) = 1 := k2
      have hz : k_fp (xs (ii + 1)) (xs (ii + 2)) = 0 := nI_z9 (by omega) h1296
      have hv9 := hok hz
      refine g_aload3 C dL_law_1299 ?_
      refine g_iconst C (nI 0) (by decide) dL_law_1300 ?_
      refine g_lald C hK (P_r hP) dL_law_1301 ?_
      rw [hv9]
      refine g_iload6 C dL_law_1302 ?_
      rw [if_pos hz]
      refine g_i2l C _ rfl dL_law_1304 ?_
      refine g_lcmp C dL_law_1305 ?_
      rw [cmp_self]
      refine g_if_eq C 1311 dL_law_1306 (by decide) (fun h1306 => ?_) (fun h1306 => ?_)
      · refine g_goto C 1617 dL_law_1311 (by decide) ?_
        rw [← r0] at hP hD
        refine g_fg5 (g_fg6 ?_)
        refine g_wd (k := 92 + (ii + 4)) (n := 8073 + 6 * (ii + 4)) (by omega) (by omega) ?_
        exact kk _ _ _ _ _ _ _ _ _ _ _ ⟨RLs_cong hR r0 r1 r2 r3 r4, hP, hD, hS⟩
      · exact absurd rfl h1306
  · exact absurd rfl h1289

set_option maxHeartbeats 4000000 in
set_option maxRecDepth 100000 in
theorem lw_c19 {P_ : Program} {l : Launch} {E_ : Env} {s : State} {M_ : MethodId} {args : Array Value} {B_ : List Frame} {T_ : Method} {K_ : Code} {Q : State → Prop} {ret : Option FieldType} (C : CX P_ s M_ args T_ K_ cL_law RL 9 ret) (hls : l.stackTraces = false) {dC : Nat → ClassId} {dI : Nat → Nat → Nat} {cI cL cJ : ClassId} {g1 g2 : Nat} {o sa ba a e0 : Nat} {t : Nat → Nat} {om : Nat} {tm : Nat → Nat} {oa b L ii : Nat} {xs : Nat → Int32} (hK : EV dC dI cI cL cJ s) (hZ : ST g1 g2 (fun q => s.heap.size ≤ q) s s.heap) (hX : XE (fun q => s.heap.size ≤ q) s s.heap) (hXs : va_X b L xs s s.heap) (hbl : b < s.heap.size) (hL : L ≤ 2048) (hii : ii + 4 ≤ L) {n len : Nat} {tx : Nat → Int32} {sv : Nat → LO} {x : PS} {f : Nat → Int64} {A : RW} {i : Nat → Int32} {h : Int64} {H : Heap} {locs : List Loc} (hI : LI dC dI cI cL cJ (fun q => s.heap.size ≤ q) s.heap o sa ba a e0 t om tm oa n len tx sv x f A i h H locs)
    (kk : ∀ (n len : Nat) (tx : Nat → Int32) (sv : Nat → LO) (x : PS) (f : Nat → Int64) (A : RW) (i : Nat → Int32) (h : Int64) (H : Heap) (locs : List Loc), LI dC dI cI cL cJ (fun q => s.heap.size ≤ q) s.heap o sa ba a e0 t om tm oa n len tx sv x f A i h H locs → G P_ l E_ room_1 s M_ args B_ T_ K_ H locs (92 + (ii + 4)) (8073 + 6 * (ii + 4)) Q [some (.ref b), some (.ref o), some (.ref om), some (.ref oa), some (.int (nI ii)), none, none, none, none] 1617 []) :
    G P_ l E_ room_1 s M_ args B_ T_ K_ H locs (92 + ii) (8073 + 6 * ii) Q [some (.ref b), some (.ref o), some (.ref om), some (.ref oa), some (.int (nI ii)), none, none, none, none] 1314 [] := by
  obtain ⟨hR, hP, hD, hS⟩ := hI
  obtain ⟨hn, hl, hi0, hi1, hki, hyr, htx, hsv⟩ := hR
  have hR : RLs n len tx sv A i := ⟨hn, hl, hi0, hi1, hki, hyr, htx, hsv⟩
  refine g_aload1 C dL_law_1314 ?_
  refine g_aload0 C dL_law_1315 ?_
  refine g_iload4 C dL_law_1316 ?_
  refine g_iconst C (nI 1) (by decide) dL_law_1318 ?_
  refine g_iaddN C dL_law_1319 ?_
  refine g_sld C hXs hbl (Nat.not_le.mpr hbl) hS (by omega) hL dL_law_1320 ?_
  refine g_aload3 C dL_law_1321 ?_
  refine g_mSW (As := [.ref o, .int (xs (ii + 1)), .ref oa]) C 3 rfl (c_L_bestPlot (cd := k_par (xs (ii + 1))) (cls := (fun _ => XIO)) (W := BW cI cL o sa ba a e0 t n len (svg sv) tx (A 0 550) (q_nz (A 0)) (q_rw (q_nz (A 0)) 0) x sv) k2 rfl ⟨_, rfl⟩ BDM_bl (fun U h1 h2 h3 h4 h5 => ⟨h1, h2, h3, h4, h5⟩) (c_X2_bestPlot hls hki)) wl_L_156 wt_L_bestPlot wn_L wW_L_bestPlot (by decide +kernel) ⟨rfl, rfl, by decide, by decide⟩ LHM_bl (LHM_at hK (P_r hP) (D_r hD).1 hZ hX hS (D_r hD).2) rfl rfl (by simp [Value.category]) ⟨by show _ ≤ 601024; omega, by show _ ≤ 7293034; omega⟩ hS (D_r hD).2 dL_law_1322 (fun H locs hP1 _ hk1 hS => ?_)
  obtain ⟨f1, hok, hP1, hD1⟩ := hP1
  obtain ⟨hP, hD⟩ := PD_put hP hD hP1 hD1 hk1
  refine g_istore5 C rfl dL_law_1325 ?_
  refine g_aload2 C dL_law_1327 ?_
  refine g_aload0 C dL_law_1328 ?_
  refine g_iload4 C dL_law_1329 ?_
  refine g_iconst C (nI 1) (by decide) dL_law_1331 ?_
  refine g_iaddN C dL_law_1332 ?_
  refine g_sld C hXs hbl (Nat.not_le.mpr hbl) hS (by omega) hL dL_law_1333 ?_
  refine g_mV (As := [.int (xs (ii + 1))]) C 1 rfl (c_X3_bestPlot hki) wl_L_158 wi_X3_bestPlot wv_X3_bestPlot wn_X3 wc_X3_bestPlot (by decide +kernel) ⟨rfl, rfl, by decide, by decide⟩ MDM_bl (va_recv (ci := 3) (q0 := 0) hK (P_l hP) rfl rfl) (MDM_at hK (P_l hP) (D_l hD).1) rfl rfl (by simp [Value.category]) ⟨by show _ ≤ 601024; omega, by show _ ≤ 7293034; omega⟩ hS (D_l hD).2 dL_law_1334 (fun H locs hP1 _ hk1 hS => ?_)
  obtain ⟨A', i', h', hP9, r0, r1, r2, r3, r4, r5⟩ := hP1
  obtain ⟨hP, hD⟩ := PD_join hP hD hP9 (List.Perm.refl _) hk1
  refine g_istore6 C rfl dL_law_1337 ?_
  refine g_aload2 C dL_law_1339 ?_
  refine g_mcV0 C hK (P_l hP) (c_X3_thrown) wl_L_93 wi_X3_thrown wv_X3_thrown wc_X3_thrown (by decide +kernel) ⟨rfl, rfl, by decide, by decide⟩ rfl (by simp [Value.category]) ⟨by show _ ≤ 601024; omega, by show _ ≤ 7293034; omega⟩ dL_law_1340 ?_
  rw [r5]
  refine g_iload5 C dL_law_1343 ?_
  refine g_icmp_eq C 1350 dL_law_1345 (by decide) (fun h1345 => ?_) (fun h1345 => ?_)
  · refine g_iload5 C dL_law_1350 ?_
    refine g_if_ne C 1367 dL_law_1352 (by decide) (fun h1352 => ?_) (fun h1352 => ?_)
    · have hz : ¬ k_par (xs (ii + 1)) = 0 := fun z => h1352 (by rw [z]; rfl)
      refine g_goto C 1617 dL_law_1367 (by decide) ?_
      rw [← r0] at hP hD
      refine g_fg5 (g_fg6 ?_)
      refine g_wd (k := 92 + (ii + 4)) (n := 8073 + 6 * (ii + 4)) (by omega) (by omega) ?_
      exact kk _ _ _ _ _ _ _ _ _ _ _ ⟨RLs_cong hR r0 r1 r2 r3 r4, hP, hD, hS⟩
    · have hcd9 : k_par (xs (ii + 1)) = 0 ∨ k_par (xs (ii + 1)) = 1 := k2
      have hz : k_par (xs (ii + 1)) = 0 := nI_z9 (by omega) h1352
      have hv9 := hok hz
      refine g_aload3 C dL_law_1355 ?_
      refine g_iconst C (nI 0) (by decide) dL_law_1356 ?_
      refine g_lald C hK (P_r hP) dL_law_1357 ?_
      rw [hv9]
      refine g_iload6 C dL_law_1358 ?_
      rw [if_pos hz]
      refine g_i2l C _ rfl dL_law_1360 ?_
      refine g_lcmp C dL_law_1361 ?_
      rw [cmp_self]
      refine g_if_eq C 1367 dL_law_1362 (by decide) (fun h1362 => ?_) (fun h1362 => ?_)
      · refine g_goto C 1617 dL_law_1367 (by decide) ?_
        rw [← r0] at hP hD
        refine g_fg5 (g_fg6 ?_)
        refine g_wd (k := 92 + (ii + 4)) (n := 8073 + 6 * (ii + 4)) (by omega) (by omega) ?_
        exact kk _ _ _ _ _ _ _ _ _ _ _ ⟨RLs_cong hR r0 r1 r2 r3 r4, hP, hD, hS⟩
      · exact absurd rfl h1362
  · exact absurd rfl h1345

set_option maxHeartbeats 4000000 in
set_option maxRecDepth 100000 in
theorem lw_c20 {P_ : Program} {l : Launch} {E_ : Env} {s : State} {M_ : MethodId} {args : Array Value} {B_ : List Frame} {T_ : Method} {K_ : Code} {Q : State → Prop} {ret : Option FieldType} (C : CX P_ s M_ args T_ K_ cL_law RL 9 ret) (hls : l.stackTraces = false) {dC : Nat → ClassId} {dI : Nat → Nat → Nat} {cI cL cJ : ClassId} {g1 g2 : Nat} {o sa ba a e0 : Nat} {t : Nat → Nat} {om : Nat} {tm : Nat → Nat} {oa b L ii : Nat} {xs : Nat → Int32} (hK : EV dC dI cI cL cJ s) (hZ : ST g1 g2 (fun q => s.heap.size ≤ q) s s.heap) (hX : XE (fun q => s.heap.size ≤ q) s s.heap) (hXs : va_X b L xs s s.heap) (hbl : b < s.heap.size) (hL : L ≤ 2048) (hii : ii + 4 ≤ L) {n len : Nat} {tx : Nat → Int32} {sv : Nat → LO} {x : PS} {f : Nat → Int64} {A : RW} {i : Nat → Int32} {h : Int64} {H : Heap} {locs : List Loc} (hI : LI dC dI cI cL cJ (fun q => s.heap.size ≤ q) s.heap o sa ba a e0 t om tm oa n len tx sv x f A i h H locs)
    (kk : ∀ (n len : Nat) (tx : Nat → Int32) (sv : Nat → LO) (x : PS) (f : Nat → Int64) (A : RW) (i : Nat → Int32) (h : Int64) (H : Heap) (locs : List Loc), LI dC dI cI cL cJ (fun q => s.heap.size ≤ q) s.heap o sa ba a e0 t om tm oa n len tx sv x f A i h H locs → G P_ l E_ room_1 s M_ args B_ T_ K_ H locs (92 + (ii + 4)) (8073 + 6 * (ii + 4)) Q [some (.ref b), some (.ref o), some (.ref om), some (.ref oa), some (.int (nI ii)), none, none, none, none] 1617 []) :
    G P_ l E_ room_1 s M_ args B_ T_ K_ H locs (92 + ii) (8073 + 6 * ii) Q [some (.ref b), some (.ref o), some (.ref om), some (.ref oa), some (.int (nI ii)), none, none, none, none] 1370 [] := by
  obtain ⟨hR, hP, hD, hS⟩ := hI
  obtain ⟨hn, hl, hi0, hi1, hki, hyr, htx, hsv⟩ := hR
  have hR : RLs n len tx sv A i := ⟨hn, hl, hi0, hi1, hki, hyr, htx, hsv⟩
  obtain ⟨yn, hyn, ey⟩ := hyr
  replace hP : va_P (dC, dI) vwCl (MW cI om tm A i h ++ (JR cJ oa f :: BW cI cL o sa ba a e0 t n len (svg sv) tx (A 0 550) (q_nz (A 0)) (q_rw (q_nz (A 0)) 0) x sv)) H := hP
  replace hD : va_D (fun q => s.heap.size ≤ q) (MW cI om tm A i h ++ (JR cJ oa f :: BW cI cL o sa ba a e0 t n len (svg sv) tx (A 0 550) (q_nz (A 0)) (q_rw (q_nz (A 0)) 0) x sv)) := hD
  rw [ey] at hP hD
  refine g_aload1 C dL_law_1370 ?_
  refine g_aload0 C dL_law_1371 ?_
  refine g_iload4 C dL_law_1372 ?_
  refine g_iconst C (nI 1) (by decide) dL_law_1374 ?_
  refine g_iaddN C dL_law_1375 ?_
  refine g_sld C hXs hbl (Nat.not_le.mpr hbl) hS (by omega) hL dL_law_1376 ?_
  refine g_aload0 C dL_law_1377 ?_
  refine g_iload4 C dL_law_1378 ?_
  refine g_iconst C (nI 2) (by decide) dL_law_1380 ?_
  refine g_iaddN C dL_law_1381 ?_
  refine g_sld C hXs hbl (Nat.not_le.mpr hbl) hS (by omega) hL dL_law_1382 ?_
  refine g_aload0 C dL_law_1383 ?_
  refine g_iload4 C dL_law_1384 ?_
  refine g_iconst C (nI 3) (by decide) dL_law_1386 ?_
  refine g_iaddN C dL_law_1387 ?_
  refine g_sld C hXs hbl (Nat.not_le.mpr hbl) hS (by omega) hL dL_law_1388 ?_
  refine g_aload3 C dL_law_1389 ?_
  refine g_mSW (As := [.ref o, .int (xs (ii + 1)), .int (xs (ii + 2)), .int (xs (ii + 3)), .ref oa]) C 5 rfl (c_L_yearFor (cd := k_fpd (xs (ii + 1)) (xs (ii + 2)) (xs (ii + 3))) (cls := clI) (W := BW cI cL o sa ba a e0 t n len (svg sv) tx (nI yn) (q_nz (A 0)) (q_rw (q_nz (A 0)) 0) x sv) k3 rfl rfl ⟨_, rfl⟩ BDM_bl (fun U h1 h2 h3 h4 h5 => ⟨h1, h2, h3, h4, h5⟩) (c_X2_yearFor hls hki hyn)) wl_L_159 wt_L_yearFor wn_L wW_L_yearFor (by decide +kernel) ⟨rfl, rfl, by decide, by decide⟩ LHM_bl (LHM_at hK (P_r hP) (D_r hD).1 hZ hX hS (D_r hD).2) rfl rfl (by simp [Value.category]) ⟨by show _ ≤ 601024; omega, by show _ ≤ 7293034; omega⟩ hS (D_r hD).2 dL_law_1390 (fun H locs hP1 _ hk1 hS => ?_)
  obtain ⟨f1, hok, hP1, hD1⟩ := hP1
  obtain ⟨hP, hD⟩ := PD_put hP hD hP1 hD1 hk1
  refine g_istore5 C rfl dL_law_1393 ?_
  refine g_aload2 C dL_law_1395 ?_
  refine g_aload0 C dL_law_1396 ?_
  refine g_iload4 C dL_law_1397 ?_
  refine g_iconst C (nI 1) (by decide) dL_law_1399 ?_
  refine g_iaddN C dL_law_1400 ?_
  refine g_sld C hXs hbl (Nat.not_le.mpr hbl) hS (by omega) hL dL_law_1401 ?_
  refine g_aload0 C dL_law_1402 ?_
  refine g_iload4 C dL_law_1403 ?_
  refine g_iconst C (nI 2) (by decide) dL_law_1405 ?_
  refine g_iaddN C dL_law_1406 ?_
  refine g_sld C hXs hbl (Nat.not_le.mpr hbl) hS (by omega) hL dL_law_1407 ?_
  refine g_aload0 C dL_law_1408 ?_
  refine g_iload4 C dL_law_1409 ?_
  refine g_iconst C (nI 3) (by decide) dL_law_1411 ?_
  refine g_iaddN C dL_law_1412 ?_
  refine g_sld C hXs hbl (Nat.not_le.mpr hbl) hS (by omega) hL dL_law_1413 ?_
  refine g_mV (As := [.int (xs (ii + 1)), .int (xs (ii + 2)), .int (xs (ii + 3))]) C 3 rfl (c_X3_yearFor hki hyn ey) wl_L_161 wi_X3_yearFor wv_X3_yearFor wn_X3 wc_X3_yearFor (by decide +kernel) ⟨rfl, rfl, by decide, by decide⟩ MDM_bl (va_recv (ci := 3) (q0 := 0) hK (P_l hP) rfl rfl) (MDM_at hK (P_l hP) (D_l hD).1) rfl rfl (by simp [Value.category]) ⟨by show _ ≤ 601024; omega, by show _ ≤ 7293034; omega⟩ hS (D_l hD).2 dL_law_1414 (fun H locs hP1 _ hk1 hS => ?_)
  obtain ⟨A', i', h', hP9, r0, r1, r2, r3, r4, r5⟩ := hP1
  obtain ⟨hP, hD⟩ := PD_join hP hD hP9 (List.Perm.refl _) hk1
  refine g_istore6 C rfl dL_law_1417 ?_
  refine g_aload2 C dL_law_1419 ?_
  refine g_mcV0 C hK (P_l hP) (c_X3_thrown) wl_L_93 wi_X3_thrown wv_X3_thrown wc_X3_thrown (by decide +kernel) ⟨rfl, rfl, by decide, by decide⟩ rfl (by simp [Value.category]) ⟨by show _ ≤ 601024; omega, by show _ ≤ 7293034; omega⟩ dL_law_1420 ?_
  rw [r5]
  refine g_iload5 C dL_law_1423 ?_
  refine g_icmp_eq C 1430 dL_law_1425 (by decide) (fun h1425 => ?_) (fun h1425 => ?_)
  · refine g_iload5 C dL_law_1430 ?_
    refine g_if_ne C 1447 dL_law_1432 (by decide) (fun h1432 => ?_) (fun h1432 => ?_)
    · have hz : ¬ k_fpd (xs (ii + 1)) (xs (ii + 2)) (xs (ii + 3)) = 0 := fun z => h1432 (by rw [z]; rfl)
      refine g_goto C 1617 dL_law_1447 (by decide) ?_
      rw [← ey] at hP hD
      rw [← r0] at hP hD
      refine g_fg5 (g_fg6 ?_)
      refine g_wd (k := 92 + (ii + 4)) (n := 8073 + 6 * (ii + 4)) (by omega) (by omega) ?_
      exact kk _ _ _ _ _ _ _ _ _ _ _ ⟨RLs_cong hR r0 r1 r2 r3 r4, hP, hD, hS⟩
    · have hcd9 : k_fpd (xs (ii + 1)) (xs (ii + 2)) (xs (ii + 3)) = 0 ∨ k_fpd (xs (ii + 1)) (xs (ii + 2)) (xs (ii + 3)) = 1 ∨ k_fpd (xs (ii + 1)) (xs (ii + 2)) (xs (ii + 3)) = 2 := k3
      have hz : k_fpd (xs (ii + 1)) (xs (ii + 2)) (xs (ii + 3)) = 0 := nI_z9 (by omega) h1432
      have hv9 := hok hz
      refine g_aload3 C dL_law_1435 ?_
      refine g_iconst C (nI 0) (by decide) dL_law_1436 ?_
      refine g_lald C hK (P_r hP) dL_law_1437 ?_
      rw [hv9]
      refine g_iload6 C dL_law_1438 ?_
      rw [if_pos hz]
      refine g_i2l C _ rfl dL_law_1440 ?_
      refine g_lcmp C dL_law_1441 ?_
      rw [cmp_self]
      refine g_if_eq C 1447 dL_law_1442 (by decide) (fun h1442 => ?_) (fun h1442 => ?_)
      · refine g_goto C 1617 dL_law_1447 (by decide) ?_
        rw [← ey] at hP hD
        rw [← r0] at hP hD
        refine g_fg5 (g_fg6 ?_)
        refine g_wd (k := 92 + (ii + 4)) (n := 8073 + 6 * (ii + 4)) (by omega) (by omega) ?_
        exact kk _ _ _ _ _ _ _ _ _ _ _ ⟨RLs_cong hR r0 r1 r2 r3 r4, hP, hD, hS⟩
      · exact absurd rfl h1442
  · exact absurd rfl h1425

set_option maxHeartbeats 4000000 in
set_option maxRecDepth 100000 in
theorem lw_c21 {P_ : Program} {l : Launch} {E_ : Env} {s : State} {M_ : MethodId} {args : Array Value} {B_ : List Frame} {T_ : Method} {K_ : Code} {Q : State → Prop} {ret : Option FieldType} (C : CX P_ s M_ args T_ K_ cL_law RL 9 ret) (hls : l.stackTraces = false) {dC : Nat → ClassId} {dI : Nat → Nat → Nat} {cI cL cJ : ClassId} {g1 g2 : Nat} {o sa ba a e0 : Nat} {t : Nat → Nat} {om : Nat} {tm : Nat → Nat} {oa b L ii : Nat} {xs : Nat → Int32} (hK : EV dC dI cI cL cJ s) (hZ : ST g1 g2 (fun q => s.heap.size ≤ q) s s.heap) (hX : XE (fun q => s.heap.size ≤ q) s s.heap) (hXs : va_X b L xs s s.heap) (hbl : b < s.heap.size) (hL : L ≤ 2048) (hii : ii + 4 ≤ L) {n len : Nat} {tx : Nat → Int32} {sv : Nat → LO} {x : PS} {f : Nat → Int64} {A : RW} {i : Nat → Int32} {h : Int64} {H : Heap} {locs : List Loc} (hI : LI dC dI cI cL cJ (fun q => s.heap.size ≤ q) s.heap o sa ba a e0 t om tm oa n len tx sv x f A i h H locs)
    (kk : ∀ (n len : Nat) (tx : Nat → Int32) (sv : Nat → LO) (x : PS) (f : Nat → Int64) (A : RW) (i : Nat → Int32) (h : Int64) (H : Heap) (locs : List Loc), LI dC dI cI cL cJ (fun q => s.heap.size ≤ q) s.heap o sa ba a e0 t om tm oa n len tx sv x f A i h H locs → G P_ l E_ room_1 s M_ args B_ T_ K_ H locs (92 + (ii + 4)) (8073 + 6 * (ii + 4)) Q [some (.ref b), some (.ref o), some (.ref om), some (.ref oa), some (.int (nI ii)), none, none, none, none] 1617 []) :
    G P_ l E_ room_1 s M_ args B_ T_ K_ H locs (92 + ii) (8073 + 6 * ii) Q [some (.ref b), some (.ref o), some (.ref om), some (.ref oa), some (.int (nI ii)), none, none, none, none] 1450 [] := by
  obtain ⟨hR, hP, hD, hS⟩ := hI
  obtain ⟨hn, hl, hi0, hi1, hki, hyr, htx, hsv⟩ := hR
  have hR : RLs n len tx sv A i := ⟨hn, hl, hi0, hi1, hki, hyr, htx, hsv⟩
  refine g_aload1 C dL_law_1450 ?_
  refine g_aload0 C dL_law_1451 ?_
  refine g_iload4 C dL_law_1452 ?_
  refine g_iconst C (nI 1) (by decide) dL_law_1454 ?_
  refine g_iaddN C dL_law_1455 ?_
  refine g_sld C hXs hbl (Nat.not_le.mpr hbl) hS (by omega) hL dL_law_1456 ?_
  refine g_aload3 C dL_law_1457 ?_
  refine g_mSW (As := [.ref o, .int (xs (ii + 1)), .ref oa]) C 3 rfl (c_L_clearYear (cd := k_p (xs (ii + 1))) (cls := (fun _ => XIO)) (W := BW cI cL o sa ba a e0 t n len (svg sv) tx (A 0 550) (q_nz (A 0)) (q_rw (q_nz (A 0)) 0) x sv) k2 rfl ⟨_, rfl⟩ BDM_bl (fun U h1 h2 h3 h4 h5 => ⟨h1, h2, h3, h4, h5⟩) (c_X2_clearYear hls hki)) wl_L_162 wt_L_clearYear wn_L wW_L_clearYear (by decide +kernel) ⟨rfl, rfl, by decide, by decide⟩ LHM_bl (LHM_at hK (P_r hP) (D_r hD).1 hZ hX hS (D_r hD).2) rfl rfl (by simp [Value.category]) ⟨by show _ ≤ 601024; omega, by show _ ≤ 7293034; omega⟩ hS (D_r hD).2 dL_law_1458 (fun H locs hP1 _ hk1 hS => ?_)
  obtain ⟨f1, hok, hP1, hD1⟩ := hP1
  obtain ⟨hP, hD⟩ := PD_put hP hD hP1 hD1 hk1
  refine g_istore5 C rfl dL_law_1461 ?_
  refine g_aload2 C dL_law_1463 ?_
  refine g_aload0 C dL_law_1464 ?_
  refine g_iload4 C dL_law_1465 ?_
  refine g_iconst C (nI 1) (by decide) dL_law_1467 ?_
  refine g_iaddN C dL_law_1468 ?_
  refine g_sld C hXs hbl (Nat.not_le.mpr hbl) hS (by omega) hL dL_law_1469 ?_
  refine g_mV (As := [.int (xs (ii + 1))]) C 1 rfl (c_X3_clearYear hki) wl_L_164 wi_X3_clearYear wv_X3_clearYear wn_X3 wc_X3_clearYear (by decide +kernel) ⟨rfl, rfl, by decide, by decide⟩ MDM_bl (va_recv (ci := 3) (q0 := 0) hK (P_l hP) rfl rfl) (MDM_at hK (P_l hP) (D_l hD).1) rfl rfl (by simp [Value.category]) ⟨by show _ ≤ 601024; omega, by show _ ≤ 7293034; omega⟩ hS (D_l hD).2 dL_law_1470 (fun H locs hP1 _ hk1 hS => ?_)
  obtain ⟨A', i', h', hP9, r0, r1, r2, r3, r4, r5⟩ := hP1
  obtain ⟨hP, hD⟩ := PD_join hP hD hP9 (List.Perm.refl _) hk1
  refine g_istore6 C rfl dL_law_1473 ?_
  refine g_aload2 C dL_law_1475 ?_
  refine g_mcV0 C hK (P_l hP) (c_X3_thrown) wl_L_93 wi_X3_thrown wv_X3_thrown wc_X3_thrown (by decide +kernel) ⟨rfl, rfl, by decide, by decide⟩ rfl (by simp [Value.category]) ⟨by show _ ≤ 601024; omega, by show _ ≤ 7293034; omega⟩ dL_law_1476 ?_
  rw [r5]
  refine g_iload5 C dL_law_1479 ?_
  refine g_icmp_eq C 1486 dL_law_1481 (by decide) (fun h1481 => ?_) (fun h1481 => ?_)
  · refine g_iload5 C dL_law_1486 ?_
    refine g_if_ne C 1503 dL_law_1488 (by decide) (fun h1488 => ?_) (fun h1488 => ?_)
    · have hz : ¬ k_p (xs (ii + 1)) = 0 := fun z => h1488 (by rw [z]; rfl)
      refine g_goto C 1617 dL_law_1503 (by decide) ?_
      rw [← r0] at hP hD
      refine g_fg5 (g_fg6 ?_)
      refine g_wd (k := 92 + (ii + 4)) (n := 8073 + 6 * (ii + 4)) (by omega) (by omega) ?_
      exact kk _ _ _ _ _ _ _ _ _ _ _ ⟨RLs_cong hR r0 r1 r2 r3 r4, hP, hD, hS⟩
    · have hcd9 : k_p (xs (ii + 1)) = 0 ∨ k_p (xs (ii + 1)) = 1 := k2
      have hz : k_p (xs (ii + 1)) = 0 := nI_z9 (by omega) h1488
      have hv9 := hok hz
      refine g_aload3 C dL_law_1491 ?_
      refine g_iconst C (nI 0) (by decide) dL_law_1492 ?_
      refine g_lald C hK (P_r hP) dL_law_1493 ?_
      rw [hv9]
      refine g_iload6 C dL_law_1494 ?_
      rw [if_pos hz]
      refine g_i2l C _ rfl dL_law_1496 ?_
      refine g_lcmp C dL_law_1497 ?_
      rw [cmp_self]
      refine g_if_eq C 1503 dL_law_1498 (by decide) (fun h1498 => ?_) (fun h1498 => ?_)
      · refine g_goto C 1617 dL_law_1503 (by decide) ?_
        rw [← r0] at hP hD
        refine g_fg5 (g_fg6 ?_)
        refine g_wd (k := 92 + (ii + 4)) (n := 8073 + 6 * (ii + 4)) (by omega) (by omega) ?_
        exact kk _ _ _ _ _ _ _ _ _ _ _ ⟨RLs_cong hR r0 r1 r2 r3 r4, hP, hD, hS⟩
      · exact absurd rfl h1498
  · exact absurd rfl h1481

set_option maxHeartbeats 4000000 in
set_option maxRecDepth 100000 in
theorem lw_c22 {P_ : Program} {l : Launch} {E_ : Env} {s : State} {M_ : MethodId} {args : Array Value} {B_ : List Frame} {T_ : Method} {K_ : Code} {Q : State → Prop} {ret : Option FieldType} (C : CX P_ s M_ args T_ K_ cL_law RL 9 ret) (hls : l.stackTraces = false) {dC : Nat → ClassId} {dI : Nat → Nat → Nat} {cI cL cJ : ClassId} {g1 g2 : Nat} {o sa ba a e0 : Nat} {t : Nat → Nat} {om : Nat} {tm : Nat → Nat} {oa b L ii : Nat} {xs : Nat → Int32} (hK : EV dC dI cI cL cJ s) (hZ : ST g1 g2 (fun q => s.heap.size ≤ q) s s.heap) (hX : XE (fun q => s.heap.size ≤ q) s s.heap) (hXs : va_X b L xs s s.heap) (hbl : b < s.heap.size) (hL : L ≤ 2048) (hii : ii + 4 ≤ L) {n len : Nat} {tx : Nat → Int32} {sv : Nat → LO} {x : PS} {f : Nat → Int64} {A : RW} {i : Nat → Int32} {h : Int64} {H : Heap} {locs : List Loc} (hI : LI dC dI cI cL cJ (fun q => s.heap.size ≤ q) s.heap o sa ba a e0 t om tm oa n len tx sv x f A i h H locs)
    (kk : ∀ (n len : Nat) (tx : Nat → Int32) (sv : Nat → LO) (x : PS) (f : Nat → Int64) (A : RW) (i : Nat → Int32) (h : Int64) (H : Heap) (locs : List Loc), LI dC dI cI cL cJ (fun q => s.heap.size ≤ q) s.heap o sa ba a e0 t om tm oa n len tx sv x f A i h H locs → G P_ l E_ room_1 s M_ args B_ T_ K_ H locs (92 + (ii + 4)) (8073 + 6 * (ii + 4)) Q [some (.ref b), some (.ref o), some (.ref om), some (.ref oa), some (.int (nI ii)), none, none, none, none] 1617 []) :
    G P_ l E_ room_1 s M_ args B_ T_ K_ H locs (92 + ii) (8073 + 6 * ii) Q [some (.ref b), some (.ref o), some (.ref om), some (.ref oa), some (.int (nI ii)), none, none, none, none] 1506 [] := by
  obtain ⟨hR, hP, hD, hS⟩ := hI
  obtain ⟨hn, hl, hi0, hi1, hki, hyr, htx, hsv⟩ := hR
  have hR : RLs n len tx sv A i := ⟨hn, hl, hi0, hi1, hki, hyr, htx, hsv⟩
  refine g_aload1 C dL_law_1506 ?_
  refine g_aload0 C dL_law_1507 ?_
  refine g_iload4 C dL_law_1508 ?_
  refine g_iconst C (nI 1) (by decide) dL_law_1510 ?_
  refine g_iaddN C dL_law_1511 ?_
  refine g_sld C hXs hbl (Nat.not_le.mpr hbl) hS (by omega) hL dL_law_1512 ?_
  refine g_aload3 C dL_law_1513 ?_
  refine g_mSW (As := [.ref o, .int (xs (ii + 1)), .ref oa]) C 3 rfl (c_L_cutsOff (cd := k_p (xs (ii + 1))) (cls := (fun _ => XIO)) (W := BW cI cL o sa ba a e0 t n len (svg sv) tx (A 0 550) (q_nz (A 0)) (q_rw (q_nz (A 0)) 0) x sv) k2 rfl ⟨_, rfl⟩ BDM_bl (fun U h1 h2 h3 h4 h5 => ⟨h1, h2, h3, h4, h5⟩) (c_X2_cutsOff hls hki)) wl_L_165 wt_L_cutsOff wn_L wW_L_cutsOff (by decide +kernel) ⟨rfl, rfl, by decide, by decide⟩ LHM_bl (LHM_at hK (P_r hP) (D_r hD).1 hZ hX hS (D_r hD).2) rfl rfl (by simp [Value.category]) ⟨by show _ ≤ 601024; omega, by show _ ≤ 7293034; omega⟩ hS (D_r hD).2 dL_law_1514 (fun H locs hP1 _ hk1 hS => ?_)
  obtain ⟨f1, hok, hP1, hD1⟩ := hP1
  obtain ⟨hP, hD⟩ := PD_put hP hD hP1 hD1 hk1
  refine g_istore5 C rfl dL_law_1517 ?_
  refine g_aload2 C dL_law_1519 ?_
  refine g_aload0 C dL_law_1520 ?_
  refine g_iload4 C dL_law_1521 ?_
  refine g_iconst C (nI 1) (by decide) dL_law_1523 ?_
  refine g_iaddN C dL_law_1524 ?_
  refine g_sld C hXs hbl (Nat.not_le.mpr hbl) hS (by omega) hL dL_law_1525 ?_
  refine g_mV (As := [.int (xs (ii + 1))]) C 1 rfl (c_X3_cutsOff hki) wl_L_167 wi_X3_cutsOff wv_X3_cutsOff wn_X3 wc_X3_cutsOff (by decide +kernel) ⟨rfl, rfl, by decide, by decide⟩ MDM_bl (va_recv (ci := 3) (q0 := 0) hK (P_l hP) rfl rfl) (MDM_at hK (P_l hP) (D_l hD).1) rfl rfl (by simp [Value.category]) ⟨by show _ ≤ 601024; omega, by show _ ≤ 7293034; omega⟩ hS (D_l hD).2 dL_law_1526 (fun H locs hP1 _ hk1 hS => ?_)
  obtain ⟨A', i', h', hP9, r0, r1, r2, r3, r4, r5⟩ := hP1
  obtain ⟨hP, hD⟩ := PD_join hP hD hP9 (List.Perm.refl _) hk1
  refine g_istore6 C rfl dL_law_1529 ?_
  refine g_aload2 C dL_law_1531 ?_
  refine g_mcV0 C hK (P_l hP) (c_X3_thrown) wl_L_93 wi_X3_thrown wv_X3_thrown wc_X3_thrown (by decide +kernel) ⟨rfl, rfl, by decide, by decide⟩ rfl (by simp [Value.category]) ⟨by show _ ≤ 601024; omega, by show _ ≤ 7293034; omega⟩ dL_law_1532 ?_
  rw [r5]
  refine g_iload5 C dL_law_1535 ?_
  refine g_icmp_eq C 1542 dL_law_1537 (by decide) (fun h1537 => ?_) (fun h1537 => ?_)
  · refine g_iload5 C dL_law_1542 ?_
    refine g_if_ne C 1559 dL_law_1544 (by decide) (fun h1544 => ?_) (fun h1544 => ?_)
    · have hz : ¬ k_p (xs (ii + 1)) = 0 := fun z => h1544 (by rw [z]; rfl)
      refine g_goto C 1617 dL_law_1559 (by decide) ?_
      rw [← r0] at hP hD
      refine g_fg5 (g_fg6 ?_)
      refine g_wd (k := 92 + (ii + 4)) (n := 8073 + 6 * (ii + 4)) (by omega) (by omega) ?_
      exact kk _ _ _ _ _ _ _ _ _ _ _ ⟨RLs_cong hR r0 r1 r2 r3 r4, hP, hD, hS⟩
    · have hcd9 : k_p (xs (ii + 1)) = 0 ∨ k_p (xs (ii + 1)) = 1 := k2
      have hz : k_p (xs (ii + 1)) = 0 := nI_z9 (by omega) h1544
      have hv9 := hok hz
      refine g_aload3 C dL_law_1547 ?_
      refine g_iconst C (nI 0) (by decide) dL_law_1548 ?_
      refine g_lald C hK (P_r hP) dL_law_1549 ?_
      rw [hv9]
      refine g_iload6 C dL_law_1550 ?_
      rw [if_pos hz]
      refine g_i2l C _ rfl dL_law_1552 ?_
      refine g_lcmp C dL_law_1553 ?_
      rw [cmp_self]
      refine g_if_eq C 1559 dL_law_1554 (by decide) (fun h1554 => ?_) (fun h1554 => ?_)
      · refine g_goto C 1617 dL_law_1559 (by decide) ?_
        rw [← r0] at hP hD
        refine g_fg5 (g_fg6 ?_)
        refine g_wd (k := 92 + (ii + 4)) (n := 8073 + 6 * (ii + 4)) (by omega) (by omega) ?_
        exact kk _ _ _ _ _ _ _ _ _ _ _ ⟨RLs_cong hR r0 r1 r2 r3 r4, hP, hD, hS⟩
      · exact absurd rfl h1554
  · exact absurd rfl h1537
