/-! methods that change the cells of A: their ends, their calls; a world's rows by places up to their lengths -/
theorem cell_ext {cA : ClassId} {n : Nat} {f g : Nat → Int32} (h : ∀ j, j < n → f j = g j) : vp_cell cA (n, .inl f) = vp_cell cA (n, .inl g) := by
  rw [vp_cell_i, vp_cell_i]
  unfold arrV
  congr 1
  congr 1
  funext j
  show Value.int (f j.val) = Value.int (g j.val)
  rw [h j.val j.isLt]
theorem va_P.exi {D : va_G} {cl : List vw_C} {ws : va_W} {H : Heap} (h : va_P D cl ws H) (q0 : Nat) {a : Nat} {cA : ClassId} {n : Nat} {f : Nat → Int32} (g : Nat → Int32) (he : ws[q0]? = some (a, .inl (cA, n, .inl f))) (hg : ∀ j, j < n → f j = g j) : va_P D cl (ws.set q0 (a, .inl (cA, n, .inl g))) H := by
  intro k q hk
  by_cases e : q0 = k
  · subst e
    have hlt : q0 < ws.length := (List.getElem?_eq_some_iff.mp he).1
    rw [List.getElem?_set_self hlt] at hk
    cases hk
    have h1 := h q0 _ he
    show H[a]? = some (vp_cell cA (n, .inl g))
    rw [← cell_ext hg]
    exact h1
  · rw [List.getElem?_set_ne e] at hk
    exact h k q hk
theorem va_D.fst {A : Nat → Prop} {ws ws' : va_W} (h : va_D A ws) (e : ws'.map Prod.fst = ws.map Prod.fst) : va_D A ws' := by
  have key : ∀ (k : Nat) (q : Nat × va_E), ws'[k]? = some q → ∃ q2 : Nat × va_E, ws[k]? = some q2 ∧ q2.1 = q.1 := by
    intro k q hk
    have h1 : (ws'.map Prod.fst)[k]? = some q.1 := by rw [List.getElem?_map, hk]; rfl
    rw [e, List.getElem?_map] at h1
    cases h2 : ws[k]? with
    | none => rw [h2] at h1; cases h1
    | some q2 => rw [h2] at h1; exact ⟨q2, rfl, Option.some.inj h1⟩
  refine ⟨fun i j p q hi hj hpq => ?_, fun k q hk => ?_⟩
  · obtain ⟨p2, h1, h2⟩ := key i p hi
    obtain ⟨q2, h3, h4⟩ := key j q hj
    exact h.1 i j p2 q2 h1 h3 (by rw [h2, h4, hpq])
  · obtain ⟨q2, h1, h2⟩ := key k q hk
    rw [← h2]
    exact h.2 k q2 h1
/-- a method that answers v (or nothing) and leaves a heap with Post, cells outside A unchanged -/
def bq_M (v : Option Value) (Post : Heap → Prop) (A : Nat → Prop) : Array Value → State → Outcome → State → Prop := fun _ st oc t => oc = .returned v ∧ Post t.heap ∧ va_F A st t
abbrev LA (a : Nat) (t : Nat → Nat) : List Nat := [a, t 0, t 1, t 2, t 3, t 4, t 5, t 6, t 7, t 8, t 9]
abbrev MA (o : Nat) (t : Nat → Nat) : List Nat := [o, t 0, t 1, t 2, t 3, t 4, t 5, t 6, t 7, t 8]
def LDM (dC : Nat → ClassId) (dI : Nat → Nat → Nat) (cI cL cJ : ClassId) (g1 g2 : Nat) (a : Nat) (t : Nat → Nat) (y : Int32) (d : Nat → Nat → Int32) (r : Int64) (U : State) : Prop :=
  va_P (dC, dI) vwCl (LW cI a t y d r) U.heap ∧ va_D (fun q => q ∈ LA a t) (LW cI a t y d r) ∧ EV dC dI cI cL cJ U ∧ ST g1 g2 (fun q => q ∈ LA a t) U U.heap
def MDM (dC : Nat → ClassId) (dI : Nat → Nat → Nat) (cI cL cJ : ClassId) (o : Nat) (t : Nat → Nat) (B : Nat → Nat → Int32) (i : Nat → Int32) (h : Int64) (U : State) : Prop :=
  va_P (dC, dI) vwCl (MW cI o t B i h) U.heap ∧ va_D (fun q => q ∈ MA o t) (MW cI o t B i h) ∧ EV dC dI cI cL cJ U
section WM
variable {p : Program} {l : Launch} {e : Env} {R : Room} {s : State} {m : MethodId} {args : Array Value} {below : List Frame} {meth : Method} {c : Code} {H : Heap} {locs : List Loc} {cells slots : Nat} {Q : State → Prop}
variable {cc : ByteArray} {own : String} {nL pc : Nat} {ret : Option FieldType} {vs : List (Option Value)} {st st0 : List Value}
variable {D : va_G} {cl : List vw_C} {A A0 A1 : Nat → Prop} {tys : List (ClassId × FieldType)} {ws : va_W} {H0 : Heap}
variable {dC : Nat → ClassId} {dI : Nat → Nat → Nat} {cI cL cJ : ClassId} {g1 g2 : Nat}
theorem LDM_bl {a : Nat} {t : Nat → Nat} {y : Int32} {d : Nat → Nat → Int32} {r : Int64} : Bl (LDM dC dI cI cL cJ g1 g2 a t y d r) := fun U g mk v h =>
  ⟨h.1, h.2.1, va_K.moved (u := U) (U := U.calling g mk v) (Vm.Alike.refl U.vm) h.2.2.1, h.2.2.2.moved (u := U) (U := U.calling g mk v) (Vm.Alike.refl U.vm)⟩
theorem MDM_bl {o : Nat} {t : Nat → Nat} {B : Nat → Nat → Int32} {i : Nat → Int32} {h : Int64} : Bl (MDM dC dI cI cL cJ o t B i h) := fun U g mk v h =>
  ⟨h.1, h.2.1, va_K.moved (u := U) (U := U.calling g mk v) (Vm.Alike.refl U.vm) h.2.2⟩
theorem g_iretM (C : CX p s m args meth c cc own nL (some .int)) {x y : Int32} {Post : Heap → Prop} {mc ms : Nat} (hP : Post H) (hS : va_S A s.heap H locs) (hv : x = y) (hd : decode cc pc = .ok (.ireturn, 1)) : G p l e R s m args below meth c H locs mc ms (MQ below (bq_M (some (.int y)) Post A) args s mc ms A) vs pc [.int x] := by
  subst hv
  exact fun ls h => W.iret C.1 C.2.1 C.2.2.2.2.2.1 (fun t ht hW => ⟨rfl, by rw [ht]; exact hP, hS.F ht⟩) hS.2.2 hd C.2.2.2.2.2.2
theorem g_zretM (C : CX p s m args meth c cc own nL (some .boolean)) {x : Int32} {P : Prop} [Decidable P] {Post : Heap → Prop} {mc ms : Nat} (hP : Post H) (hS : va_S A s.heap H locs) (hv : x = bI P) (hd : decode cc pc = .ok (.ireturn, 1)) : G p l e R s m args below meth c H locs mc ms (MQ below (bq_M (some (.int (bI P))) Post A) args s mc ms A) vs pc [.int x] := by
  subst hv
  exact fun ls h => W.zret C.1 C.2.1 C.2.2.2.2.2.1 (bI_z P) (fun t ht hW => ⟨rfl, by rw [ht]; exact hP, hS.F ht⟩) hS.2.2 hd C.2.2.2.2.2.2
theorem g_lretM (C : CX p s m args meth c cc own nL (some .long)) {x y : Int64} {Post : Heap → Prop} {mc ms : Nat} (hP : Post H) (hS : va_S A s.heap H locs) (hv : x = y) (hd : decode cc pc = .ok (.lreturn, 1)) : G p l e R s m args below meth c H locs mc ms (MQ below (bq_M (some (.long y)) Post A) args s mc ms A) vs pc [.long x] := by
  subst hv
  exact fun ls h => W.lret C.1 C.2.1 C.2.2.2.2.2.1 (fun t ht hW => ⟨rfl, by rw [ht]; exact hP, hS.F ht⟩) hS.2.2 hd C.2.2.2.2.2.2
theorem g_dretM (C : CX p s m args meth c cc own nL (some .double)) {x y : UInt64} {Post : Heap → Prop} {mc ms : Nat} (hP : Post H) (hS : va_S A s.heap H locs) (hv : x = y) (hd : decode cc pc = .ok (.dreturn, 1)) : G p l e R s m args below meth c H locs mc ms (MQ below (bq_M (some (.double y)) Post A) args s mc ms A) vs pc [.double x] := by
  subst hv
  exact fun ls h => W.dret C.1 C.2.1 C.2.2.2.2.2.1 (fun t ht hW => ⟨rfl, by rw [ht]; exact hP, hS.F ht⟩) hS.2.2 hd C.2.2.2.2.2.2
theorem g_vretM (C : CX p s m args meth c cc own nL none) {Post : Heap → Prop} {mc ms : Nat} (hP : Post H) (hS : va_S A s.heap H locs) (hd : decode cc pc = .ok (.return_, 1)) : G p l e R s m args below meth c H locs mc ms (MQ below (bq_M none Post A) args s mc ms A) vs pc [] :=
  fun ls h => W.vret C.1 C.2.1 C.2.2.2.2.2.1 (fun t ht hW => ⟨rfl, by rw [ht]; exact hP, hS.F ht⟩) hS.2.2 hd C.2.2.2.2.2.2
/-- a call that changes cells of A1 -/
theorem bq_cm {mc ms : Nat} {v : Option Value} {a : Array Value} {Post : Heap → Prop} {g : JFrame} (hr : va_Run p l e R s m args below meth c H locs cells slots mc ms g st (bq_M v Post A1 a) A1) (hS : va_S A0 H0 H locs) (hA : ∀ q, q < H.size → A1 q → A0 q) (hf : ∀ q, A1 q → A0 q)
    (kk : ∀ (H1 : Heap) (locs1 : List Loc), Post H1 → H.size ≤ H1.size → (∀ q : Nat, q < H.size → ¬ A1 q → H1[q]? = H[q]?) → va_S A0 H0 H1 locs1 → W p l e R s m args below meth c H1 locs1 (cells + mc) (slots + ms) Q { g with pc := g.pc + 3, stack := v.toList ++ st }) : W p l e R s m args below meth c H locs cells slots Q g := by
  intro T hT X
  obtain ⟨v', st₀, t, T', L, h0, X', hL, e1, e2, ⟨hv, hp, hz, hk⟩, st⟩ := hr T hT X
  cases hv
  rw [h0] at hz hk
  obtain ⟨t2, a1, b1⟩ := kk T'.heap (locs ++ L) (by rw [e1]; exact hp) (by rw [e1]; exact hz) (fun q h1 h2 => by rw [e1]; exact hk q h1 h2)
    ⟨Nat.le_trans hS.1 (by rw [e1]; exact hz), fun q h1 h2 => by rw [e1, hk q (Nat.lt_of_lt_of_le h1 hS.1) (fun z => h2 (hA q (Nat.lt_of_lt_of_le h1 hS.1) z))]; exact hS.2.1 q h1 h2, fun q hq => by
      rcases List.mem_append.mp hq with h | h
      · exact hS.2.2 q h
      · exact hf _ (hL q h)⟩ T' rfl X'
  exact ⟨t2, st t2 a1, b1⟩
/-- a virtual call that changes cells of A1 -/
theorem g_mV (C : CX p s m args meth c cc own nL ret) {bytes : ByteArray} {maxL2 index mc ms : Nat} {ret2 : Option FieldType} {rm : Room} {y : MethodName} {b : Nat} {As : List Value} {v : Option Value} {Cn : String} {Pre : State → Prop} {Post : Heap → Prop} (n0 : Nat) (hn0 : As.length = n0)
    (hM : Met l y (.code y bytes maxL2 ret2 :: WG) rm (va_Pc (.ref b :: As) Pre) (bq_M v Post A1) mc ms A1)
    (hl : Cond.methodLink own index y ∈ WG) (hi : Cond.instanceMethod y ∈ WG) (hv : Cond.selects Cn y y ∈ WG) (hn : Cond.initialized Cn ∈ WG) (hc : Cond.code y bytes maxL2 ret2 ∈ WG)
    (hy : y.cls = Cn ∧ y.cls ≠ "java/lang/invoke/MethodHandle" ∧ y.cls ≠ "java/lang/invoke/VarHandle" ∧ (parseMethodDescriptor y.desc).map (fun d => d.parameters.length) = some n0)
    (hrm : rm.cells = mc ∧ rm.slots = ms ∧ rm.frames + 1 ≤ R.frames ∧ 8 + (maxL2 + 11) + rm.locals ≤ R.locals) (hbl : Bl Pre)
    (hrv : ∃ cell : Cell, H[b]? = some cell ∧ cell.vm.isStatics = false ∧ s.vm.findClass Cn = some cell.cls) (hpre : ∀ U : State, U.heap = H → s.WarmedH U.vm → Pre U)
    (hvl : vs.length = nL) (hst : st0 = As.reverse ++ .ref b :: st) (hcat : (st.map fun v => v.category).sum ≤ 8) (hcs : cells + mc ≤ R.cells ∧ slots + ms ≤ R.slots) (hS : va_S A0 H0 H locs) (hA : ∀ q, A1 q → A0 q) (hd : decode cc pc = .ok (.invokevirtual index, 3))
    (kk : ∀ (H1 : Heap) (locs1 : List Loc), Post H1 → H.size ≤ H1.size → (∀ q : Nat, q < H.size → ¬ A1 q → H1[q]? = H[q]?) → va_S A0 H0 H1 locs1 → G p l e R s m args below meth c H1 locs1 (cells + mc) (slots + ms) Q vs (pc + 3) (v.toList ++ st)) : G p l e R s m args below meth c H locs cells slots Q vs pc st0 := by
  subst hst
  subst hn0
  intro ls h
  exact bq_cm (va_runV (As := As) (rest := st) (Ts := WG) ⟨C.1, C.2.1, C.2.2.1, C.2.2.2.1, C.2.2.2.2.1⟩ hM (cwV As.length C.2.2.2.2.1 (WG_gi (WG_cons hl (WG_cons hi (WG_cons hv (WG_cons hn (WG_cons hc WG_self)))))) rfl hrm.1 hrm.2.1 hy ⟨hrm.2.2.1, hrm.2.2.2⟩) ⟨fun a U g mk q => ⟨q.1, hbl U g mk a q.2⟩, hrv, fun U hU hW => ⟨rfl, hpre U hU hW⟩⟩ rfl rfl (h.1.trans hvl) rfl (lv_room hcat) hd hcs) hS (fun q _ => hA q) hA (fun H1 locs1 h1 h2 h3 h4 => kk H1 locs1 h1 h2 h3 h4 ls h)
theorem LDM_at {a : Nat} {t : Nat → Nat} {y : Int32} {d : Nat → Nat → Int32} {r : Int64} (hK : EV dC dI cI cL cJ s) (hP : va_P (dC, dI) vwCl (LW cI a t y d r) H) (hD : va_D (fun q => q ∈ LA a t) (LW cI a t y d r)) (hZ : ST g1 g2 A s s.heap) (hS : va_S A s.heap H locs) (hA : ∀ q, q ∈ LA a t → A q) : ∀ U : State, U.heap = H → s.WarmedH U.vm → LDM dC dI cI cL cJ g1 g2 a t y d r U := by
  intro U hU hW
  subst hU
  exact ⟨hP, hD, va_K.moved hW.alike hK, ((hZ.kept hS.2.1).moved hW.alike).narrow hA⟩
theorem MDM_at {o : Nat} {t : Nat → Nat} {B : Nat → Nat → Int32} {i : Nat → Int32} {h : Int64} (hK : EV dC dI cI cL cJ s) (hP : va_P (dC, dI) vwCl (MW cI o t B i h) H) (hD : va_D (fun q => q ∈ MA o t) (MW cI o t B i h)) : ∀ U : State, U.heap = H → s.WarmedH U.vm → MDM dC dI cI cL cJ o t B i h U := by
  intro U hU hW
  subst hU
  exact ⟨hP, hD, va_K.moved hW.alike hK⟩
/-- System.arraycopy of a whole row -/
theorem g_acopy (C : CX p s m args meth c cc own nL ret) {index : Nat} (hl : Cond.methodLink own index arraycopyName ∈ WG) (hst2 : Cond.static arraycopyName ∈ WG) (hi : Cond.initialized "java/lang/System" ∈ WG) (hnat : (Cond.native arraycopyName).before args s = true)
    (hK : va_K D cl tys s) (hP : va_P D cl ws H) (hD : va_D A ws) (hS : va_S A H0 H locs) (q0 q1 t0 : Nat) {a a0 : Nat} {c0 : ClassId} {n : Nat} {f g : Nat → Int32} (ha0 : ws[q0]? = some (a0, .inl (c0, n, .inl f))) (ha1 : ws[q1]? = some (a, .inl (c0, n, .inl g))) (ht0 : tys[t0]? = some (c0, .int)) (hn : n < 2147483648) (hvl : vs.length = nL)
    (hR : 1 ≤ R.frames ∧ (st.map fun v => v.category).sum + (nativeFrameWords "java/lang/System" "arraycopy" 5 + 11) ≤ R.locals) (hd : decode cc pc = .ok (.invokestatic index, 3))
    (kk : ∀ (H1 : Heap) (locs1 : List Loc), va_P D cl (ws.set q1 (a, .inl (c0, n, .inl f))) H1 → va_D A (ws.set q1 (a, .inl (c0, n, .inl f))) → va_S A H0 H1 locs1 → G p l e R s m args below meth c H1 locs1 cells slots Q vs (pc + 3) st) : G p l e R s m args below meth c H locs cells slots Q vs pc (.int (nI n) :: .int (nI 0) :: .ref a :: .int (nI 0) :: .ref a0 :: st) := by
  intro ls h
  have e1 : (nI n).toNatClampNeg = n := nI_clamp hn
  have e0 : (nI 0).toNatClampNeg = 0 := nI_clamp (by decide)
  refine va_copyi (n0 := n) (n1 := n) C.1 C.2.1 (C.2.2.1.trans (hvl.symm.trans h.1.symm)) C.2.2.2.1 (C.2.2.2.2.1 _ hl) hnat (C.2.2.2.2.1 _ hst2) (C.2.2.2.2.1 _ hi) hK hP hD hS q0 q1 t0 t0 ha0 ha1 ht0 ht0 rfl (nI_pos (by decide)) (nI_pos (by decide)) (nI_pos hn) (by rw [e0, e1]; omega) (by rw [e0, e1]; omega) (fun i hi => rfl) hR.1 hR.2 hd (fun H1 locs1 h1 h2 h3 => ?_)
  rw [e0, e1] at h1 h2
  have hq1 : q1 < ws.length := (List.getElem?_eq_some_iff.mp ha1).1
  have h4 := h1.exi q1 f (List.getElem?_set_self hq1) (fun j hj => by show (if 0 ≤ j ∧ j < 0 + n then f (0 + (j - 0)) else g j) = f j; rw [if_pos ⟨Nat.zero_le j, by omega⟩, Nat.zero_add, Nat.sub_zero])
  rw [List.set_set] at h4
  exact kk H1 locs1 h4 (h2.fst (by rw [List.map_set, List.map_set])) h3 ls h
end WM
