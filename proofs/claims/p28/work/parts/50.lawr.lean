/-! the law's helpers: methods with a table of handlers -/
theorem bl_of {l : Launch} {y : MethodName} {cc : ByteArray} {nL : Nat} {ret : Option FieldType} {hh : List (Nat × Nat × Nat × Nat)} {rm : Room} {av : List Value} {Pre : State → Prop} {Qc : Array Value → State → Outcome → State → Prop} {mc ms : Nat} {free : Addr → Prop} (vs : List (Option Value)) (hvs : en 0 vs = lv_args 0 av) (hlen : vs.length = nL) (hle : (lg_sl av).length ≤ nL) (hy : plainName y.cls = true)
    (body : ∀ (p : Program) (e : Env) (s : State) (m : MethodId) (below : List Frame) (meth : Method) (c : Code), CX p s m av.toArray meth c cc y.cls nL ret → c.exceptionTable.toList = tableOf hh → Pre s → G p l e rm s m av.toArray below meth c s.heap [] 0 0 (MQ below Qc av.toArray s mc ms free) vs 0 []) :
    Met l y (.codeWith y cc nL ret hh :: WG) rm (va_Pc av Pre) Qc mc ms free := by
  refine va_MetW (cc := cc) (maxL := nL) (ret := ret) (hh := hh) hy rfl ?_
  intro p e s m args below meth c s₁ B hml hv
  obtain ⟨rfl, hv⟩ := hv
  have hts := atoms_spec (ws := .codeWith y cc nL ret hh :: WG) B.pre
  have hl := lv_entry av (n := nL) hle
  have K := body p e s m below meth c ⟨B.exec, B.bytes, hml, findClass_of_methodNamed B.named, fun w h => hts w (List.mem_cons_of_mem _ h), B.returns, B.notSynchronized⟩ (vx_table (x := y) B (hts _ List.mem_cons_self)) hv
  have h2 := K _ (by rw [hvs, hlen]; exact hl)
  rw [lg_entry_eq]
  exact h2
def GX (p : Program) (l : Launch) (e : Env) (R : Room) (s : State) (m : MethodId) (args : Array Value) (below : List Frame) (meth : Method) (c : Code) (H : Heap) (locs : List Loc) (cells slots : Nat) (Q : State → Prop) (vs : List (Option Value)) (pc : Nat) (st : List Value) (q : Addr) : Prop :=
  ∀ ls : Array Slot, lv_has ls vs.length (en 0 vs) → vx_W p l e R s m args below meth c H locs cells slots Q (F0 m pc ls st) q
section LR
variable {p : Program} {l : Launch} {e : Env} {R : Room} {s : State} {m : MethodId} {args : Array Value} {below : List Frame} {meth : Method} {c : Code} {H : Heap} {locs : List Loc} {cells slots : Nat} {Q : State → Prop}
variable {cc : ByteArray} {own : String} {nL pc : Nat} {ret : Option FieldType} {vs : List (Option Value)} {st st0 : List Value} {A A0 A1 : Nat → Prop} {D : va_G} {cl : List vw_C} {ws : va_W} {H0 : Heap} {cI cL cJ : ClassId}
/-- a virtual call that may throw -/
theorem g_xV (C : CX p s m args meth c cc own nL ret) {bytes : ByteArray} {maxL2 index mc ms : Nat} {ret2 : Option FieldType} {rm : Room} {y : MethodName} {b : Nat} {As : List Value} {v : Option Value} {Cn : String} {Pre : State → Prop} {cls : Nat → String} {cd : Nat} {Post PX : Heap → Prop} (n0 : Nat) (hn0 : As.length = n0)
    (hM : vx_Met l y (.code y bytes maxL2 ret2 :: WG) rm (va_Pc (.ref b :: As) Pre) (bx_Q cd v Post A1) (bx_C cls cd PX A1) mc ms A1)
    (hl : Cond.methodLink own index y ∈ WG) (hi : Cond.instanceMethod y ∈ WG) (hv : Cond.selects Cn y y ∈ WG) (hn : Cond.initialized Cn ∈ WG) (hc : Cond.code y bytes maxL2 ret2 ∈ WG)
    (hy : y.cls = Cn ∧ y.cls ≠ "java/lang/invoke/MethodHandle" ∧ y.cls ≠ "java/lang/invoke/VarHandle" ∧ (parseMethodDescriptor y.desc).map (fun d => d.parameters.length) = some n0)
    (hrm : rm.cells = mc ∧ rm.slots = ms ∧ rm.frames + 1 ≤ R.frames ∧ 8 + (maxL2 + 11) + rm.locals ≤ R.locals) (hbl : Bl Pre)
    (hrv : ∃ cell : Cell, H[b]? = some cell ∧ cell.vm.isStatics = false ∧ s.vm.findClass Cn = some cell.cls) (hpre : ∀ U : State, U.heap = H → s.WarmedH U.vm → Pre U)
    (hvl : vs.length = nL) (hst : st0 = As.reverse ++ .ref b :: st) (hcat : (st.map fun v => v.category).sum ≤ 8) (hcs : cells + mc ≤ R.cells ∧ slots + ms ≤ R.slots) (hS : va_S A0 H0 H locs) (hA : ∀ q, A1 q → A0 q) (hd : decode cc pc = .ok (.invokevirtual index, 3))
    (kk : ∀ (H1 : Heap) (locs1 : List Loc), cd = 0 → Post H1 → H.size ≤ H1.size → (∀ q : Nat, q < H.size → ¬ A1 q → H1[q]? = H[q]?) → va_S A0 H0 H1 locs1 → G p l e R s m args below meth c H1 locs1 (cells + mc) (slots + ms) Q vs (pc + 3) (v.toList ++ st))
    (kx : ∀ (H1 : Heap) (locs1 : List Loc) (q : Addr) (ce : Cell), cd ≠ 0 → PX H1 → H.size ≤ H1.size → (∀ q : Nat, q < H.size → ¬ A1 q → H1[q]? = H[q]?) → va_S A0 H0 H1 locs1 → H1[q]? = some ce → ce.vm = .none → s.vm.findClass (cls cd) = some ce.cls → GX p l e R s m args below meth c H1 locs1 (cells + mc) (slots + ms) Q vs pc st q) : G p l e R s m args below meth c H locs cells slots Q vs pc st0 := by
  subst hst
  subst hn0
  intro ls h T hT X
  have hr := vx_runV (p := p) (e := e) (R := R) (below := below) (meth := meth) (H := H) (locs := locs) (cells := cells) (slots := slots) (g := F0 m pc ls (As.reverse ++ .ref b :: st)) (As := As) (rest := st) (Ts := WG) ⟨C.1, C.2.1, C.2.2.1, C.2.2.2.1, C.2.2.2.2.1⟩ hM (cwV As.length C.2.2.2.2.1 (WG_gi (WG_cons hl (WG_cons hi (WG_cons hv (WG_cons hn (WG_cons hc WG_self)))))) rfl hrm.1 hrm.2.1 hy ⟨hrm.2.2.1, hrm.2.2.2⟩) ⟨fun a U g mk q => ⟨q.1, hbl U g mk a q.2⟩, hrv, fun U hU hW => ⟨rfl, hpre U hU hW⟩⟩ rfl rfl (h.1.trans hvl) rfl (lv_room hcat) hd hcs
  rcases hr T hT X with ⟨v', st₀, t, T', L, h0, X', hL, e1, e2, ⟨hcd, hv', hp, hF⟩, stp⟩ | ⟨q, st₀, t, T', L, E, ce, h0, X', hL, e1, e2, ⟨hcd, hEq, hp, hF⟩, hce, hcv, hcl, stp⟩
  · cases hv'
    obtain ⟨k1, k2, k3⟩ := vx_keep h0 e1 hS (fun q _ => hA q) hA hL hF
    obtain ⟨t2, a1, b1⟩ := kk T'.heap (locs ++ L) hcd (by rw [e1]; exact hp) k1 k2 k3 ls h T' rfl X'
    exact ⟨t2, stp t2 a1, b1⟩
  · obtain ⟨k1, k2, k3⟩ := vx_keep h0 e1 hS (fun q _ => hA q) hA hL hF
    obtain ⟨t2, a1, b1⟩ := kx T'.heap (locs ++ L) q ce hcd (by rw [e1]; exact hp) k1 k2 k3 (by rw [e1]; exact hce) hcv (by rw [← hEq]; exact hcl) ls h T' rfl X'
    exact ⟨t2, stp.trans a1, b1⟩
/-- caught by the row x of the method's own table -/
theorem g_catch (C : CX p s m args meth c cc own nL ret) {E name : String} {ce : Cell} {q : Addr} (pre : List ExceptionTableEntry) (x : ExceptionTableEntry) (suf : List ExceptionTableEntry) (hsplit : c.exceptionTable.toList = pre ++ x :: suf) (hX : XE A0 s s.heap)
    (hpass : ∀ z ∈ pre, z.catchType ≠ 0 ∧ ∃ nm : String, Cond.classLink own z.catchType nm ∈ WG ∧ (E, nm) ∈ NCL) (hx : covers x pc = true) (h0 : x.catchType ≠ 0) (hl : Cond.classLink own x.catchType name ∈ WG) (hcast : Cond.castable E name ∈ NB) (hcell : H[q]? = some ce) (hv : ce.vm = .none) (hcl : s.vm.findClass E = some ce.cls)
    (kk : G p l e R s m args below meth c H locs cells slots Q vs x.handlerPc [.ref q]) : GX p l e R s m args below meth c H locs cells slots Q vs pc st q := fun ls h =>
  vx_catch C.2.2.2.1 pre x suf hsplit (fun z hz => by
    obtain ⟨a, nm, b, d⟩ := hpass z hz
    exact Or.inr ⟨a, nm, C.2.2.2.2.1 _ b, hX.2.2.1 _ d⟩) hx h0 (C.2.2.2.2.1 _ hl) (va_tabs (NB_face _ hcast).2 rfl (hX.1 _ hcast)) hcell hv hcl (kk ls h)
abbrev JR (cJ : ClassId) (oa : Nat) (f : Nat → Int64) : Nat × va_E := (oa, .inl (cJ, 1, .inr (.inl f)))
theorem g_last (C : CX p s m args meth c cc own nL ret) (hK : va_K D cl (tyL cI cL cJ) s) {oa : Nat} {f : Nat → Int64} (hP : va_P D cl (JR cJ oa f :: ws) H) (hD : va_D A (JR cJ oa f :: ws)) (hS : va_S A H0 H locs) {x : Int64} (hd : decode cc pc = .ok (.lastore, 1))
    (kk : ∀ (H1 : Heap) (locs1 : List Loc), va_P D cl (JR cJ oa (vp_updL f 0 x) :: ws) H1 → va_D A (JR cJ oa (vp_updL f 0 x) :: ws) → va_S A H0 H1 locs1 → G p l e R s m args below meth c H1 locs1 cells slots Q vs (pc + 1) st) : G p l e R s m args below meth c H locs cells slots Q vs pc (.long x :: .int (nI 0) :: .ref oa :: st) := fun ls h =>
  va_last C.1 C.2.1 hK hP hD hS 0 2 rfl rfl (vp_in_nI (by decide) (by decide)) hd (fun H1 locs1 h1 h2 h3 => kk H1 locs1 h1 h2 h3 ls h)
theorem g_lald (C : CX p s m args meth c cc own nL ret) (hK : va_K D cl (tyL cI cL cJ) s) {oa : Nat} {f : Nat → Int64} (hP : va_P D cl (JR cJ oa f :: ws) H) (hd : decode cc pc = .ok (.laload, 1))
    (kk : G p l e R s m args below meth c H locs cells slots Q vs (pc + 1) (.long (f 0) :: st)) : G p l e R s m args below meth c H locs cells slots Q vs pc (.int (nI 0) :: .ref oa :: st) := fun ls h =>
  va_lald C.1 C.2.1 hK hP 0 2 rfl rfl (vp_in_nI (by decide) (by decide)) hd (kk ls h)
theorem D_r {u v : va_W} (hD : va_D A (u ++ v)) : va_D (fun q => q ∈ v.map Prod.fst) v ∧ ∀ q, q ∈ v.map Prod.fst → A q := by
  have h := D_l (D_perm List.perm_append_comm hD)
  exact h
/-- the last part of a world changed within its own cells -/
theorem PD_put {u W W1 : va_W} {H1 : Heap} (hP : va_P D cl (u ++ W) H) (hD : va_D A (u ++ W)) (hv : va_P D cl W1 H1) (hd : va_D (fun q => q ∈ W.map Prod.fst) W1) (hk : ∀ q : Nat, q < H.size → ¬ q ∈ W.map Prod.fst → H1[q]? = H[q]?) : va_P D cl (u ++ W1) H1 ∧ va_D A (u ++ W1) := by
  obtain ⟨h1, h2⟩ := va_D_iff.mp hD
  obtain ⟨d1, d2⟩ := va_D_iff.mp hd
  rw [List.map_append] at h1
  obtain ⟨n1, n2, n3⟩ := List.nodup_append.mp h1
  have hn : ∀ q ∈ u, ¬ q.1 ∈ W.map Prod.fst := fun q hq z => n3 q.1 (List.mem_map.mpr ⟨q, hq, rfl⟩) q.1 z rfl
  refine ⟨va_P_mem.mpr (fun q hq => ?_), va_D_iff.mpr ⟨?_, fun q hq => ?_⟩⟩
  · rcases List.mem_append.mp hq with hq | hq
    · have hq2 := va_P_mem.mp hP q (List.mem_append_left _ hq)
      exact hq2.kept (hk q.1 hq2.lt (hn q hq))
    · exact va_P_mem.mp hv q hq
  · rw [List.map_append]
    refine List.nodup_append.mpr ⟨n1, d1, fun x hx y hy e => ?_⟩
    subst e
    obtain ⟨q, hq, rfl⟩ := List.mem_map.mp hx
    obtain ⟨z, hz, e⟩ := List.mem_map.mp hy
    exact hn q hq (by rw [← e]; exact d2 z hz)
  · rcases List.mem_append.mp hq with hq | hq
    · exact h2 q (List.mem_append_left _ hq)
    · obtain ⟨z, hz, e⟩ := List.mem_map.mp (d2 q hq)
      rw [← e]
      exact h2 z (List.mem_append_right _ hz)
/-- what a helper of the law wants: its row for the answer, the class's world W -/
def LHM (dC : Nat → ClassId) (dI : Nat → Nat → Nat) (cI cL cJ : ClassId) (g1 g2 : Nat) (A : Nat → Prop) (oa : Nat) (f : Nat → Int64) (W : va_W) (U : State) : Prop :=
  va_P (dC, dI) vwCl (JR cJ oa f :: W) U.heap ∧ va_D A (JR cJ oa f :: W) ∧ EV dC dI cI cL cJ U ∧ ST g1 g2 A U U.heap ∧ XE A U U.heap
theorem LHM_bl {dC : Nat → ClassId} {dI : Nat → Nat → Nat} {g1 g2 oa : Nat} {f : Nat → Int64} {W : va_W} : Bl (LHM dC dI cI cL cJ g1 g2 A oa f W) := fun U g mk v h =>
  ⟨h.1, h.2.1, va_K.moved (u := U) (U := U.calling g mk v) (Vm.Alike.refl U.vm) h.2.2.1, h.2.2.2.1.moved (u := U) (U := U.calling g mk v) (Vm.Alike.refl U.vm), XE.bl U g mk v h.2.2.2.2⟩
theorem LHM_at {dC : Nat → ClassId} {dI : Nat → Nat → Nat} {g1 g2 oa : Nat} {f : Nat → Int64} {W : va_W} (hK : EV dC dI cI cL cJ s) (hP : va_P (dC, dI) vwCl (JR cJ oa f :: W) H) (hD : va_D A (JR cJ oa f :: W)) (hZ : ST g1 g2 A0 s s.heap) (hX : XE A0 s s.heap) (hS : va_S A0 s.heap H locs) (hA : ∀ q, A q → A0 q) : ∀ U : State, U.heap = H → s.WarmedH U.vm → LHM dC dI cI cL cJ g1 g2 A oa f W U := by
  intro U hU hW
  have h1 := hX.at hS hU hW
  subst hU
  exact ⟨hP, hD, va_K.moved hW.alike hK, ((hZ.kept hS.2.1).moved hW.alike).narrow hA, h1.narrow hA⟩
end LR
