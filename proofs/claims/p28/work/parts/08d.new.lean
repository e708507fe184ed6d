/-! constructors: from their entry, with the name; new rows of ints; final fields -/
def rmC (k mc ms : Nat) : Room := { frames := k, cells := mc, slots := ms, locals := 40 * k }
theorem bq_ofN {l : Launch} {y : MethodName} {cc : ByteArray} {nL : Nat} {ret : Option FieldType} {rm : Room} {av : List Value} {Pre : State → Prop} {Qc : Array Value → State → Outcome → State → Prop} {mc ms : Nat} {free : Addr → Prop} (vs : List (Option Value)) (hvs : en 0 vs = lv_args 0 av) (hlen : vs.length = nL) (hle : (lg_sl av).length ≤ nL) (hy : plainName y.cls = true)
    (body : ∀ (p : Program) (e : Env) (s : State) (m : MethodId) (below : List Frame) (meth : Method) (c : Code), CX p s m av.toArray meth c cc y.cls nL ret → meth.name = y.name → Pre s → G p l e rm s m av.toArray below meth c s.heap [] 0 0 (MQ below Qc av.toArray s mc ms free) vs 0 []) :
    Met l y (.code y cc nL ret :: WG) rm (va_Pc av Pre) Qc mc ms free := by
  refine Met.ofW (cc := cc) (maxL := nL) (ret := ret) hy rfl ?_
  intro p e s m args below meth c s₁ B hml hv
  obtain ⟨rfl, hv⟩ := hv
  have hts := atoms_spec (ws := .code y cc nL ret :: WG) B.pre
  have hl := lv_entry av (n := nL) hle
  have K := body p e s m below meth c ⟨B.exec, B.bytes, hml, findClass_of_methodNamed B.named, fun w h => hts w (List.mem_cons_of_mem _ h), B.returns, B.notSynchronized⟩ (name_of_methodNamed B.named B.method).1 hv
  have h2 := K _ (by rw [hvs, hlen]; exact hl)
  rw [lg_entry_eq]
  exact h2
section WN
variable {p : Program} {l : Launch} {e : Env} {R : Room} {s : State} {m : MethodId} {args : Array Value} {below : List Frame} {meth : Method} {c : Code} {H : Heap} {locs : List Loc} {cells slots : Nat} {Q : State → Prop}
variable {cc : ByteArray} {own : String} {nL pc : Nat} {ret : Option FieldType} {vs : List (Option Value)} {st st0 : List Value}
variable {D : va_G} {cl : List vw_C} {A : Nat → Prop} {ws : va_W} {H0 : Heap} {cI cL cJ : ClassId}
theorem g_objInit (C : CX p s m args meth c cc own nL ret) {index a : Nat} (hl : Cond.methodLink own index Lib.objectInit ∈ WG) (hi : Cond.instanceMethod Lib.objectInit ∈ WG) (hc : Cond.code Lib.objectInit ⟨#[0xb1]⟩ 1 none ∈ WG) (hvl : vs.length = nL) (hR : 1 ≤ R.frames ∧ (st.map fun v => v.category).sum + 12 ≤ R.locals) (hd : decode cc pc = .ok (.invokespecial index, 3)) (k : G p l e R s m args below meth c H locs cells slots Q vs (pc + 3) st) : G p l e R s m args below meth c H locs cells slots Q vs pc (.ref a :: st) := fun ls h =>
  W.objInit C.1 C.2.1 C.2.2.2.1 (C.2.2.2.2.1 _ hl) (C.2.2.2.2.1 _ hi) (C.2.2.2.2.1 _ hc) rfl (h.1.trans (hvl.trans C.2.2.1.symm)) rfl hd hR.1 (by show 2 * 0 + _ + 12 ≤ _; rw [Nat.mul_zero, Nat.zero_add]; exact hR.2) (k ls h)
theorem g_newa (C : CX p s m args meth c cc own nL ret) {n : Nat} (hK : va_K D cl (tyL cI cL cJ) s) (hP : va_P D cl ws H) (hD : va_D A ws) (hS : va_S A H0 H locs) (hA : ∀ q, H0.size ≤ q → A q) (hn : n < 2147483648) (hb : n * componentBytes .int ≤ 536870912) (hcells : cells + 1 ≤ R.cells) (hslots : slots + n ≤ R.slots) (hd : decode cc pc = .ok (.newarray .int, 2))
    (kk : ∀ (q : Nat) (H1 : Heap), va_P D cl (ws ++ [(q, .inl (cI, n, .inl (fun _ => 0)))]) H1 → va_D A (ws ++ [(q, .inl (cI, n, .inl (fun _ => 0)))]) → va_S A H0 H1 locs → G p l e R s m args below meth c H1 locs (cells + 1) (slots + n) Q vs (pc + 2) (.ref q :: st)) : G p l e R s m args below meth c H locs cells slots Q vs pc (.int (nI n) :: st) := by
  intro ls h
  refine va_newa (atype := .int) (ty := .int) (a0 := (n, .inl (fun _ => 0))) (N' := n) C.1 C.2.1 (C.2.2.2.2.1 _ wa_int) rfl hK hP hD hS hA (fun cA => rfl) (nI_pos hn) (nI_clamp hn) hb hcells hslots hd (fun q cA H1 hK1 hP1 hD1 hS1 => ?_)
  have e1 : s.vm.findClass ("[" ++ FieldType.int.toString) = some cA := (hK1.2 3 (cA, .int) rfl).2
  have e2 : s.vm.findClass ("[" ++ FieldType.int.toString) = some cI := (hK.2 0 (cI, .int) rfl).2
  have e3 : cA = cI := Option.some.inj (e1.symm.trans e2)
  subst e3
  exact kk q H1 hP1 hD1 hS1 ls h
theorem g_putF (C : CX p s m args meth c cc own nL ret) {a : Nat} {ref Cn : String} {T : u_T} {N ci index : Nat} {tys : List (ClassId × FieldType)} (hin : ∀ w ∈ u_ws Cn T N, w ∈ WG) (ty0 : Nat → FieldType) (hty : ∀ k, k < N → parseFieldDescriptor (T k).2.2.1 = some (ty0 k)) (hnm : ∀ a, a < N → ∀ b, b < N → a ≠ b → (T a).2.1 ≠ (T b).2.1) (hK : va_K D cl tys s) (hP : va_P D cl ws H) (hD : va_D A ws) (hS : va_S A H0 H locs) (q0 : Nat) {fs : List Value} (he : ws[q0]? = some (a, .inr (ci, fs))) (hc : cl[ci]? = some (Cn, T, N)) (k : Nat) (hk : k < N) {rn rd : String} (hlink : Cond.fieldLink own index ref rn rd ∈ WG) (hsame : ref = (T k).1 ∧ rn = (T k).2.1 ∧ rd = (T k).2.2.1) (hfin : (T k).2.2.2 = true) (hname : meth.name = "<init>") (hdecl : (T k).1 = own) {v : Value} (hn : narrow (ty0 k) v = v) (hfit : fits (ty0 k) v = true) (hl : k < fs.length) (hd : decode cc pc = .ok (.putfield index, 3))
    (kk : ∀ (H1 : Heap) (locs1 : List Loc), va_P D cl (ws.set q0 (a, .inr (ci, fs.set k v))) H1 → va_D A (ws.set q0 (a, .inr (ci, fs.set k v))) → va_S A H0 H1 locs1 → G p l e R s m args below meth c H1 locs1 cells slots Q vs (pc + 3) st) : G p l e R s m args below meth c H locs cells slots Q vs pc (v :: .ref a :: st) := by
  obtain ⟨rfl, rfl, rfl⟩ := hsame
  exact fun ls h => va_putF (ty := ty0 k) C.1 C.2.1 C.2.2.2.2.1 hin ty0 hty hnm C.2.2.2.1 hK hP hD hS q0 he hc k hk (C.2.2.2.2.1 _ hlink) (fun _ h => h) hfin hname hdecl (hty k hk) hn hfit hl hd (fun H1 locs1 h1 h2 h3 => kk H1 locs1 h1 h2 h3 ls h)
end WN
