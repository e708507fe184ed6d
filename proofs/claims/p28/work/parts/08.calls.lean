section WC
variable {p : Program} {l : Launch} {e : Env} {R : Room} {s : State} {m : MethodId} {args : Array Value} {below : List Frame} {meth : Method} {c : Code} {H : Heap} {locs : List Loc} {cells slots : Nat} {Q : State → Prop}
variable {cc : ByteArray} {own : String} {nL pc : Nat} {ret : Option FieldType} {vs : List (Option Value)} {st st0 : List Value}
variable {D : va_G} {cl : List vw_C} {A : Nat → Prop} {tys : List (ClassId × FieldType)} {ws : va_W} {H0 : Heap}
variable {dC : Nat → ClassId} {dI : Nat → Nat → Nat} {cI cL cJ : ClassId} {g1 g2 : Nat}
theorem g_ldc2 (C : CX p s m args meth c cc own nL ret) {index : Nat} {v : Int64} (hw : Cond.constantLong own index v ∈ WG) (hd : decode cc pc = .ok (.ldc2_w index, 3)) (k : G p l e R s m args below meth c H locs cells slots Q vs (pc + 3) (.long v :: st)) : G p l e R s m args below meth c H locs cells slots Q vs pc st := fun ls h => lv_ldc2 C.1 C.2.1 C.2.2.2.1 (C.2.2.2.2.1 _ hw) hd (k ls h)
theorem g_lshl (C : CX p s m args meth c cc own nL ret) {x : Int64} {y : Int32} (v : Int64) (hv : x <<< (y.toInt64 &&& 63) = v) (hd : decode cc pc = .ok (.lshl, 1)) (k : G p l e R s m args below meth c H locs cells slots Q vs (pc + 1) (.long v :: st)) : G p l e R s m args below meth c H locs cells slots Q vs pc (.int y :: .long x :: st) := fun ls h => lv_lshl C.1 C.2.1 hd hv (k ls h)
theorem g_lcmp (C : CX p s m args meth c cc own nL ret) {x y : Int64} (hd : decode cc pc = .ok (.lcmp, 1)) (k : G p l e R s m args below meth c H locs cells slots Q vs (pc + 1) (.int (lg_cmp x y) :: st)) : G p l e R s m args below meth c H locs cells slots Q vs pc (.long y :: .long x :: st) := fun ls h => W.lcmp C.1 C.2.1 hd (k ls h)
theorem g_iremN (C : CX p s m args meth c cc own nL ret) {a b : Nat} (h0 : 0 < b) (ha : a < 2147483648) (hb : b < 2147483648) (hd : decode cc pc = .ok (.irem, 1)) (k : G p l e R s m args below meth c H locs cells slots Q vs (pc + 1) (.int (nI (a % b)) :: st)) : G p l e R s m args below meth c H locs cells slots Q vs pc (.int (nI b) :: .int (nI a) :: st) := fun ls h => lv_irem C.1 C.2.1 hd (nI_ne0 h0 hb) (by rw [pk_rem ha h0 hb]; exact k ls h)
theorem g_tsO (C : CX p s m args meth c cc own nL ret) {dflt lo hi : Int} {offs : Array Int} {len : Nat} {x : Int32} (tgt : Nat) (hd : decode cc pc = .ok (.tableswitch dflt lo hi offs, len)) (h : x.toInt < lo ∨ hi < x.toInt) (ht : (pc : Int) + dflt = (tgt : Int)) (k : G p l e R s m args below meth c H locs cells slots Q vs tgt st) : G p l e R s m args below meth c H locs cells slots Q vs pc (.int x :: st) := fun ls h2 => lv_tableOut C.1 C.2.1 hd h ht (k ls h2)
theorem g_tsI (C : CX p s m args meth c cc own nL ret) {dflt lo hi : Int} {offs : Array Int} {len : Nat} {x : Int32} {off : Int} (tgt : Nat) (hd : decode cc pc = .ok (.tableswitch dflt lo hi offs, len)) (h1 : ¬ x.toInt < lo) (h2 : ¬ hi < x.toInt) (ho : offs[(x.toInt - lo).toNat]? = some off) (ht : (pc : Int) + off = (tgt : Int)) (k : G p l e R s m args below meth c H locs cells slots Q vs tgt st) : G p l e R s m args below meth c H locs cells slots Q vs pc (.int x :: st) := fun ls h => lv_tableIn C.1 C.2.1 hd h1 h2 ho ht (k ls h)
theorem nI_z {a : Nat} (ha : a < 2147483648) : nI a = 0 ↔ a = 0 := by rw [← nI_0]; exact nI_eq ha (by decide)
theorem g_if_eqN (C : CX p s m args meth c cc own nL ret) {a : Nat} (ha : a < 2147483648) {off : Int} (tgt : Nat) (hd : decode cc pc = .ok (.ifCond .eq off, 3)) (ht : (pc : Int) + off = (tgt : Int)) (kt : a = 0 → G p l e R s m args below meth c H locs cells slots Q vs tgt st) (kf : ¬ a = 0 → G p l e R s m args below meth c H locs cells slots Q vs (pc + 3) st) : G p l e R s m args below meth c H locs cells slots Q vs pc (.int (nI a) :: st) := g_if_eq C tgt hd ht (fun q => kt ((nI_z ha).mp q)) (fun q => kf (fun z => q ((nI_z ha).mpr z)))
theorem g_if_neN (C : CX p s m args meth c cc own nL ret) {a : Nat} (ha : a < 2147483648) {off : Int} (tgt : Nat) (hd : decode cc pc = .ok (.ifCond .ne off, 3)) (ht : (pc : Int) + off = (tgt : Int)) (kt : ¬ a = 0 → G p l e R s m args below meth c H locs cells slots Q vs tgt st) (kf : a = 0 → G p l e R s m args below meth c H locs cells slots Q vs (pc + 3) st) : G p l e R s m args below meth c H locs cells slots Q vs pc (.int (nI a) :: st) := g_if_ne C tgt hd ht (fun q => kt (fun z => q ((nI_z ha).mpr z))) (fun q => kf ((nI_z ha).mp q))
theorem g_if_leN (C : CX p s m args meth c cc own nL ret) {a : Nat} (ha : a < 2147483648) {off : Int} (tgt : Nat) (hd : decode cc pc = .ok (.ifCond .le off, 3)) (ht : (pc : Int) + off = (tgt : Int)) (kt : a = 0 → G p l e R s m args below meth c H locs cells slots Q vs tgt st) (kf : 0 < a → G p l e R s m args below meth c H locs cells slots Q vs (pc + 3) st) : G p l e R s m args below meth c H locs cells slots Q vs pc (.int (nI a) :: st) := g_if_le C tgt hd ht (fun q => kt (Nat.eq_zero_of_le_zero (Nat.not_lt.mp fun z => nI_nle z ha q))) (fun q => kf (Nat.pos_of_ne_zero fun z => q (by rw [z]; decide)))
theorem g_if_gtN (C : CX p s m args meth c cc own nL ret) {a : Nat} (ha : a < 2147483648) {off : Int} (tgt : Nat) (hd : decode cc pc = .ok (.ifCond .gt off, 3)) (ht : (pc : Int) + off = (tgt : Int)) (kt : 0 < a → G p l e R s m args below meth c H locs cells slots Q vs tgt st) (kf : a = 0 → G p l e R s m args below meth c H locs cells slots Q vs (pc + 3) st) : G p l e R s m args below meth c H locs cells slots Q vs pc (.int (nI a) :: st) := g_if_gt C tgt hd ht (fun q => kt (Nat.pos_of_ne_zero fun z => by subst z; exact absurd q (by decide))) (fun q => kf (Nat.eq_zero_of_le_zero (Nat.not_lt.mp fun z => q (by rw [show (0 : Int32) = nI 0 from rfl]; exact nI_lt z ha))))
theorem g_mmax (C : CX p s m args meth c cc own nL ret) {index : Nat} {x y : Int32} (hl : Cond.methodLink own index Lib.Math.max.name ∈ WG) (hs : Cond.static Lib.Math.max.name ∈ WG) (hi : Cond.initialized "java/lang/Math" ∈ WG) (hc : Cond.code Lib.Math.max.name Lib.Math.max.code 2 (some .int) ∈ WG) (hvl : vs.length = nL) (hR : 1 ≤ R.frames ∧ (st.map fun v => v.category).sum + 13 ≤ R.locals) (hcs : cells ≤ R.cells ∧ slots ≤ R.slots) (hd : decode cc pc = .ok (.invokestatic index, 3)) (k : G p l e R s m args below meth c H locs cells slots Q vs (pc + 3) (.int (if x < y then y else x) :: st)) : G p l e R s m args below meth c H locs cells slots Q vs pc (.int y :: .int x :: st) := fun ls h => va_mmax C.1 C.2.1 (C.2.2.1.trans (hvl.symm.trans h.1.symm)) C.2.2.2.1 (C.2.2.2.2.1 _ hl) (C.2.2.2.2.1 _ hs) (C.2.2.2.2.1 _ hi) (C.2.2.2.2.1 _ hc) hR.1 hR.2 hcs.1 hcs.2 hd (k ls h)
theorem g_mmin (C : CX p s m args meth c cc own nL ret) {index : Nat} {x y : Int32} (hl : Cond.methodLink own index Lib.Math.min.name ∈ WG) (hs : Cond.static Lib.Math.min.name ∈ WG) (hi : Cond.initialized "java/lang/Math" ∈ WG) (hc : Cond.code Lib.Math.min.name Lib.Math.min.code 2 (some .int) ∈ WG) (hvl : vs.length = nL) (hR : 1 ≤ R.frames ∧ (st.map fun v => v.category).sum + 13 ≤ R.locals) (hcs : cells ≤ R.cells ∧ slots ≤ R.slots) (hd : decode cc pc = .ok (.invokestatic index, 3)) (k : G p l e R s m args below meth c H locs cells slots Q vs (pc + 3) (.int (if y < x then y else x) :: st)) : G p l e R s m args below meth c H locs cells slots Q vs pc (.int y :: .int x :: st) := fun ls h => va_mmin C.1 C.2.1 (C.2.2.1.trans (hvl.symm.trans h.1.symm)) C.2.2.2.1 (C.2.2.2.2.1 _ hl) (C.2.2.2.2.1 _ hs) (C.2.2.2.2.1 _ hi) (C.2.2.2.2.1 _ hc) hR.1 hR.2 hcs.1 hcs.2 hd (k ls h)
theorem g_lcV0 (C : CX p s m args meth c cc own nL ret) {bytes : ByteArray} {maxL2 index : Nat} {ret2 : Option FieldType} {rm : Room} {y : MethodName} {v : Value}
    {a : Nat} {t : Nat → Nat} {y0 : Int32} {d : Nat → Nat → Int32} {r : Int64} (hK : EV dC dI cI cL cJ s) (hP : va_P (dC, dI) vwCl (LW cI a t y0 d r) H) (hZ : ST g1 g2 A s s.heap) (hS : va_S A s.heap H locs)
    (hM : Met l y (.code y bytes maxL2 ret2 :: WG) rm (va_Pc (.ref a :: []) (LDP dC dI cI cL cJ g1 g2 a t y0 d r)) (bq_S v) 0 0 (fun _ => False))
    (hl : Cond.methodLink own index y ∈ WG) (hi : Cond.instanceMethod y ∈ WG) (hv : Cond.selects RX1 y y ∈ WG) (hc : Cond.code y bytes maxL2 ret2 ∈ WG)
    (hy : y.cls = RX1 ∧ y.cls ≠ "java/lang/invoke/MethodHandle" ∧ y.cls ≠ "java/lang/invoke/VarHandle" ∧ (parseMethodDescriptor y.desc).map (fun d => d.parameters.length) = some 0)
    (hrm : rm.cells = 0 ∧ rm.slots = 0 ∧ rm.frames + 1 ≤ R.frames ∧ 8 + (maxL2 + 11) + rm.locals ≤ R.locals)
    (hvl : vs.length = nL) (hcat : (st.map fun v => v.category).sum ≤ 8) (hcs : cells ≤ R.cells ∧ slots ≤ R.slots) (hd : decode cc pc = .ok (.invokevirtual index, 3))
    (kk : G p l e R s m args below meth c H locs cells slots Q vs (pc + 3) (v :: st)) : G p l e R s m args below meth c H locs cells slots Q vs pc (.ref a :: st) := g_lcV (As := []) C hK hP hZ hS hM hl hi hv hc hy hrm hvl rfl hcat hcs hd kk
theorem g_scS0 (C : CX p s m args meth c cc own nL ret) {bytes : ByteArray} {maxL2 index : Nat} {ret2 : Option FieldType} {rm : Room} {y : MethodName} {v : Value}
    (hM : Met l y (.code y bytes maxL2 ret2 :: WG) rm (va_Pc [] (fun _ => True)) (bq_S v) 0 0 (fun _ => False))
    (hl : Cond.methodLink own index y ∈ WG) (hi : Cond.static y ∈ WG) (hn : Cond.initialized own ∈ WG) (hc : Cond.code y bytes maxL2 ret2 ∈ WG)
    (hy : y.cls = own ∧ y.cls ≠ "java/lang/invoke/MethodHandle" ∧ y.cls ≠ "java/lang/invoke/VarHandle" ∧ (parseMethodDescriptor y.desc).map (fun d => d.parameters.length) = some 0)
    (hrm : rm.cells = 0 ∧ rm.slots = 0 ∧ rm.frames + 1 ≤ R.frames ∧ 8 + (maxL2 + 11) + rm.locals ≤ R.locals)
    (hvl : vs.length = nL) (hcat : (st.map fun v => v.category).sum ≤ 8) (hcs : cells ≤ R.cells ∧ slots ≤ R.slots) (hd : decode cc pc = .ok (.invokestatic index, 3))
    (kk : G p l e R s m args below meth c H locs cells slots Q vs (pc + 3) (v :: st)) : G p l e R s m args below meth c H locs cells slots Q vs pc (st) := g_pcS (As := []) C hM hl hi hn hc hy hrm TR_bl (fun _ _ _ => trivial) hvl rfl hcat hcs hd kk
theorem g_lcV1 (C : CX p s m args meth c cc own nL ret) {bytes : ByteArray} {maxL2 index : Nat} {ret2 : Option FieldType} {rm : Room} {y : MethodName} {v0 : Value} {v : Value}
    {a : Nat} {t : Nat → Nat} {y0 : Int32} {d : Nat → Nat → Int32} {r : Int64} (hK : EV dC dI cI cL cJ s) (hP : va_P (dC, dI) vwCl (LW cI a t y0 d r) H) (hZ : ST g1 g2 A s s.heap) (hS : va_S A s.heap H locs)
    (hM : Met l y (.code y bytes maxL2 ret2 :: WG) rm (va_Pc (.ref a :: [v0]) (LDP dC dI cI cL cJ g1 g2 a t y0 d r)) (bq_S v) 0 0 (fun _ => False))
    (hl : Cond.methodLink own index y ∈ WG) (hi : Cond.instanceMethod y ∈ WG) (hv : Cond.selects RX1 y y ∈ WG) (hc : Cond.code y bytes maxL2 ret2 ∈ WG)
    (hy : y.cls = RX1 ∧ y.cls ≠ "java/lang/invoke/MethodHandle" ∧ y.cls ≠ "java/lang/invoke/VarHandle" ∧ (parseMethodDescriptor y.desc).map (fun d => d.parameters.length) = some 1)
    (hrm : rm.cells = 0 ∧ rm.slots = 0 ∧ rm.frames + 1 ≤ R.frames ∧ 8 + (maxL2 + 11) + rm.locals ≤ R.locals)
    (hvl : vs.length = nL) (hcat : (st.map fun v => v.category).sum ≤ 8) (hcs : cells ≤ R.cells ∧ slots ≤ R.slots) (hd : decode cc pc = .ok (.invokevirtual index, 3))
    (kk : G p l e R s m args below meth c H locs cells slots Q vs (pc + 3) (v :: st)) : G p l e R s m args below meth c H locs cells slots Q vs pc (v0 :: .ref a :: st) := g_lcV (As := [v0]) C hK hP hZ hS hM hl hi hv hc hy hrm hvl rfl hcat hcs hd kk
theorem g_scS1 (C : CX p s m args meth c cc own nL ret) {bytes : ByteArray} {maxL2 index : Nat} {ret2 : Option FieldType} {rm : Room} {y : MethodName} {v0 : Value} {v : Value}
    (hM : Met l y (.code y bytes maxL2 ret2 :: WG) rm (va_Pc [v0] (fun _ => True)) (bq_S v) 0 0 (fun _ => False))
    (hl : Cond.methodLink own index y ∈ WG) (hi : Cond.static y ∈ WG) (hn : Cond.initialized own ∈ WG) (hc : Cond.code y bytes maxL2 ret2 ∈ WG)
    (hy : y.cls = own ∧ y.cls ≠ "java/lang/invoke/MethodHandle" ∧ y.cls ≠ "java/lang/invoke/VarHandle" ∧ (parseMethodDescriptor y.desc).map (fun d => d.parameters.length) = some 1)
    (hrm : rm.cells = 0 ∧ rm.slots = 0 ∧ rm.frames + 1 ≤ R.frames ∧ 8 + (maxL2 + 11) + rm.locals ≤ R.locals)
    (hvl : vs.length = nL) (hcat : (st.map fun v => v.category).sum ≤ 8) (hcs : cells ≤ R.cells ∧ slots ≤ R.slots) (hd : decode cc pc = .ok (.invokestatic index, 3))
    (kk : G p l e R s m args below meth c H locs cells slots Q vs (pc + 3) (v :: st)) : G p l e R s m args below meth c H locs cells slots Q vs pc (v0 :: st) := g_pcS (As := [v0]) C hM hl hi hn hc hy hrm TR_bl (fun _ _ _ => trivial) hvl rfl hcat hcs hd kk
theorem g_lcV2 (C : CX p s m args meth c cc own nL ret) {bytes : ByteArray} {maxL2 index : Nat} {ret2 : Option FieldType} {rm : Room} {y : MethodName} {v0 v1 : Value} {v : Value}
    {a : Nat} {t : Nat → Nat} {y0 : Int32} {d : Nat → Nat → Int32} {r : Int64} (hK : EV dC dI cI cL cJ s) (hP : va_P (dC, dI) vwCl (LW cI a t y0 d r) H) (hZ : ST g1 g2 A s s.heap) (hS : va_S A s.heap H locs)
    (hM : Met l y (.code y bytes maxL2 ret2 :: WG) rm (va_Pc (.ref a :: [v0, v1]) (LDP dC dI cI cL cJ g1 g2 a t y0 d r)) (bq_S v) 0 0 (fun _ => False))
    (hl : Cond.methodLink own index y ∈ WG) (hi : Cond.instanceMethod y ∈ WG) (hv : Cond.selects RX1 y y ∈ WG) (hc : Cond.code y bytes maxL2 ret2 ∈ WG)
    (hy : y.cls = RX1 ∧ y.cls ≠ "java/lang/invoke/MethodHandle" ∧ y.cls ≠ "java/lang/invoke/VarHandle" ∧ (parseMethodDescriptor y.desc).map (fun d => d.parameters.length) = some 2)
    (hrm : rm.cells = 0 ∧ rm.slots = 0 ∧ rm.frames + 1 ≤ R.frames ∧ 8 + (maxL2 + 11) + rm.locals ≤ R.locals)
    (hvl : vs.length = nL) (hcat : (st.map fun v => v.category).sum ≤ 8) (hcs : cells ≤ R.cells ∧ slots ≤ R.slots) (hd : decode cc pc = .ok (.invokevirtual index, 3))
    (kk : G p l e R s m args below meth c H locs cells slots Q vs (pc + 3) (v :: st)) : G p l e R s m args below meth c H locs cells slots Q vs pc (v1 :: v0 :: .ref a :: st) := g_lcV (As := [v0, v1]) C hK hP hZ hS hM hl hi hv hc hy hrm hvl rfl hcat hcs hd kk
theorem g_scS2 (C : CX p s m args meth c cc own nL ret) {bytes : ByteArray} {maxL2 index : Nat} {ret2 : Option FieldType} {rm : Room} {y : MethodName} {v0 v1 : Value} {v : Value}
    (hM : Met l y (.code y bytes maxL2 ret2 :: WG) rm (va_Pc [v0, v1] (fun _ => True)) (bq_S v) 0 0 (fun _ => False))
    (hl : Cond.methodLink own index y ∈ WG) (hi : Cond.static y ∈ WG) (hn : Cond.initialized own ∈ WG) (hc : Cond.code y bytes maxL2 ret2 ∈ WG)
    (hy : y.cls = own ∧ y.cls ≠ "java/lang/invoke/MethodHandle" ∧ y.cls ≠ "java/lang/invoke/VarHandle" ∧ (parseMethodDescriptor y.desc).map (fun d => d.parameters.length) = some 2)
    (hrm : rm.cells = 0 ∧ rm.slots = 0 ∧ rm.frames + 1 ≤ R.frames ∧ 8 + (maxL2 + 11) + rm.locals ≤ R.locals)
    (hvl : vs.length = nL) (hcat : (st.map fun v => v.category).sum ≤ 8) (hcs : cells ≤ R.cells ∧ slots ≤ R.slots) (hd : decode cc pc = .ok (.invokestatic index, 3))
    (kk : G p l e R s m args below meth c H locs cells slots Q vs (pc + 3) (v :: st)) : G p l e R s m args below meth c H locs cells slots Q vs pc (v1 :: v0 :: st) := g_pcS (As := [v0, v1]) C hM hl hi hn hc hy hrm TR_bl (fun _ _ _ => trivial) hvl rfl hcat hcs hd kk
theorem g_lcV3 (C : CX p s m args meth c cc own nL ret) {bytes : ByteArray} {maxL2 index : Nat} {ret2 : Option FieldType} {rm : Room} {y : MethodName} {v0 v1 v2 : Value} {v : Value}
    {a : Nat} {t : Nat → Nat} {y0 : Int32} {d : Nat → Nat → Int32} {r : Int64} (hK : EV dC dI cI cL cJ s) (hP : va_P (dC, dI) vwCl (LW cI a t y0 d r) H) (hZ : ST g1 g2 A s s.heap) (hS : va_S A s.heap H locs)
    (hM : Met l y (.code y bytes maxL2 ret2 :: WG) rm (va_Pc (.ref a :: [v0, v1, v2]) (LDP dC dI cI cL cJ g1 g2 a t y0 d r)) (bq_S v) 0 0 (fun _ => False))
    (hl : Cond.methodLink own index y ∈ WG) (hi : Cond.instanceMethod y ∈ WG) (hv : Cond.selects RX1 y y ∈ WG) (hc : Cond.code y bytes maxL2 ret2 ∈ WG)
    (hy : y.cls = RX1 ∧ y.cls ≠ "java/lang/invoke/MethodHandle" ∧ y.cls ≠ "java/lang/invoke/VarHandle" ∧ (parseMethodDescriptor y.desc).map (fun d => d.parameters.length) = some 3)
    (hrm : rm.cells = 0 ∧ rm.slots = 0 ∧ rm.frames + 1 ≤ R.frames ∧ 8 + (maxL2 + 11) + rm.locals ≤ R.locals)
    (hvl : vs.length = nL) (hcat : (st.map fun v => v.category).sum ≤ 8) (hcs : cells ≤ R.cells ∧ slots ≤ R.slots) (hd : decode cc pc = .ok (.invokevirtual index, 3))
    (kk : G p l e R s m args below meth c H locs cells slots Q vs (pc + 3) (v :: st)) : G p l e R s m args below meth c H locs cells slots Q vs pc (v2 :: v1 :: v0 :: .ref a :: st) := g_lcV (As := [v0, v1, v2]) C hK hP hZ hS hM hl hi hv hc hy hrm hvl rfl hcat hcs hd kk
theorem g_scS3 (C : CX p s m args meth c cc own nL ret) {bytes : ByteArray} {maxL2 index : Nat} {ret2 : Option FieldType} {rm : Room} {y : MethodName} {v0 v1 v2 : Value} {v : Value}
    (hM : Met l y (.code y bytes maxL2 ret2 :: WG) rm (va_Pc [v0, v1, v2] (fun _ => True)) (bq_S v) 0 0 (fun _ => False))
    (hl : Cond.methodLink own index y ∈ WG) (hi : Cond.static y ∈ WG) (hn : Cond.initialized own ∈ WG) (hc : Cond.code y bytes maxL2 ret2 ∈ WG)
    (hy : y.cls = own ∧ y.cls ≠ "java/lang/invoke/MethodHandle" ∧ y.cls ≠ "java/lang/invoke/VarHandle" ∧ (parseMethodDescriptor y.desc).map (fun d => d.parameters.length) = some 3)
    (hrm : rm.cells = 0 ∧ rm.slots = 0 ∧ rm.frames + 1 ≤ R.frames ∧ 8 + (maxL2 + 11) + rm.locals ≤ R.locals)
    (hvl : vs.length = nL) (hcat : (st.map fun v => v.category).sum ≤ 8) (hcs : cells ≤ R.cells ∧ slots ≤ R.slots) (hd : decode cc pc = .ok (.invokestatic index, 3))
    (kk : G p l e R s m args below meth c H locs cells slots Q vs (pc + 3) (v :: st)) : G p l e R s m args below meth c H locs cells slots Q vs pc (v2 :: v1 :: v0 :: st) := g_pcS (As := [v0, v1, v2]) C hM hl hi hn hc hy hrm TR_bl (fun _ _ _ => trivial) hvl rfl hcat hcs hd kk
theorem g_lcV4 (C : CX p s m args meth c cc own nL ret) {bytes : ByteArray} {maxL2 index : Nat} {ret2 : Option FieldType} {rm : Room} {y : MethodName} {v0 v1 v2 v3 : Value} {v : Value}
    {a : Nat} {t : Nat → Nat} {y0 : Int32} {d : Nat → Nat → Int32} {r : Int64} (hK : EV dC dI cI cL cJ s) (hP : va_P (dC, dI) vwCl (LW cI a t y0 d r) H) (hZ : ST g1 g2 A s s.heap) (hS : va_S A s.heap H locs)
    (hM : Met l y (.code y bytes maxL2 ret2 :: WG) rm (va_Pc (.ref a :: [v0, v1, v2, v3]) (LDP dC dI cI cL cJ g1 g2 a t y0 d r)) (bq_S v) 0 0 (fun _ => False))
    (hl : Cond.methodLink own index y ∈ WG) (hi : Cond.instanceMethod y ∈ WG) (hv : Cond.selects RX1 y y ∈ WG) (hc : Cond.code y bytes maxL2 ret2 ∈ WG)
    (hy : y.cls = RX1 ∧ y.cls ≠ "java/lang/invoke/MethodHandle" ∧ y.cls ≠ "java/lang/invoke/VarHandle" ∧ (parseMethodDescriptor y.desc).map (fun d => d.parameters.length) = some 4)
    (hrm : rm.cells = 0 ∧ rm.slots = 0 ∧ rm.frames + 1 ≤ R.frames ∧ 8 + (maxL2 + 11) + rm.locals ≤ R.locals)
    (hvl : vs.length = nL) (hcat : (st.map fun v => v.category).sum ≤ 8) (hcs : cells ≤ R.cells ∧ slots ≤ R.slots) (hd : decode cc pc = .ok (.invokevirtual index, 3))
    (kk : G p l e R s m args below meth c H locs cells slots Q vs (pc + 3) (v :: st)) : G p l e R s m args below meth c H locs cells slots Q vs pc (v3 :: v2 :: v1 :: v0 :: .ref a :: st) := g_lcV (As := [v0, v1, v2, v3]) C hK hP hZ hS hM hl hi hv hc hy hrm hvl rfl hcat hcs hd kk
theorem g_scS4 (C : CX p s m args meth c cc own nL ret) {bytes : ByteArray} {maxL2 index : Nat} {ret2 : Option FieldType} {rm : Room} {y : MethodName} {v0 v1 v2 v3 : Value} {v : Value}
    (hM : Met l y (.code y bytes maxL2 ret2 :: WG) rm (va_Pc [v0, v1, v2, v3] (fun _ => True)) (bq_S v) 0 0 (fun _ => False))
    (hl : Cond.methodLink own index y ∈ WG) (hi : Cond.static y ∈ WG) (hn : Cond.initialized own ∈ WG) (hc : Cond.code y bytes maxL2 ret2 ∈ WG)
    (hy : y.cls = own ∧ y.cls ≠ "java/lang/invoke/MethodHandle" ∧ y.cls ≠ "java/lang/invoke/VarHandle" ∧ (parseMethodDescriptor y.desc).map (fun d => d.parameters.length) = some 4)
    (hrm : rm.cells = 0 ∧ rm.slots = 0 ∧ rm.frames + 1 ≤ R.frames ∧ 8 + (maxL2 + 11) + rm.locals ≤ R.locals)
    (hvl : vs.length = nL) (hcat : (st.map fun v => v.category).sum ≤ 8) (hcs : cells ≤ R.cells ∧ slots ≤ R.slots) (hd : decode cc pc = .ok (.invokestatic index, 3))
    (kk : G p l e R s m args below meth c H locs cells slots Q vs (pc + 3) (v :: st)) : G p l e R s m args below meth c H locs cells slots Q vs pc (v3 :: v2 :: v1 :: v0 :: st) := g_pcS (As := [v0, v1, v2, v3]) C hM hl hi hn hc hy hrm TR_bl (fun _ _ _ => trivial) hvl rfl hcat hcs hd kk
theorem g_fg0 {b : Option Value} {t : List (Option Value)} (k : G p l e R s m args below meth c H locs cells slots Q (none :: t) pc st) : G p l e R s m args below meth c H locs cells slots Q (b :: t) pc st := by
  intro ls h
  refine k ls ⟨h.1, h.2.1, fun q hq => h.2.2 q ?_⟩
  obtain ⟨j, h1, h2⟩ := en_mem.mp hq
  refine en_mem.mpr ⟨j, h1, ?_⟩
  match j, h2 with
  | 0, h2 => exact absurd h2 (by simp)
  | j + 1, h2 => exact h2
theorem g_fg1 {a0 b : Option Value} {t : List (Option Value)} (k : G p l e R s m args below meth c H locs cells slots Q (a0 :: none :: t) pc st) : G p l e R s m args below meth c H locs cells slots Q (a0 :: b :: t) pc st := by
  intro ls h
  refine k ls ⟨h.1, h.2.1, fun q hq => h.2.2 q ?_⟩
  obtain ⟨j, h1, h2⟩ := en_mem.mp hq
  refine en_mem.mpr ⟨j, h1, ?_⟩
  match j, h2 with
  | 0, h2 => exact h2
  | 1, h2 => exact absurd h2 (by simp)
  | j + 2, h2 => exact h2
theorem g_fg2 {a0 a1 b : Option Value} {t : List (Option Value)} (k : G p l e R s m args below meth c H locs cells slots Q (a0 :: a1 :: none :: t) pc st) : G p l e R s m args below meth c H locs cells slots Q (a0 :: a1 :: b :: t) pc st := by
  intro ls h
  refine k ls ⟨h.1, h.2.1, fun q hq => h.2.2 q ?_⟩
  obtain ⟨j, h1, h2⟩ := en_mem.mp hq
  refine en_mem.mpr ⟨j, h1, ?_⟩
  match j, h2 with
  | 0, h2 => exact h2
  | 1, h2 => exact h2
  | 2, h2 => exact absurd h2 (by simp)
  | j + 3, h2 => exact h2
theorem g_fg3 {a0 a1 a2 b : Option Value} {t : List (Option Value)} (k : G p l e R s m args below meth c H locs cells slots Q (a0 :: a1 :: a2 :: none :: t) pc st) : G p l e R s m args below meth c H locs cells slots Q (a0 :: a1 :: a2 :: b :: t) pc st := by
  intro ls h
  refine k ls ⟨h.1, h.2.1, fun q hq => h.2.2 q ?_⟩
  obtain ⟨j, h1, h2⟩ := en_mem.mp hq
  refine en_mem.mpr ⟨j, h1, ?_⟩
  match j, h2 with
  | 0, h2 => exact h2
  | 1, h2 => exact h2
  | 2, h2 => exact h2
  | 3, h2 => exact absurd h2 (by simp)
  | j + 4, h2 => exact h2
theorem g_fg4 {a0 a1 a2 a3 b : Option Value} {t : List (Option Value)} (k : G p l e R s m args below meth c H locs cells slots Q (a0 :: a1 :: a2 :: a3 :: none :: t) pc st) : G p l e R s m args below meth c H locs cells slots Q (a0 :: a1 :: a2 :: a3 :: b :: t) pc st := by
  intro ls h
  refine k ls ⟨h.1, h.2.1, fun q hq => h.2.2 q ?_⟩
  obtain ⟨j, h1, h2⟩ := en_mem.mp hq
  refine en_mem.mpr ⟨j, h1, ?_⟩
  match j, h2 with
  | 0, h2 => exact h2
  | 1, h2 => exact h2
  | 2, h2 => exact h2
  | 3, h2 => exact h2
  | 4, h2 => exact absurd h2 (by simp)
  | j + 5, h2 => exact h2
theorem g_fg5 {a0 a1 a2 a3 a4 b : Option Value} {t : List (Option Value)} (k : G p l e R s m args below meth c H locs cells slots Q (a0 :: a1 :: a2 :: a3 :: a4 :: none :: t) pc st) : G p l e R s m args below meth c H locs cells slots Q (a0 :: a1 :: a2 :: a3 :: a4 :: b :: t) pc st := by
  intro ls h
  refine k ls ⟨h.1, h.2.1, fun q hq => h.2.2 q ?_⟩
  obtain ⟨j, h1, h2⟩ := en_mem.mp hq
  refine en_mem.mpr ⟨j, h1, ?_⟩
  match j, h2 with
  | 0, h2 => exact h2
  | 1, h2 => exact h2
  | 2, h2 => exact h2
  | 3, h2 => exact h2
  | 4, h2 => exact h2
  | 5, h2 => exact absurd h2 (by simp)
  | j + 6, h2 => exact h2
theorem g_fg6 {a0 a1 a2 a3 a4 a5 b : Option Value} {t : List (Option Value)} (k : G p l e R s m args below meth c H locs cells slots Q (a0 :: a1 :: a2 :: a3 :: a4 :: a5 :: none :: t) pc st) : G p l e R s m args below meth c H locs cells slots Q (a0 :: a1 :: a2 :: a3 :: a4 :: a5 :: b :: t) pc st := by
  intro ls h
  refine k ls ⟨h.1, h.2.1, fun q hq => h.2.2 q ?_⟩
  obtain ⟨j, h1, h2⟩ := en_mem.mp hq
  refine en_mem.mpr ⟨j, h1, ?_⟩
  match j, h2 with
  | 0, h2 => exact h2
  | 1, h2 => exact h2
  | 2, h2 => exact h2
  | 3, h2 => exact h2
  | 4, h2 => exact h2
  | 5, h2 => exact h2
  | 6, h2 => exact absurd h2 (by simp)
  | j + 7, h2 => exact h2
theorem g_fg7 {a0 a1 a2 a3 a4 a5 a6 b : Option Value} {t : List (Option Value)} (k : G p l e R s m args below meth c H locs cells slots Q (a0 :: a1 :: a2 :: a3 :: a4 :: a5 :: a6 :: none :: t) pc st) : G p l e R s m args below meth c H locs cells slots Q (a0 :: a1 :: a2 :: a3 :: a4 :: a5 :: a6 :: b :: t) pc st := by
  intro ls h
  refine k ls ⟨h.1, h.2.1, fun q hq => h.2.2 q ?_⟩
  obtain ⟨j, h1, h2⟩ := en_mem.mp hq
  refine en_mem.mpr ⟨j, h1, ?_⟩
  match j, h2 with
  | 0, h2 => exact h2
  | 1, h2 => exact h2
  | 2, h2 => exact h2
  | 3, h2 => exact h2
  | 4, h2 => exact h2
  | 5, h2 => exact h2
  | 6, h2 => exact h2
  | 7, h2 => exact absurd h2 (by simp)
  | j + 8, h2 => exact h2
theorem g_fg8 {a0 a1 a2 a3 a4 a5 a6 a7 b : Option Value} {t : List (Option Value)} (k : G p l e R s m args below meth c H locs cells slots Q (a0 :: a1 :: a2 :: a3 :: a4 :: a5 :: a6 :: a7 :: none :: t) pc st) : G p l e R s m args below meth c H locs cells slots Q (a0 :: a1 :: a2 :: a3 :: a4 :: a5 :: a6 :: a7 :: b :: t) pc st := by
  intro ls h
  refine k ls ⟨h.1, h.2.1, fun q hq => h.2.2 q ?_⟩
  obtain ⟨j, h1, h2⟩ := en_mem.mp hq
  refine en_mem.mpr ⟨j, h1, ?_⟩
  match j, h2 with
  | 0, h2 => exact h2
  | 1, h2 => exact h2
  | 2, h2 => exact h2
  | 3, h2 => exact h2
  | 4, h2 => exact h2
  | 5, h2 => exact h2
  | 6, h2 => exact h2
  | 7, h2 => exact h2
  | 8, h2 => exact absurd h2 (by simp)
  | j + 9, h2 => exact h2
theorem g_l2i (C : CX p s m args meth c cc own nL ret) {x : Int64} (v : Int32) (hv : x.toInt32 = v) (hd : decode cc pc = .ok (.l2i, 1)) (k : G p l e R s m args below meth c H locs cells slots Q vs (pc + 1) (.int v :: st)) : G p l e R s m args below meth c H locs cells slots Q vs pc (.long x :: st) := fun ls h => lv_l2i C.1 C.2.1 hd hv (k ls h)
theorem g_pcT (C : CX p s m args meth c cc own nL ret) {bytes : ByteArray} {maxL2 index : Nat} {ret2 : Option FieldType} {rm : Room} {y : MethodName} {v v0 : Value}
    (hM : Met l y (.code y bytes maxL2 ret2 :: WG) rm (va_Pc [v0] (fun _ => True)) (bq_S v) 0 0 (fun _ => False))
    (hl : Cond.methodLink own index y ∈ WG) (hi : Cond.static y ∈ WG) (hn : Cond.initialized y.cls ∈ WG) (hc : Cond.code y bytes maxL2 ret2 ∈ WG)
    (hy : y.cls ≠ "java/lang/invoke/MethodHandle" ∧ y.cls ≠ "java/lang/invoke/VarHandle" ∧ (parseMethodDescriptor y.desc).map (fun d => d.parameters.length) = some 1)
    (hrm : rm.cells = 0 ∧ rm.slots = 0 ∧ rm.frames + 1 ≤ R.frames ∧ 8 + (maxL2 + 11) + rm.locals ≤ R.locals)
    (hvl : vs.length = nL) (hcat : (st.map fun v => v.category).sum ≤ 8) (hcs : cells ≤ R.cells ∧ slots ≤ R.slots) (hd : decode cc pc = .ok (.invokestatic index, 3))
    (kk : G p l e R s m args below meth c H locs cells slots Q vs (pc + 3) (v :: st)) : G p l e R s m args below meth c H locs cells slots Q vs pc (v0 :: st) := by
  intro ls h
  refine bq_cs (W.runS (As := [v0]) (rest := st) (Ts := WG) ⟨C.1, C.2.1, C.2.2.1, C.2.2.2.1, C.2.2.2.2.1⟩ hM ⟨callB_of 1 C.2.2.2.2.1 (WG_gi (WG_cons hc WG_self)) rfl hrm.1 hrm.2.1 (C.2.2.2.2.1 _ hn) (C.2.2.2.2.1 _ hl) hy ⟨hrm.2.2.1, hrm.2.2.2⟩, C.2.2.2.2.1 _ hi⟩ ⟨fun a U g mk q => ⟨q.1, TR_bl U g mk a q.2⟩, fun U hU hW => ⟨rfl, trivial⟩⟩ rfl rfl (h.1.trans hvl) rfl (lv_room hcat) hd hcs) (kk ls h)
theorem g_dconst0 (C : CX p s m args meth c cc own nL ret) (hd : decode cc pc = .ok (.dconst 0, 1)) (k : G p l e R s m args below meth c H locs cells slots Q vs (pc + 1) (.double 0 :: st)) : G p l e R s m args below meth c H locs cells slots Q vs pc st := fun ls h => lv_dconst0 C.1 C.2.1 hd (k ls h)
theorem g_i2d (C : CX p s m args meth c cc own nL ret) {x : Int32} (hd : decode cc pc = .ok (.i2d, 1)) (k : G p l e R s m args below meth c H locs cells slots Q vs (pc + 1) (.double (FP.i2d x) :: st)) : G p l e R s m args below meth c H locs cells slots Q vs pc (.int x :: st) := fun ls h => lv_i2d C.1 C.2.1 hd (k ls h)
theorem g_ddiv (C : CX p s m args meth c cc own nL ret) {x y : UInt64} (hne : vf_n64 (FP.ddiv x y)) (hd : decode cc pc = .ok (.ddiv, 1)) (k : G p l e R s m args below meth c H locs cells slots Q vs (pc + 1) (.double (FP.ddiv x y) :: st)) : G p l e R s m args below meth c H locs cells slots Q vs pc (.double y :: .double x :: st) := fun ls h => lv_ddiv C.1 C.2.1 hd hne (k ls h)
theorem g_dret (C : CX p s m args meth c cc own nL (some .double)) {x y : UInt64} (hv : x = y) (hd : decode cc pc = .ok (.dreturn, 1)) : G p l e R s m args below meth c s.heap [] cells slots (MQ below (bq_S (.double y)) args s cells slots (fun _ => False)) vs pc [.double x] := by
  subst hv
  exact fun ls h => W.dret C.1 C.2.1 C.2.2.2.2.2.1 (fun t ht hW => ⟨rfl, ht⟩) (fun q hq => absurd hq List.not_mem_nil) hd C.2.2.2.2.2.2
theorem g_dcmp (C : CX p s m args meth c cc own nL ret) {x y : UInt64} {op : CmpOp} (hd : decode cc pc = .ok (.dcmp op, 1)) (k : G p l e R s m args below meth c H locs cells slots Q vs (pc + 1) (.int (Op.cmpValue (FP.dcmp x y) op) :: st)) : G p l e R s m args below meth c H locs cells slots Q vs pc (.double y :: .double x :: st) := fun ls h => lv_dcmp C.1 C.2.1 hd (k ls h)
theorem g_d2raw (C : CX p s m args meth c cc own nL ret) {index : Nat} {b : UInt64} (hl : Cond.methodLink own index ⟨"java/lang/Double", "doubleToRawLongBits", "(D)J"⟩ ∈ WG) (hn : Cond.native ⟨"java/lang/Double", "doubleToRawLongBits", "(D)J"⟩ ∈ WG) (hs : Cond.static ⟨"java/lang/Double", "doubleToRawLongBits", "(D)J"⟩ ∈ WG) (hi : Cond.initialized "java/lang/Double" ∈ WG) (hvl : vs.length = nL) (hR : 1 ≤ R.frames ∧ (st.map fun v => v.category).sum + 15 ≤ R.locals) (hd : decode cc pc = .ok (.invokestatic index, 3)) (k : G p l e R s m args below meth c H locs cells slots Q vs (pc + 3) (.long b.toInt64 :: st)) : G p l e R s m args below meth c H locs cells slots Q vs pc (.double b :: st) := fun ls h => vn_d2l C.1 C.2.1 (C.2.2.1.trans (hvl.symm.trans h.1.symm)) C.2.2.2.1 (C.2.2.2.2.1 _ hl) (C.2.2.2.2.1 _ hn) (C.2.2.2.2.1 _ hs) (C.2.2.2.2.1 _ hi) hR.1 hR.2 hd (k ls h)
theorem g_ldc2d (C : CX p s m args meth c cc own nL ret) {index : Nat} {v : UInt64} (hw : Cond.constantDouble own index v ∈ WG) (hd : decode cc pc = .ok (.ldc2_w index, 3)) (k : G p l e R s m args below meth c H locs cells slots Q vs (pc + 3) (.double v :: st)) : G p l e R s m args below meth c H locs cells slots Q vs pc st := fun ls h => lv_ldc2d C.1 C.2.1 C.2.2.2.1 (C.2.2.2.2.1 _ hw) hd (k ls h)
end WC
