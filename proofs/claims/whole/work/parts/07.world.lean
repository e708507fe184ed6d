/-! worlds: a Ledger with its arrays; the reference with its arrays; what the tables say; calls of methods that only read -/
section WA
variable {dC : Nat → ClassId} {dI : Nat → Nat → Nat} {cI cL cJ : ClassId}
abbrev tyL (cI cL cJ : ClassId) : List (ClassId × FieldType) := [(cI, .int), (cL, .object RX1), (cJ, .long)]
/-- what the tables say of the classes and of the arrays -/
abbrev EV (dC : Nat → ClassId) (dI : Nat → Nat → Nat) (cI cL cJ : ClassId) (U : State) : Prop := va_K (dC, dI) vwCl (tyL cI cL cJ) U
/-- a Ledger at a, its arrays at t 0 .. t 9: the year y, the rows d 0 .. d 9 (parish, paid, burialsSoFar, kind, vaultOf, reservedFor, reservedUpTo, buried, buriedIn, feePaid), reached r -/
abbrev LW (cI : ClassId) (a : Nat) (t : Nat → Nat) (y : Int32) (d : Nat → Nat → Int32) (r : Int64) : va_W :=
  [(a, .inr (1, [.int y, .ref (t 0), .ref (t 1), .ref (t 2), .ref (t 3), .ref (t 4), .ref (t 5), .ref (t 6), .ref (t 7), .ref (t 8), .ref (t 9), .long r])),
   (t 0, .inl (cI, 10, .inl (d 0))), (t 1, .inl (cI, 10, .inl (d 1))), (t 2, .inl (cI, 10, .inl (d 2))), (t 3, .inl (cI, 40, .inl (d 3))), (t 4, .inl (cI, 40, .inl (d 4))),
   (t 5, .inl (cI, 40, .inl (d 5))), (t 6, .inl (cI, 40, .inl (d 6))), (t 7, .inl (cI, 120, .inl (d 7))), (t 8, .inl (cI, 120, .inl (d 8))), (t 9, .inl (cI, 120, .inl (d 9)))]
/-- the reference at o, its arrays at t 0 .. t 8 (z, rows, text, way, queue, sort, who, where, much), its numbers i 0 .. i 5 (saved, length, thrown, now, many, isWhole), h -/
abbrev MW (cI : ClassId) (o : Nat) (t : Nat → Nat) (A : Nat → Nat → Int32) (i : Nat → Int32) (h : Int64) : va_W :=
  [(o, .inr (3, [.ref (t 0), .ref (t 1), .int (i 0), .ref (t 2), .int (i 1), .int (i 2), .int (i 3), .ref (t 3), .ref (t 4), .int (i 4), .ref (t 5), .ref (t 6), .ref (t 7), .ref (t 8), .int (i 5), .long h])),
   (t 0, .inl (cI, 551, .inl (A 0))), (t 1, .inl (cI, 3306, .inl (A 1))), (t 2, .inl (cI, 60, .inl (A 2))), (t 3, .inl (cI, 40, .inl (A 3))), (t 4, .inl (cI, 40, .inl (A 4))),
   (t 5, .inl (cI, 12, .inl (A 5))), (t 6, .inl (cI, 12, .inl (A 6))), (t 7, .inl (cI, 12, .inl (A 7))), (t 8, .inl (cI, 12, .inl (A 8)))]
/-- the two static rows of Ledger: GREATEST_DEPTH, YEARS_OF_REST -/
def tbG (j : Nat) : Int32 := match j with
  | 0 => 3
  | 1 => 2
  | 2 => 1
  | _ => 0
def tbY (j : Nat) : Int32 := match j with
  | 0 => 30
  | 1 => 15
  | 2 => 60
  | _ => 0
abbrev SG : String := "GREATEST_DEPTH"
abbrev SY : String := "YEARS_OF_REST"
def ST (g1 g2 : Nat) (A : Nat → Prop) (U : State) (H : Heap) : Prop :=
  va_Z RX1 SG "[I" (.ref g1) A U H ∧ va_T .int g1 4 (fun j => .int (tbG j)) A U H ∧ va_Z RX1 SY "[I" (.ref g2) A U H ∧ va_T .int g2 4 (fun j => .int (tbY j)) A U H
variable {g1 g2 : Nat}
theorem ST.moved {A : Nat → Prop} {u U : State} {H : Heap} (hvm : u.vm.Alike U.vm) (h : ST g1 g2 A u H) : ST g1 g2 A U H := ⟨h.1.moved hvm, h.2.1.moved hvm, h.2.2.1.moved hvm, h.2.2.2.moved hvm⟩
theorem ST.kept {A : Nat → Prop} {U : State} {H H1 : Heap} (h : ST g1 g2 A U H) (hq : ∀ a : Nat, a < H.size → ¬ A a → H1[a]? = H[a]?) : ST g1 g2 A U H1 := ⟨h.1.kept hq, h.2.1.kept hq, h.2.2.1.kept hq, h.2.2.2.kept hq⟩
theorem ST.narrow {A B : Nat → Prop} {U : State} {H : Heap} (h : ST g1 g2 A U H) (hAB : ∀ q, B q → A q) : ST g1 g2 B U H := ⟨h.1.narrow hAB, h.2.1.narrow hAB, h.2.2.1.narrow hAB, h.2.2.2.narrow hAB⟩
/-- what a reading method of a Ledger wants -/
def LDP (dC : Nat → ClassId) (dI : Nat → Nat → Nat) (cI cL cJ : ClassId) (g1 g2 : Nat) (a : Nat) (t : Nat → Nat) (y : Int32) (d : Nat → Nat → Int32) (r : Int64) (U : State) : Prop :=
  va_P (dC, dI) vwCl (LW cI a t y d r) U.heap ∧ EV dC dI cI cL cJ U ∧ ST g1 g2 (fun _ => False) U U.heap
/-- what a reading method of the reference wants -/
def MDP (dC : Nat → ClassId) (dI : Nat → Nat → Nat) (cI cL cJ : ClassId) (o : Nat) (t : Nat → Nat) (A : Nat → Nat → Int32) (i : Nat → Int32) (h : Int64) (U : State) : Prop :=
  va_P (dC, dI) vwCl (MW cI o t A i h) U.heap ∧ EV dC dI cI cL cJ U
def Bl (Pre : State → Prop) : Prop := ∀ (U : State) (g : JFrame) (mk : MethodId) (a : Array Value), Pre U → Pre (U.calling g mk a)
theorem LDP_bl {a : Nat} {t : Nat → Nat} {y : Int32} {d : Nat → Nat → Int32} {r : Int64} : Bl (LDP dC dI cI cL cJ g1 g2 a t y d r) := fun U g mk v h =>
  ⟨h.1, va_K.moved (u := U) (U := U.calling g mk v) (Vm.Alike.refl U.vm) h.2.1, h.2.2.moved (u := U) (U := U.calling g mk v) (Vm.Alike.refl U.vm)⟩
theorem MDP_bl {o : Nat} {t : Nat → Nat} {A : Nat → Nat → Int32} {i : Nat → Int32} {h : Int64} : Bl (MDP dC dI cI cL cJ o t A i h) := fun U g mk v h =>
  ⟨h.1, va_K.moved (u := U) (U := U.calling g mk v) (Vm.Alike.refl U.vm) h.2⟩
theorem TR_bl : Bl (fun _ => True) := fun _ _ _ _ h => h
end WA
section WB
variable {p : Program} {l : Launch} {e : Env} {R : Room} {s : State} {m : MethodId} {args : Array Value} {below : List Frame} {meth : Method} {c : Code} {H : Heap} {locs : List Loc} {cells slots : Nat} {Q : State → Prop}
variable {cc : ByteArray} {own : String} {nL pc : Nat} {ret : Option FieldType} {vs : List (Option Value)} {st st0 : List Value}
variable {D : va_G} {cl : List vw_C} {A : Nat → Prop} {tys : List (ClassId × FieldType)} {ws : va_W} {H0 : Heap}
/-- a place of a static row, under any writes outside A -/
theorem g_ti (C : CX p s m args meth c cc own nL ret) {t N : Nat} {f : Nat → Int32} (hT : va_T .int t N (fun j => .int (f j)) A s s.heap) (hS : va_S A s.heap H locs) {i : Nat} (hi : i < N) (hN : N < 2147483648) (hd : decode cc pc = .ok (.iaload, 1)) (kk : G p l e R s m args below meth c H locs cells slots Q vs (pc + 1) (.int (f i) :: st)) : G p l e R s m args below meth c H locs cells slots Q vs pc (.int (nI i) :: .ref t :: st) := fun ls h =>
  va_ti C.1 C.2.1 hT hS (vp_in_nI hi hN) (by rw [nI_clamp (Nat.lt_trans hi hN)]) hd (kk ls h)
/-- a call's answer, the heap as it was -/
theorem bq_cs {v : Value} {a : Array Value} {ls : Array Slot} {g : JFrame} (hr : CallRun p l e R s m args below meth c H locs cells slots 0 0 g st (bq_S v a) (fun _ => False))
    (kk : W p l e R s m args below meth c H locs cells slots Q { g with pc := g.pc + 3, stack := v :: st }) : W p l e R s m args below meth c H locs cells slots Q g := by
  intro T hT X
  obtain ⟨v', st₀, t, T', L, h0, X', hL, e1, ⟨hv, hh⟩, st⟩ := hr T hT X
  cases hv
  obtain ⟨t2, a1, b1⟩ := kk T' (by rw [e1, hh, h0]) (Stand.forget X' (fun q h => (hL q h).elim))
  exact ⟨t2, st t2 a1, b1⟩
theorem WG_in (y : Cond) : ∀ w ∈ WG, w ∈ y :: WG := fun _ h => List.mem_cons_of_mem _ h
theorem WG_gi {ws : List Cond} (h : ∀ w ∈ ws, w ∈ WG) : GoodIn WG ws := fun w hw => ⟨h w hw, good_of_word (WG_good w (h w hw))⟩
theorem WG_cons {y : Cond} {ws : List Cond} (h : y ∈ WG) (h2 : ∀ w ∈ ws, w ∈ WG) : ∀ w ∈ y :: ws, w ∈ WG := fun w hw => by
  rcases List.mem_cons.mp hw with rfl | hw
  · exact h
  · exact h2 w hw
theorem WG_self : ∀ w ∈ WG, w ∈ WG := fun _ h => h
/-- a virtual call of a method that only reads -/
theorem g_pcV (C : CX p s m args meth c cc own nL ret) {bytes : ByteArray} {maxL2 index : Nat} {ret2 : Option FieldType} {rm : Room} {y : MethodName} {b : Nat} {As : List Value} {v : Value} {Cn : String} {Pre : State → Prop}
    (hM : Met l y (.code y bytes maxL2 ret2 :: WG) rm (va_Pc (.ref b :: As) Pre) (bq_S v) 0 0 (fun _ => False))
    (hl : Cond.methodLink own index y ∈ WG) (hi : Cond.instanceMethod y ∈ WG) (hv : Cond.selects Cn y y ∈ WG) (hn : Cond.initialized Cn ∈ WG) (hc : Cond.code y bytes maxL2 ret2 ∈ WG)
    (hy : y.cls = Cn ∧ y.cls ≠ "java/lang/invoke/MethodHandle" ∧ y.cls ≠ "java/lang/invoke/VarHandle" ∧ (parseMethodDescriptor y.desc).map (fun d => d.parameters.length) = some As.length)
    (hrm : rm.cells = 0 ∧ rm.slots = 0 ∧ rm.frames + 1 ≤ R.frames ∧ 8 + (maxL2 + 11) + rm.locals ≤ R.locals) (hbl : Bl Pre)
    (hrv : ∃ cell : Cell, H[b]? = some cell ∧ cell.vm.isStatics = false ∧ s.vm.findClass Cn = some cell.cls) (hpre : ∀ U : State, U.heap = H → s.WarmedH U.vm → Pre U)
    (hvl : vs.length = nL) (hst : st0 = As.reverse ++ .ref b :: st) (hcat : (st.map fun v => v.category).sum ≤ 8) (hcs : cells ≤ R.cells ∧ slots ≤ R.slots) (hd : decode cc pc = .ok (.invokevirtual index, 3))
    (kk : G p l e R s m args below meth c H locs cells slots Q vs (pc + 3) (v :: st)) : G p l e R s m args below meth c H locs cells slots Q vs pc st0 := by
  subst hst
  intro ls h
  refine bq_cs (W.runV (As := As) (rest := st) (Ts := WG) ⟨C.1, C.2.1, C.2.2.1, C.2.2.2.1, C.2.2.2.2.1⟩ hM (cwV As.length C.2.2.2.2.1 (WG_gi (WG_cons hl (WG_cons hi (WG_cons hv (WG_cons hn (WG_cons hc WG_self)))))) rfl hrm.1 hrm.2.1 hy ⟨hrm.2.2.1, hrm.2.2.2⟩) ⟨fun a U g mk q => ⟨q.1, hbl U g mk a q.2⟩, hrv, fun U hU hW => ⟨rfl, hpre U hU hW⟩⟩ rfl rfl (h.1.trans hvl) rfl (lv_room hcat) hd hcs) (kk ls h)
end WB
