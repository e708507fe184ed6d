/-! worlds: a Ledger with its arrays; the reference with its arrays; what the tables say; calls of methods that only read -/
section WA
variable {dC : Nat → ClassId} {dI : Nat → Nat → Nat} {cI cL cJ : ClassId}
abbrev tyL (cI cL cJ : ClassId) : List (ClassId × FieldType) := [(cI, .int), (cL, .object RX1), (cJ, .long)]
/-- what the tables say of the classes and of the arrays -/
abbrev EV (dC : Nat → ClassId) (dI : Nat → Nat → Nat) (cI cL cJ : ClassId) (U : State) : Prop := va_K (dC, dI) vwCl (tyL cI cL cJ) U
/-- a Ledger at a, its arrays at t 0 .. t 9: the year y, the rows d 0 .. d 9 (parish, paid, burialsSoFar, kind, vaultOf, reservedFor, reservedUpTo, buried, buriedIn, feePaid), reached r -/
abbrev LW (cI : ClassId) (a : Nat) (t : Nat → Nat) (y : Int32) (d : Nat → Nat → Int32) (r : Int64) : va_W :=
  [(a, .inr (1, [.int y, .ref (t 0), .ref (t 1), .ref (t 2), .ref (t 3), .ref (t 4), .ref (t 5), .ref (t 6), .ref (t 7), .ref (t 8), .ref (t 9), .long r])),
   (t 0, .inl (cI, 10, .inl (d 0))), (t 1, .inl (cI, 10, .inl (d 1))), (t 2, .inl (cI, 10, .inl (d 2))), (t 3, .inl (cI, 40, .inl (d 3))), (t 4, .inl (cI, 40, .inl (d 4))),
   (t 5, .inl (cI, 40, .inl (d 5))), (t 6, .inl (cI, 40, .inl (d 6))), (t 7, .inl (cI, 120, .inl (d 7))), (t 8, .inl (cI, 120, .inl (d 8))), (t 9, .inl (cI, 120, .inl (d 9)))]
/-- the reference at o, its arrays at t 0 .. t 8 (z, rows, text, way, queue, sort, who, where, much), its numbers i 0 .. i 5 (saved, length, thrown, now, many, isWhole), h -/
abbrev MW (cI : ClassId) (o : Nat) (t : Nat → Nat) (A : Nat → Nat → Int32) (i : Nat → Int32) (h : Int64) : va_W :=
  [(o, .inr (3, [.ref (t 0), .ref (t 1), .int (i 0), .ref (t 2), .int (i 1), .int (i 2), .int (i 3), .ref (t 3), .ref (t 4), .int (i 4), .ref (t 5), .ref (t 6), .ref (t 7), .ref (t 8), .int (i 5), .long h])),
   (t 0, .inl (cI, 551, .inl (A 0))), (t 1, .inl (cI, 3306, .inl (A 1))), (t 2, .inl (cI, 60, .inl (A 2))), (t 3, .inl (cI, 40, .inl (A 3))), (t 4, .inl (cI, 40, .inl (A 4))),
   (t 5, .inl (cI, 12, .inl (A 5))), (t 6, .inl (cI, 12, .inl (A 6))), (t 7, .inl (cI, 12, .inl (A 7))), (t 8, .inl (cI, 12, .inl (A 8)))]
/-- the two static rows of Ledger: GREATEST_DEPTH, YEARS_OF_REST -/
def tbG (j : Nat) : Int32 := match j with
  | 0 => 3
  | 1 => 2
  | 2 => 1
  | _ => 0
def tbY (j : Nat) : Int32 := match j with
  | 0 => 30
  | 1 => 15
  | 2 => 60
  | _ => 0
abbrev SG : String := "GREATEST_DEPTH"
abbrev SY : String := "YEARS_OF_REST"
def ST (g1 g2 : Nat) (A : Nat → Prop) (U : State) (H : Heap) : Prop :=
  va_Z RX1 SG "[I" (.ref g1) A U H ∧ va_T .int g1 4 (fun j => .int (tbG j)) A U H ∧ va_Z RX1 SY "[I" (.ref g2) A U H ∧ va_T .int g2 4 (fun j => .int (tbY j)) A U H
variable {g1 g2 : Nat}
theorem ST.moved {A : Nat → Prop} {u U : State} {H : Heap} (hvm : u.vm.Alike U.vm) (h : ST g1 g2 A u H) : ST g1 g2 A U H := ⟨h.1.moved hvm, h.2.1.moved hvm, h.2.2.1.moved hvm, h.2.2.2.moved hvm⟩
theorem ST.kept {A : Nat → Prop} {U : State} {H H1 : Heap} (h : ST g1 g2 A U H) (hq : ∀ a : Nat, a < H.size → ¬ A a → H1[a]? = H[a]?) : ST g1 g2 A U H1 := ⟨h.1.kept hq, h.2.1.kept hq, h.2.2.1.kept hq, h.2.2.2.kept hq⟩
theorem ST.narrow {A B : Nat → Prop} {U : State} {H : Heap} (h : ST g1 g2 A U H) (hAB : ∀ q, B q → A q) : ST g1 g2 B U H := ⟨h.1.narrow hAB, h.2.1.narrow hAB, h.2.2.1.narrow hAB, h.2.2.2.narrow hAB⟩
/-- what a reading method of a Ledger wants -/
def LDP (dC : Nat → ClassId) (dI : Nat → Nat → Nat) (cI cL cJ : ClassId) (g1 g2 : Nat) (a : Nat) (t : Nat → Nat) (y : Int32) (d : Nat → Nat → Int32) (r : Int64) (U : State) : Prop :=
  va_P (dC, dI) vwCl (LW cI a t y d r) U.heap ∧ EV dC dI cI cL cJ U ∧ ST g1 g2 (fun _ => False) U U.heap
/-- what a reading method of the reference wants -/
def MDP (dC : Nat → ClassId) (dI : Nat → Nat → Nat) (cI cL cJ : ClassId) (o : Nat) (t : Nat → Nat) (A : Nat → Nat → Int32) (i : Nat → Int32) (h : Int64) (U : State) : Prop :=
  va_P (dC, dI) vwCl (MW cI o t A i h) U.heap ∧ EV dC dI cI cL cJ U
def Bl (Pre : State → Prop) : Prop := ∀ (U : State) (g : JFrame) (mk : MethodId) (a : Array Value), Pre U → Pre (U.calling g mk a)
theorem LDP_bl {a : Nat} {t : Nat → Nat} {y : Int32} {d : Nat → Nat → Int32} {r : Int64} : Bl (LDP dC dI cI cL cJ g1 g2 a t y d r) := fun U g mk v h =>
  ⟨h.1, va_K.moved (u := U) (U := U.calling g mk v) (Vm.Alike.refl U.vm) h.2.1, h.2.2.moved (u := U) (U := U.calling g mk v) (Vm.Alike.refl U.vm)⟩
theorem MDP_bl {o : Nat} {t : Nat → Nat} {A : Nat → Nat → Int32} {i : Nat → Int32} {h : Int64} : Bl (MDP dC dI cI cL cJ o t A i h) := fun U g mk v h =>
  ⟨h.1, va_K.moved (u := U) (U := U.calling g mk v) (Vm.Alike.refl U.vm) h.2⟩
theorem TR_bl : Bl (fun _ => True) := fun _ _ _ _ h => h
end WA
section WB
variable {p : Program} {l : Launch} {e : Env} {R : Room} {s : State} {m : MethodId} {args : Array Value} {below : List Frame} {meth : Method} {c : Code} {H : Heap} {locs : List Loc} {cells slots : Nat} {Q : State → Prop}
variable {cc : ByteArray} {own : String} {nL pc : Nat} {ret : Option FieldType} {vs : List (Option Value)} {st st0 : List Value}
variable {D : va_G} {cl : List vw_C} {A : Nat → Prop} {tys : List (ClassId × FieldType)} {ws : va_W} {H0 : Heap}
/-- a place of a static row, under any writes outside A -/
theorem g_ti (C : CX p s m args meth c cc own nL ret) {t N : Nat} {f : Nat → Int32} (hT : va_T .int t N (fun j => .int (f j)) A s s.heap) (hS : va_S A s.heap H locs) {i : Nat} (hi : i < N) (hN : N < 2147483648) (hd : decode cc pc = .ok (.iaload, 1)) (kk : G p l e R s m args below meth c H locs cells slots Q vs (pc + 1) (.int (f i) :: st)) : G p l e R s m args below meth c H locs cells slots Q vs pc (.int (nI i) :: .ref t :: st) := fun ls h =>
  va_ti C.1 C.2.1 hT hS (vp_in_nI hi hN) (by rw [nI_clamp (Nat.lt_trans hi hN)]) hd (kk ls h)
/-- a call's answer, the heap as it was -/
theorem bq_cs {v : Value} {a : Array Value} {g : JFrame} (hr : CallRun p l e R s m args below meth c H locs cells slots 0 0 g st (bq_S v a) (fun _ => False))
    (kk : W p l e R s m args below meth c H locs cells slots Q { g with pc := g.pc + 3, stack := v :: st }) : W p l e R s m args below meth c H locs cells slots Q g := by
  intro T hT X
  obtain ⟨v', st₀, t, T', L, h0, X', hL, e1, ⟨hv, hh⟩, st⟩ := hr T hT X
  cases hv
  obtain ⟨t2, a1, b1⟩ := kk T' (by rw [e1, hh, h0]) (Stand.forget X' (fun q h => (hL q h).elim))
  exact ⟨t2, st t2 a1, b1⟩
theorem WG_in (y : Cond) : ∀ w ∈ WG, w ∈ y :: WG := fun _ h => List.mem_cons_of_mem _ h
theorem WG_gi {ws : List Cond} (h : ∀ w ∈ ws, w ∈ WG) : GoodIn WG ws := fun w hw => ⟨h w hw, good_of_word (WG_good w (h w hw))⟩
theorem WG_cons {y : Cond} {ws : List Cond} (h : y ∈ WG) (h2 : ∀ w ∈ ws, w ∈ WG) : ∀ w ∈ y :: ws, w ∈ WG := fun w hw => by
  rcases List.mem_cons.mp hw with rfl | hw
  · exact h
  · exact h2 w hw
theorem WG_self : ∀ w ∈ WG, w ∈ WG := fun _ h => h
/-- a virtual call of a method that only reads -/
theorem g_pcV (C : CX p s m args meth c cc own nL ret) {bytes : ByteArray} {maxL2 index : Nat} {ret2 : Option FieldType} {rm : Room} {y : MethodName} {b : Nat} {As : List Value} {v : Value} {Cn : String} {Pre : State → Prop}
    (hM : Met l y (.code y bytes maxL2 ret2 :: WG) rm (va_Pc (.ref b :: As) Pre) (bq_S v) 0 0 (fun _ => False))
    (hl : Cond.methodLink own index y ∈ WG) (hi : Cond.instanceMethod y ∈ WG) (hv : Cond.selects Cn y y ∈ WG) (hn : Cond.initialized Cn ∈ WG) (hc : Cond.code y bytes maxL2 ret2 ∈ WG)
    (hy : y.cls = Cn ∧ y.cls ≠ "java/lang/invoke/MethodHandle" ∧ y.cls ≠ "java/lang/invoke/VarHandle" ∧ (parseMethodDescriptor y.desc).map (fun d => d.parameters.length) = some As.length)
    (hrm : rm.cells = 0 ∧ rm.slots = 0 ∧ rm.frames + 1 ≤ R.frames ∧ 8 + (maxL2 + 11) + rm.locals ≤ R.locals) (hbl : Bl Pre)
    (hrv : ∃ cell : Cell, H[b]? = some cell ∧ cell.vm.isStatics = false ∧ s.vm.findClass Cn = some cell.cls) (hpre : ∀ U : State, U.heap = H → s.WarmedH U.vm → Pre U)
    (hvl : vs.length = nL) (hst : st0 = As.reverse ++ .ref b :: st) (hcat : (st.map fun v => v.category).sum ≤ 8) (hcs : cells ≤ R.cells ∧ slots ≤ R.slots) (hd : decode cc pc = .ok (.invokevirtual index, 3))
    (kk : G p l e R s m args below meth c H locs cells slots Q vs (pc + 3) (v :: st)) : G p l e R s m args below meth c H locs cells slots Q vs pc st0 := by
  subst hst
  intro ls h
  refine bq_cs (W.runV (As := As) (rest := st) (Ts := WG) ⟨C.1, C.2.1, C.2.2.1, C.2.2.2.1, C.2.2.2.2.1⟩ hM (cwV As.length C.2.2.2.2.1 (WG_gi (WG_cons hl (WG_cons hi (WG_cons hv (WG_cons hn (WG_cons hc WG_self)))))) rfl hrm.1 hrm.2.1 hy ⟨hrm.2.2.1, hrm.2.2.2⟩) ⟨fun a U g mk q => ⟨q.1, hbl U g mk a q.2⟩, hrv, fun U hU hW => ⟨rfl, hpre U hU hW⟩⟩ rfl rfl (h.1.trans hvl) rfl (lv_room hcat) hd hcs) (kk ls h)
/-- a static call of a method that only reads -/
theorem g_pcS (C : CX p s m args meth c cc own nL ret) {bytes : ByteArray} {maxL2 index : Nat} {ret2 : Option FieldType} {rm : Room} {y : MethodName} {As : List Value} {v : Value} {Pre : State → Prop}
    (hM : Met l y (.code y bytes maxL2 ret2 :: WG) rm (va_Pc As Pre) (bq_S v) 0 0 (fun _ => False))
    (hl : Cond.methodLink own index y ∈ WG) (hi : Cond.static y ∈ WG) (hn : Cond.initialized own ∈ WG) (hc : Cond.code y bytes maxL2 ret2 ∈ WG)
    (hy : y.cls = own ∧ y.cls ≠ "java/lang/invoke/MethodHandle" ∧ y.cls ≠ "java/lang/invoke/VarHandle" ∧ (parseMethodDescriptor y.desc).map (fun d => d.parameters.length) = some As.length)
    (hrm : rm.cells = 0 ∧ rm.slots = 0 ∧ rm.frames + 1 ≤ R.frames ∧ 8 + (maxL2 + 11) + rm.locals ≤ R.locals) (hbl : Bl Pre)
    (hpre : ∀ U : State, U.heap = H → s.WarmedH U.vm → Pre U)
    (hvl : vs.length = nL) (hst : st0 = As.reverse ++ st) (hcat : (st.map fun v => v.category).sum ≤ 8) (hcs : cells ≤ R.cells ∧ slots ≤ R.slots) (hd : decode cc pc = .ok (.invokestatic index, 3))
    (kk : G p l e R s m args below meth c H locs cells slots Q vs (pc + 3) (v :: st)) : G p l e R s m args below meth c H locs cells slots Q vs pc st0 := by
  subst hst
  intro ls h
  refine bq_cs (W.runS (As := As) (rest := st) (Ts := WG) ⟨C.1, C.2.1, C.2.2.1, C.2.2.2.1, C.2.2.2.2.1⟩ hM (cwS As.length C.2.2.2.2.1 (WG_gi (WG_cons hl (WG_cons hi (WG_cons hn (WG_cons hc WG_self))))) rfl hrm.1 hrm.2.1 hy ⟨hrm.2.2.1, hrm.2.2.2⟩) ⟨fun a U g mk q => ⟨q.1, hbl U g mk a q.2⟩, fun U hU hW => ⟨rfl, hpre U hU hW⟩⟩ rfl rfl (h.1.trans hvl) rfl (lv_room hcat) hd hcs) (kk ls h)
variable {dC : Nat → ClassId} {dI : Nat → Nat → Nat} {cI cL cJ : ClassId} {g1 g2 : Nat}
theorem LDP_at {a : Nat} {t : Nat → Nat} {y : Int32} {d : Nat → Nat → Int32} {r : Int64} (hK : EV dC dI cI cL cJ s) (hP : va_P (dC, dI) vwCl (LW cI a t y d r) H) (hZ : ST g1 g2 A s s.heap) (hS : va_S A s.heap H locs) : ∀ U : State, U.heap = H → s.WarmedH U.vm → LDP dC dI cI cL cJ g1 g2 a t y d r U := by
  intro U hU hW
  subst hU
  exact ⟨hP, va_K.moved hW.alike hK, ((hZ.kept hS.2.1).moved hW.alike).narrow (fun _ h => h.elim)⟩
theorem MDP_at {o : Nat} {t : Nat → Nat} {B : Nat → Nat → Int32} {i : Nat → Int32} {h : Int64} (hK : EV dC dI cI cL cJ s) (hP : va_P (dC, dI) vwCl (MW cI o t B i h) H) : ∀ U : State, U.heap = H → s.WarmedH U.vm → MDP dC dI cI cL cJ o t B i h U := by
  intro U hU hW
  subst hU
  exact ⟨hP, va_K.moved hW.alike hK⟩
/-- a virtual call of a Ledger's reading method -/
theorem g_lcV (C : CX p s m args meth c cc own nL ret) {bytes : ByteArray} {maxL2 index : Nat} {ret2 : Option FieldType} {rm : Room} {y : MethodName} {As : List Value} {v : Value}
    {a : Nat} {t : Nat → Nat} {y0 : Int32} {d : Nat → Nat → Int32} {r : Int64} (hK : EV dC dI cI cL cJ s) (hP : va_P (dC, dI) vwCl (LW cI a t y0 d r) H) (hZ : ST g1 g2 A s s.heap) (hS : va_S A s.heap H locs)
    (hM : Met l y (.code y bytes maxL2 ret2 :: WG) rm (va_Pc (.ref a :: As) (LDP dC dI cI cL cJ g1 g2 a t y0 d r)) (bq_S v) 0 0 (fun _ => False))
    (hl : Cond.methodLink own index y ∈ WG) (hi : Cond.instanceMethod y ∈ WG) (hv : Cond.selects RX1 y y ∈ WG) (hc : Cond.code y bytes maxL2 ret2 ∈ WG)
    (hy : y.cls = RX1 ∧ y.cls ≠ "java/lang/invoke/MethodHandle" ∧ y.cls ≠ "java/lang/invoke/VarHandle" ∧ (parseMethodDescriptor y.desc).map (fun d => d.parameters.length) = some As.length)
    (hrm : rm.cells = 0 ∧ rm.slots = 0 ∧ rm.frames + 1 ≤ R.frames ∧ 8 + (maxL2 + 11) + rm.locals ≤ R.locals)
    (hvl : vs.length = nL) (hst : st0 = As.reverse ++ .ref a :: st) (hcat : (st.map fun v => v.category).sum ≤ 8) (hcs : cells ≤ R.cells ∧ slots ≤ R.slots) (hd : decode cc pc = .ok (.invokevirtual index, 3))
    (kk : G p l e R s m args below meth c H locs cells slots Q vs (pc + 3) (v :: st)) : G p l e R s m args below meth c H locs cells slots Q vs pc st0 :=
  g_pcV C hM hl hi hv wn_X1 hc hy hrm LDP_bl (va_recv (ci := 1) (q0 := 0) hK hP rfl rfl) (LDP_at hK hP hZ hS) hvl hst hcat hcs hd kk
/-! loops: a measure that falls; the locals as a function of the loop's own values -/
theorem g_lp1 {A1 : Type} (I : A1 → Prop) (μ : A1 → Nat) (L : A1 → List (Option Value)) (a1 : A1) (h0 : I a1) (hL : L a1 = vs)
    (hs : ∀ a1, I a1 → (∀ b1, I b1 → μ b1 < μ a1 → G p l e R s m args below meth c H locs cells slots Q (L b1) pc st) → G p l e R s m args below meth c H locs cells slots Q (L a1) pc st) : G p l e R s m args below meth c H locs cells slots Q vs pc st := by
  have K : ∀ n a1, μ a1 < n → I a1 → G p l e R s m args below meth c H locs cells slots Q (L a1) pc st := by
    intro n
    induction n with
    | zero => intro a1 h; exact absurd h (Nat.not_lt_zero _)
    | succ n ih => intro a1 h hI; exact hs a1 hI (fun b1 hb hlt => ih b1 (by omega) hb)
  rw [← hL]
  exact K _ a1 (Nat.lt_succ_self _) h0
theorem g_lp2 {A1 A2 : Type} (I : A1 → A2 → Prop) (μ : A1 → A2 → Nat) (L : A1 → A2 → List (Option Value)) (a1 : A1) (a2 : A2) (h0 : I a1 a2) (hL : L a1 a2 = vs)
    (hs : ∀ a1 a2, I a1 a2 → (∀ b1 b2, I b1 b2 → μ b1 b2 < μ a1 a2 → G p l e R s m args below meth c H locs cells slots Q (L b1 b2) pc st) → G p l e R s m args below meth c H locs cells slots Q (L a1 a2) pc st) : G p l e R s m args below meth c H locs cells slots Q vs pc st :=
  g_lp1 (A1 := A1 × A2) (fun a => I a.1 a.2) (fun a => μ a.1 a.2) (fun a => L a.1 a.2) (a1, a2) h0 hL (fun a hI ih => hs a.1 a.2 hI (fun b1 b2 hb hlt => ih (b1, b2) hb hlt))
theorem g_lp3 {A1 A2 A3 : Type} (I : A1 → A2 → A3 → Prop) (μ : A1 → A2 → A3 → Nat) (L : A1 → A2 → A3 → List (Option Value)) (a1 : A1) (a2 : A2) (a3 : A3) (h0 : I a1 a2 a3) (hL : L a1 a2 a3 = vs)
    (hs : ∀ a1 a2 a3, I a1 a2 a3 → (∀ b1 b2 b3, I b1 b2 b3 → μ b1 b2 b3 < μ a1 a2 a3 → G p l e R s m args below meth c H locs cells slots Q (L b1 b2 b3) pc st) → G p l e R s m args below meth c H locs cells slots Q (L a1 a2 a3) pc st) : G p l e R s m args below meth c H locs cells slots Q vs pc st :=
  g_lp1 (A1 := A1 × A2 × A3) (fun a => I a.1 a.2.1 a.2.2) (fun a => μ a.1 a.2.1 a.2.2) (fun a => L a.1 a.2.1 a.2.2) (a1, a2, a3) h0 hL (fun a hI ih => hs a.1 a.2.1 a.2.2 hI (fun b1 b2 b3 hb hlt => ih (b1, b2, b3) hb hlt))
/-- the same with a heap that changes -/
theorem g_lpH {A1 : Type} (I : A1 → Heap → List Loc → Prop) (μ : A1 → Nat) (L : A1 → List (Option Value)) (a1 : A1) (h0 : I a1 H locs) (hL : L a1 = vs)
    (hs : ∀ a1 H locs, I a1 H locs → (∀ b1 H locs, I b1 H locs → μ b1 < μ a1 → G p l e R s m args below meth c H locs cells slots Q (L b1) pc st) → G p l e R s m args below meth c H locs cells slots Q (L a1) pc st) : G p l e R s m args below meth c H locs cells slots Q vs pc st := by
  have K : ∀ n a1 H locs, μ a1 < n → I a1 H locs → G p l e R s m args below meth c H locs cells slots Q (L a1) pc st := by
    intro n
    induction n with
    | zero => intro a1 _ _ h; exact absurd h (Nat.not_lt_zero _)
    | succ n ih => intro a1 H locs h hI; exact hs a1 H locs hI (fun b1 H locs hb hlt => ih b1 H locs (by omega) hb)
  rw [← hL]
  exact K _ a1 H locs (Nat.lt_succ_self _) h0
/-! two roads that meet again: the value v on the stack there -/
theorem g_d2 {x y v : Int32} (J : Nat) (body : (∀ z : Int32, z = v → G p l e R s m args below meth c H locs cells slots Q vs J (.int z :: st)) → G p l e R s m args below meth c H locs cells slots Q vs pc (.int y :: .int x :: st)) (k : G p l e R s m args below meth c H locs cells slots Q vs J (.int v :: st)) : G p l e R s m args below meth c H locs cells slots Q vs pc (.int y :: .int x :: st) := body (fun z hz => hz ▸ k)
theorem g_d1 {x v : Int32} (J : Nat) (body : (∀ z : Int32, z = v → G p l e R s m args below meth c H locs cells slots Q vs J (.int z :: st)) → G p l e R s m args below meth c H locs cells slots Q vs pc (.int x :: st)) (k : G p l e R s m args below meth c H locs cells slots Q vs J (.int v :: st)) : G p l e R s m args below meth c H locs cells slots Q vs pc (.int x :: st) := body (fun z hz => hz ▸ k)
theorem g_d0 {v : Int32} (J : Nat) (body : (∀ z : Int32, z = v → G p l e R s m args below meth c H locs cells slots Q vs J (.int z :: st)) → G p l e R s m args below meth c H locs cells slots Q vs pc st) (k : G p l e R s m args below meth c H locs cells slots Q vs J (.int v :: st)) : G p l e R s m args below meth c H locs cells slots Q vs pc st := body (fun z hz => hz ▸ k)
end WB
