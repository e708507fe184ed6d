/-! static calls with a world of their own; the law's constants -/
theorem wq_L_155 : Cond.constant RL 155 (2147483647) ∈ WG := List.mem_filter.mpr ⟨wr_3 _ (List.mem_of_getElem? (i := 135) rfl), rfl⟩
theorem wq_L_7 : Cond.constant RL 7 (607225278) ∈ WG := List.mem_filter.mpr ⟨wr_2 _ (List.mem_of_getElem? (i := 58) rfl), rfl⟩
section PA
variable {p : Program} {l : Launch} {e : Env} {R : Room} {s : State} {m : MethodId} {args : Array Value} {below : List Frame} {meth : Method} {c : Code} {H : Heap} {locs : List Loc} {cells slots : Nat} {Q : State → Prop}
variable {cc : ByteArray} {own : String} {nL pc : Nat} {ret : Option FieldType} {vs : List (Option Value)} {st st0 : List Value} {A A0 A1 : Nat → Prop} {D : va_G} {cl : List vw_C} {ws : va_W} {H0 : Heap} {cI cL cJ : ClassId}
theorem g_pkS (C : CX p s m args meth c cc own nL ret) {bytes : ByteArray} {maxL2 index : Nat} {ret2 : Option FieldType} {rm : Room} {y : MethodName} {As : List Value} {v : Value} {Pre : State → Prop} (n0 : Nat) (hn0 : As.length = n0)
    (hM : Met l y (.code y bytes maxL2 ret2 :: WG) rm (va_Pc As Pre) (bq_S v) 0 0 (fun _ => False))
    (hl : Cond.methodLink own index y ∈ WG) (hi : Cond.static y ∈ WG) (hn : Cond.initialized own ∈ WG) (hc : Cond.code y bytes maxL2 ret2 ∈ WG)
    (hy : y.cls = own ∧ y.cls ≠ "java/lang/invoke/MethodHandle" ∧ y.cls ≠ "java/lang/invoke/VarHandle" ∧ (parseMethodDescriptor y.desc).map (fun d => d.parameters.length) = some n0)
    (hrm : rm.cells = 0 ∧ rm.slots = 0 ∧ rm.frames + 1 ≤ R.frames ∧ 8 + (maxL2 + 11) + rm.locals ≤ R.locals) (hbl : Bl Pre)
    (hpre : ∀ U : State, U.heap = H → s.WarmedH U.vm → Pre U)
    (hvl : vs.length = nL) (hst : st0 = As.reverse ++ st) (hcat : (st.map fun v => v.category).sum ≤ 8) (hcs : cells ≤ R.cells ∧ slots ≤ R.slots) (hd : decode cc pc = .ok (.invokestatic index, 3))
    (kk : G p l e R s m args below meth c H locs cells slots Q vs (pc + 3) (v :: st)) : G p l e R s m args below meth c H locs cells slots Q vs pc st0 := by
  subst hn0
  exact g_pcS C hM hl hi hn hc hy hrm hbl hpre hvl hst hcat hcs hd kk
/-- a static call that changes cells of A1 -/
theorem g_mS (C : CX p s m args meth c cc own nL ret) {bytes : ByteArray} {maxL2 index mc ms : Nat} {ret2 : Option FieldType} {rm : Room} {y : MethodName} {As : List Value} {v : Option Value} {Pre : State → Prop} {Post : Heap → Prop} (n0 : Nat) (hn0 : As.length = n0)
    (hM : Met l y (.code y bytes maxL2 ret2 :: WG) rm (va_Pc As Pre) (bq_M v Post A1) mc ms A1)
    (hl : Cond.methodLink own index y ∈ WG) (hi : Cond.static y ∈ WG) (hn : Cond.initialized own ∈ WG) (hc : Cond.code y bytes maxL2 ret2 ∈ WG)
    (hy : y.cls = own ∧ y.cls ≠ "java/lang/invoke/MethodHandle" ∧ y.cls ≠ "java/lang/invoke/VarHandle" ∧ (parseMethodDescriptor y.desc).map (fun d => d.parameters.length) = some n0)
    (hrm : rm.cells = mc ∧ rm.slots = ms ∧ rm.frames + 1 ≤ R.frames ∧ 8 + (maxL2 + 11) + rm.locals ≤ R.locals) (hbl : Bl Pre)
    (hpre : ∀ U : State, U.heap = H → s.WarmedH U.vm → Pre U)
    (hvl : vs.length = nL) (hst : st0 = As.reverse ++ st) (hcat : (st.map fun v => v.category).sum ≤ 8) (hcs : cells + mc ≤ R.cells ∧ slots + ms ≤ R.slots) (hS : va_S A0 H0 H locs) (hA : ∀ q, q < H.size → A1 q → A0 q) (hf : ∀ q, A1 q → A0 q) (hd : decode cc pc = .ok (.invokestatic index, 3))
    (kk : ∀ (H1 : Heap) (locs1 : List Loc), Post H1 → H.size ≤ H1.size → (∀ q : Nat, q < H.size → ¬ A1 q → H1[q]? = H[q]?) → va_S A0 H0 H1 locs1 → G p l e R s m args below meth c H1 locs1 (cells + mc) (slots + ms) Q vs (pc + 3) (v.toList ++ st)) : G p l e R s m args below meth c H locs cells slots Q vs pc st0 := by
  subst hst
  subst hn0
  intro ls h
  exact bq_cm (va_runS (As := As) (rest := st) (Ts := WG) ⟨C.1, C.2.1, C.2.2.1, C.2.2.2.1, C.2.2.2.2.1⟩ hM (cwS As.length C.2.2.2.2.1 (WG_gi (WG_cons hl (WG_cons hi (WG_cons hn (WG_cons hc WG_self))))) rfl hrm.1 hrm.2.1 hy ⟨hrm.2.2.1, hrm.2.2.2⟩) ⟨fun a U g mk q => ⟨q.1, hbl U g mk a q.2⟩, fun U hU hW => ⟨rfl, hpre U hU hW⟩⟩ rfl rfl (h.1.trans hvl) rfl (lv_room hcat) hd hcs) hS hA hf (fun H1 locs1 h1 h2 h3 h4 => kk H1 locs1 h1 h2 h3 h4 ls h)
theorem g_newaL (C : CX p s m args meth c cc own nL ret) {n : Nat} (hK : va_K D cl (tyL cI cL cJ) s) (hP : va_P D cl ws H) (hD : va_D A ws) (hS : va_S A H0 H locs) (hA : ∀ q, H0.size ≤ q → A q) (hn : n < 2147483648) (hb : n * componentBytes .long ≤ 536870912) (hcells : cells + 1 ≤ R.cells) (hslots : slots + n ≤ R.slots) (hd : decode cc pc = .ok (.newarray .long, 2))
    (kk : ∀ (q : Nat) (H1 : Heap), va_P D cl (ws ++ [(q, .inl (cJ, n, .inr (.inl (fun _ => 0))))]) H1 → va_D A (ws ++ [(q, .inl (cJ, n, .inr (.inl (fun _ => 0))))]) → va_S A H0 H1 locs → G p l e R s m args below meth c H1 locs (cells + 1) (slots + n) Q vs (pc + 2) (.ref q :: st)) : G p l e R s m args below meth c H locs cells slots Q vs pc (.int (nI n) :: st) := by
  intro ls h
  refine va_newa (atype := .long) (ty := .long) (a0 := (n, .inr (.inl (fun _ => 0)))) (N' := n) C.1 C.2.1 (C.2.2.2.2.1 _ wa_long) rfl hK hP hD hS hA (fun cA => rfl) (nI_pos hn) (nI_clamp hn) hb hcells hslots hd (fun q cA H1 hK1 hP1 hD1 hS1 => ?_)
  have e1 : s.vm.findClass ("[" ++ FieldType.long.toString) = some cA := (hK1.2 3 (cA, .long) rfl).2
  have e2 : s.vm.findClass ("[" ++ FieldType.long.toString) = some cJ := (hK.2 2 (cJ, .long) rfl).2
  have e3 : cA = cJ := Option.some.inj (e1.symm.trans e2)
  subst e3
  exact kk q H1 hP1 hD1 hS1 ls h

/-- a local forgotten -/
theorem g_fgn (k : Nat) (kk : G p l e R s m args below meth c H locs cells slots Q (vs.set k none) pc st) : G p l e R s m args below meth c H locs cells slots Q vs pc st := by
  intro ls h
  refine kk ls ⟨by rw [List.length_set]; exact h.1, h.2.1, fun q hq => ?_⟩
  obtain ⟨j, h1, h2⟩ := en_mem.mp hq
  refine h.2.2 q (en_mem.mpr ⟨j, h1, ?_⟩)
  rw [List.getElem?_set] at h2
  split at h2
  · split at h2
    · cases h2
    · cases h2
  · exact h2
/-- a fact where ways meet -/
theorem g_fj {F : Prop} {st1 : List Value} (J : Nat) (body : (F → G p l e R s m args below meth c H locs cells slots Q vs J st1) → G p l e R s m args below meth c H locs cells slots Q vs pc st) (k : F → G p l e R s m args below meth c H locs cells slots Q vs J st1) : G p l e R s m args below meth c H locs cells slots Q vs pc st := body k
/-- a local's value where ways meet -/
theorem g_fl {st1 : List Value} (L : Int32 → List (Option Value)) (v : Int32) (J : Nat) (body : (∀ z : Int32, z = v → G p l e R s m args below meth c H locs cells slots Q (L z) J st1) → G p l e R s m args below meth c H locs cells slots Q vs pc st) (k : G p l e R s m args below meth c H locs cells slots Q (L v) J st1) : G p l e R s m args below meth c H locs cells slots Q vs pc st := body (fun z hz => hz ▸ k)
theorem g_fg9 {a0 a1 a2 a3 a4 a5 a6 a7 a8 b : Option Value} {t : List (Option Value)} (k : G p l e R s m args below meth c H locs cells slots Q (a0 :: a1 :: a2 :: a3 :: a4 :: a5 :: a6 :: a7 :: a8 :: none :: t) pc st) : G p l e R s m args below meth c H locs cells slots Q (a0 :: a1 :: a2 :: a3 :: a4 :: a5 :: a6 :: a7 :: a8 :: b :: t) pc st := g_fgn 9 k
theorem g_fg10 {a0 a1 a2 a3 a4 a5 a6 a7 a8 a9 b : Option Value} {t : List (Option Value)} (k : G p l e R s m args below meth c H locs cells slots Q (a0 :: a1 :: a2 :: a3 :: a4 :: a5 :: a6 :: a7 :: a8 :: a9 :: none :: t) pc st) : G p l e R s m args below meth c H locs cells slots Q (a0 :: a1 :: a2 :: a3 :: a4 :: a5 :: a6 :: a7 :: a8 :: a9 :: b :: t) pc st := g_fgn 10 k
theorem g_fg11 {a0 a1 a2 a3 a4 a5 a6 a7 a8 a9 a10 b : Option Value} {t : List (Option Value)} (k : G p l e R s m args below meth c H locs cells slots Q (a0 :: a1 :: a2 :: a3 :: a4 :: a5 :: a6 :: a7 :: a8 :: a9 :: a10 :: none :: t) pc st) : G p l e R s m args below meth c H locs cells slots Q (a0 :: a1 :: a2 :: a3 :: a4 :: a5 :: a6 :: a7 :: a8 :: a9 :: a10 :: b :: t) pc st := g_fgn 11 k
theorem g_fg12 {a0 a1 a2 a3 a4 a5 a6 a7 a8 a9 a10 a11 b : Option Value} {t : List (Option Value)} (k : G p l e R s m args below meth c H locs cells slots Q (a0 :: a1 :: a2 :: a3 :: a4 :: a5 :: a6 :: a7 :: a8 :: a9 :: a10 :: a11 :: none :: t) pc st) : G p l e R s m args below meth c H locs cells slots Q (a0 :: a1 :: a2 :: a3 :: a4 :: a5 :: a6 :: a7 :: a8 :: a9 :: a10 :: a11 :: b :: t) pc st := g_fgn 12 k
theorem g_fg13 {a0 a1 a2 a3 a4 a5 a6 a7 a8 a9 a10 a11 a12 b : Option Value} {t : List (Option Value)} (k : G p l e R s m args below meth c H locs cells slots Q (a0 :: a1 :: a2 :: a3 :: a4 :: a5 :: a6 :: a7 :: a8 :: a9 :: a10 :: a11 :: a12 :: none :: t) pc st) : G p l e R s m args below meth c H locs cells slots Q (a0 :: a1 :: a2 :: a3 :: a4 :: a5 :: a6 :: a7 :: a8 :: a9 :: a10 :: a11 :: a12 :: b :: t) pc st := g_fgn 13 k
theorem g_fg14 {a0 a1 a2 a3 a4 a5 a6 a7 a8 a9 a10 a11 a12 a13 b : Option Value} {t : List (Option Value)} (k : G p l e R s m args below meth c H locs cells slots Q (a0 :: a1 :: a2 :: a3 :: a4 :: a5 :: a6 :: a7 :: a8 :: a9 :: a10 :: a11 :: a12 :: a13 :: none :: t) pc st) : G p l e R s m args below meth c H locs cells slots Q (a0 :: a1 :: a2 :: a3 :: a4 :: a5 :: a6 :: a7 :: a8 :: a9 :: a10 :: a11 :: a12 :: a13 :: b :: t) pc st := g_fgn 14 k
theorem g_fg15 {a0 a1 a2 a3 a4 a5 a6 a7 a8 a9 a10 a11 a12 a13 a14 b : Option Value} {t : List (Option Value)} (k : G p l e R s m args below meth c H locs cells slots Q (a0 :: a1 :: a2 :: a3 :: a4 :: a5 :: a6 :: a7 :: a8 :: a9 :: a10 :: a11 :: a12 :: a13 :: a14 :: none :: t) pc st) : G p l e R s m args below meth c H locs cells slots Q (a0 :: a1 :: a2 :: a3 :: a4 :: a5 :: a6 :: a7 :: a8 :: a9 :: a10 :: a11 :: a12 :: a13 :: a14 :: b :: t) pc st := g_fgn 15 k
end PA
