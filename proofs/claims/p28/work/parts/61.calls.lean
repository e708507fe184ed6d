/-! static calls with a world of their own; the law's constants -/
theorem wq_L_155 : Cond.constant RL 155 (2147483647) ∈ WG := List.mem_filter.mpr ⟨wr_3 _ (List.mem_of_getElem? (i := 135) rfl), rfl⟩
theorem wq_L_7 : Cond.constant RL 7 (607225278) ∈ WG := List.mem_filter.mpr ⟨wr_2 _ (List.mem_of_getElem? (i := 58) rfl), rfl⟩
section PA
variable {p : Program} {l : Launch} {e : Env} {R : Room} {s : State} {m : MethodId} {args : Array Value} {below : List Frame} {meth : Method} {c : Code} {H : Heap} {locs : List Loc} {cells slots : Nat} {Q : State → Prop}
variable {cc : ByteArray} {own : String} {nL pc : Nat} {ret : Option FieldType} {vs : List (Option Value)} {st st0 : List Value} {A A0 A1 : Nat → Prop} {D : va_G} {cl : List vw_C} {ws : va_W} {H0 : Heap} {cI cL cJ : ClassId}
theorem g_pkS (C : CX p s m args meth c cc own nL ret) {bytes : ByteArray} {maxL2 index : Nat} {ret2 : Option FieldType} {rm : Room} {y : MethodName} {As : List Value} {v : Value} {Pre : State → Prop} (n0 : Nat) (hn0 : As.length = n0)
    (hM : Met l y (.code y bytes maxL2 ret2 :: WG) rm (va_Pc As Pre) (bq_S v) 0 0 (fun _ => False))
    (hl : Cond.methodLink own index y ∈ WG) (hi : Cond.static y ∈ WG) (hn : Cond.initialized own ∈ WG) (hc : Cond.code y bytes maxL2 ret2 ∈ WG)
    (hy : y.cls = own ∧ y.cls ≠ "java/lang/invoke/MethodHandle" ∧ y.cls ≠ "java/lang/invoke/VarHandle" ∧ (parseMethodDescriptor y.desc).map (fun d => d.parameters.length) = some n0)
    (hrm : rm.cells = 0 ∧ rm.slots = 0 ∧ rm.frames + 1 ≤ R.frames ∧ 8 + (maxL2 + 11) + rm.locals ≤ R.locals) (hbl : Bl Pre)
    (hpre : ∀ U : State, U.heap = H → s.WarmedH U.vm → Pre U)
    (hvl : vs.length = nL) (hst : st0 = As.reverse ++ st) (hcat : (st.map fun v => v.category).sum ≤ 8) (hcs : cells ≤ R.cells ∧ slots ≤ R.slots) (hd : decode cc pc = .ok (.invokestatic index, 3))
    (kk : G p l e R s m args below meth c H locs cells slots Q vs (pc + 3) (v :: st)) : G p l e R s m args below meth c H locs cells slots Q vs pc st0 := by
  subst hn0
  exact g_pcS C hM hl hi hn hc hy hrm hbl hpre hvl hst hcat hcs hd kk
/-- a static call that changes cells of A1 -/
theorem g_mS (C : CX p s m args meth c cc own nL ret) {bytes : ByteArray} {maxL2 index mc ms : Nat} {ret2 : Option FieldType} {rm : Room} {y : MethodName} {As : List Value} {v : Option Value} {Pre : State → Prop} {Post : Heap → Prop} (n0 : Nat) (hn0 : As.length = n0)
    (hM : Met l y (.code y bytes maxL2 ret2 :: WG) rm (va_Pc As Pre) (bq_M v Post A1) mc ms A1)
    (hl : Cond.methodLink own index y ∈ WG) (hi : Cond.static y ∈ WG) (hn : Cond.initialized own ∈ WG) (hc : Cond.code y bytes maxL2 ret2 ∈ WG)
    (hy : y.cls = own ∧ y.cls ≠ "java/lang/invoke/MethodHandle" ∧ y.cls ≠ "java/lang/invoke/VarHandle" ∧ (parseMethodDescriptor y.desc).map (fun d => d.parameters.length) = some n0)
    (hrm : rm.cells = mc ∧ rm.slots = ms ∧ rm.frames + 1 ≤ R.frames ∧ 8 + (maxL2 + 11) + rm.locals ≤ R.locals) (hbl : Bl Pre)
    (hpre : ∀ U : State, U.heap = H → s.WarmedH U.vm → Pre U)
    (hvl : vs.length = nL) (hst : st0 = As.reverse ++ st) (hcat : (st.map fun v => v.category).sum ≤ 8) (hcs : cells + mc ≤ R.cells ∧ slots + ms ≤ R.slots) (hS : va_S A0 H0 H locs) (hA : ∀ q, q < H.size → A1 q → A0 q) (hf : ∀ q, A1 q → A0 q) (hd : decode cc pc = .ok (.invokestatic index, 3))
    (kk : ∀ (H1 : Heap) (locs1 : List Loc), Post H1 → H.size ≤ H1.size → (∀ q : Nat, q < H.size → ¬ A1 q → H1[q]? = H[q]?) → va_S A0 H0 H1 locs1 → G p l e R s m args below meth c H1 locs1 (cells + mc) (slots + ms) Q vs (pc + 3) (v.toList ++ st)) : G p l e R s m args below meth c H locs cells slots Q vs pc st0 := by
  subst hst
  subst hn0
  intro ls h
  exact bq_cm (va_runS (As := As) (rest := st) (Ts := WG) ⟨C.1, C.2.1, C.2.2.1, C.2.2.2.1, C.2.2.2.2.1⟩ hM (cwS As.length C.2.2.2.2.1 (WG_gi (WG_cons hl (WG_cons hi (WG_cons hn (WG_cons hc WG_self))))) rfl hrm.1 hrm.2.1 hy ⟨hrm.2.2.1, hrm.2.2.2⟩) ⟨fun a U g mk q => ⟨q.1, hbl U g mk a q.2⟩, fun U hU hW => ⟨rfl, hpre U hU hW⟩⟩ rfl rfl (h.1.trans hvl) rfl (lv_room hcat) hd hcs) hS hA hf (fun H1 locs1 h1 h2 h3 h4 => kk H1 locs1 h1 h2 h3 h4 ls h)
theorem g_newaL (C : CX p s m args meth c cc own nL ret) {n : Nat} (hK : va_K D cl (tyL cI cL cJ) s) (hP : va_P D cl ws H) (hD : va_D A ws) (hS : va_S A H0 H locs) (hA : ∀ q, H0.size ≤ q → A q) (hn : n < 2147483648) (hb : n * componentBytes .long ≤ 536870912) (hcells : cells + 1 ≤ R.cells) (hslots : slots + n ≤ R.slots) (hd : decode cc pc = .ok (.newarray .long, 2))
    (kk : ∀ (q : Nat) (H1 : Heap), va_P D cl (ws ++ [(q, .inl (cJ, n, .inr (.inl (fun _ => 0))))]) H1 → va_D A (ws ++ [(q, .inl (cJ, n, .inr (.inl (fun _ => 0))))]) → va_S A H0 H1 locs → G p l e R s m args below meth c H1 locs (cells + 1) (slots + n) Q vs (pc + 2) (.ref q :: st)) : G p l e R s m args below meth c H locs cells slots Q vs pc (.int (nI n) :: st) := by
  intro ls h
  refine va_newa (atype := .long) (ty := .long) (a0 := (n, .inr (.inl (fun _ => 0)))) (N' := n) C.1 C.2.1 (C.2.2.2.2.1 _ wa_long) rfl hK hP hD hS hA (fun cA => rfl) (nI_pos hn) (nI_clamp hn) hb hcells hslots hd (fun q cA H1 hK1 hP1 hD1 hS1 => ?_)
  have e1 : s.vm.findClass ("[" ++ FieldType.long.toString) = some cA := (hK1.2 3 (cA, .long) rfl).2
  have e2 : s.vm.findClass ("[" ++ FieldType.long.toString) = some cJ := (hK.2 2 (cJ, .long) rfl).2
  have e3 : cA = cJ := Option.some.inj (e1.symm.trans e2)
  subst e3
  exact kk q H1 hP1 hD1 hS1 ls h
end PA
