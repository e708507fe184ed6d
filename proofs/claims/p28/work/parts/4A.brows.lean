/-! a new object, a new row of Ledgers, a constructor's call, a loop whose room grows -/
section WNB
variable {p : Program} {l : Launch} {e : Env} {R : Room} {s : State} {m : MethodId} {args : Array Value} {below : List Frame} {meth : Method} {c : Code} {H : Heap} {locs : List Loc} {cells slots : Nat} {Q : State → Prop}
variable {cc : ByteArray} {own : String} {nL pc : Nat} {ret : Option FieldType} {vs : List (Option Value)} {st st0 : List Value}
variable {D : va_G} {cl : List vw_C} {A A0 A1 : Nat → Prop} {ws : va_W} {H0 : Heap} {cI cL cJ : ClassId} {tys : List (ClassId × FieldType)}
theorem g_newo (C : CX p s m args meth c cc own nL ret) {Cn : String} {T : u_T} {N ci index : Nat} (hin : ∀ w ∈ u_ws Cn T N, w ∈ WG) (ty0 : Nat → FieldType) (hty : ∀ k, k < N → parseFieldDescriptor (T k).2.2.1 = some (ty0 k)) (hcl : Cond.classLink own index Cn ∈ WG) (hb : Cond.instantiable Cn N ∈ WG) (hn : Cond.initialized Cn ∈ WG)
    (hK : va_K D cl tys s) (hP : va_P D cl ws H) (hD : va_D A ws) (hS : va_S A H0 H locs) (hA : ∀ q, H0.size ≤ q → A q) (hc : cl[ci]? = some (Cn, T, N)) {fs : List Value} (hfs : ∀ j, j < N → defaultValue (ty0 j) = vp_V fs j) (hcells : cells + 1 ≤ R.cells) (hslots : slots + N ≤ R.slots) (hd : decode cc pc = .ok (.new index, 3))
    (kk : ∀ (q : Nat) (H1 : Heap), va_P D cl (ws ++ [(q, .inr (ci, fs))]) H1 → va_D A (ws ++ [(q, .inr (ci, fs))]) → va_S A H0 H1 locs → G p l e R s m args below meth c H1 locs (cells + 1) (slots + N) Q vs (pc + 3) (.ref q :: st)) : G p l e R s m args below meth c H locs cells slots Q vs pc st := fun ls h =>
  va_new C.1 C.2.1 C.2.2.2.2.1 hin ty0 hty C.2.2.2.1 (C.2.2.2.2.1 _ hcl) (C.2.2.2.2.1 _ hb) (C.2.2.2.2.1 _ hn) hK hP hD hS hA hc hfs hcells hslots hd (fun q H1 h1 h2 h3 => kk q H1 h1 h2 h3 ls h)
theorem g_newq (C : CX p s m args meth c cc own nL ret) {index n : Nat} (hcl : Cond.classLink own index RX1 ∈ WG) (hover : va_AO RX1 s) (hK : va_K D cl (tyL cI cL cJ) s) (hP : va_P D cl ws H) (hD : va_D A ws) (hS : va_S A H0 H locs) (hA : ∀ q, H0.size ≤ q → A q) (hn : n < 2147483648) (hb : n * 4 ≤ 536870912) (hcells : cells + 1 ≤ R.cells) (hslots : slots + n ≤ R.slots) (hd : decode cc pc = .ok (.anewarray index, 3))
    (kk : ∀ (q : Nat) (H1 : Heap), va_P D cl (ws ++ [(q, .inl (cL, n, .inr (.inr (.inr (.inr (fun _ => none))))))]) H1 → va_D A (ws ++ [(q, .inl (cL, n, .inr (.inr (.inr (.inr (fun _ => none))))))]) → va_S A H0 H1 locs → G p l e R s m args below meth c H1 locs (cells + 1) (slots + n) Q vs (pc + 3) (.ref q :: st)) : G p l e R s m args below meth c H locs cells slots Q vs pc (.int (nI n) :: st) := by
  intro ls h
  refine va_newq C.1 C.2.1 C.2.2.2.1 (C.2.2.2.2.1 _ hcl) hover hK hP hD hS hA (nI_pos hn) (nI_clamp hn) hb hcells hslots hd (fun q cA H1 hK1 hP1 hD1 hS1 => ?_)
  obtain ⟨k1, c1, -, -, -, e1⟩ := (hK1.2 3 (cA, .object RX1) rfl).2
  obtain ⟨k2, c2, -, -, -, e2⟩ := (hK.2 1 (cL, .object RX1) rfl).2
  have e3 : cA = cL := Option.some.inj (e1.symm.trans e2)
  subst e3
  exact kk q H1 hP1 hD1 hS1 ls h
/-- a constructor's call -/
theorem g_mI (C : CX p s m args meth c cc own nL ret) {bytes : ByteArray} {maxL2 index mc ms : Nat} {rm : Room} {y : MethodName} {b : Nat} {As : List Value} {Pre : State → Prop} {Post : Heap → Prop} (n0 : Nat) (hn0 : As.length = n0)
    (hM : Met l y (.code y bytes maxL2 none :: WG) rm (va_Pc (.ref b :: As) Pre) (bq_M none Post A1) mc ms A1)
    (hl : Cond.methodLink own index y ∈ WG) (hi : Cond.instanceMethod y ∈ WG) (hn : Cond.initialized y.cls ∈ WG) (hc : Cond.code y bytes maxL2 none ∈ WG) (hy1 : y.name = "<init>")
    (hy : y.cls ≠ "java/lang/invoke/MethodHandle" ∧ y.cls ≠ "java/lang/invoke/VarHandle" ∧ (parseMethodDescriptor y.desc).map (fun d => d.parameters.length) = some n0)
    (hrm : rm.cells = mc ∧ rm.slots = ms ∧ rm.frames + 1 ≤ R.frames ∧ 8 + (maxL2 + 11) + rm.locals ≤ R.locals) (hbl : Bl Pre) (hpre : ∀ U : State, U.heap = H → s.WarmedH U.vm → Pre U)
    (hvl : vs.length = nL) (hst : st0 = As.reverse ++ .ref b :: st) (hcat : (st.map fun v => v.category).sum ≤ 8) (hcs : cells + mc ≤ R.cells ∧ slots + ms ≤ R.slots) (hS : va_S A0 H0 H locs) (hA : ∀ q, A1 q → A0 q) (hd : decode cc pc = .ok (.invokespecial index, 3))
    (kk : ∀ (H1 : Heap) (locs1 : List Loc), Post H1 → H.size ≤ H1.size → (∀ q : Nat, q < H.size → ¬ A1 q → H1[q]? = H[q]?) → va_S A0 H0 H1 locs1 → G p l e R s m args below meth c H1 locs1 (cells + mc) (slots + ms) Q vs (pc + 3) st) : G p l e R s m args below meth c H locs cells slots Q vs pc st0 := by
  subst hst
  subst hn0
  intro ls h
  exact bq_cm (va_runI (As := As) (rest := st) (Ts := WG) ⟨C.1, C.2.1, C.2.2.1, C.2.2.2.1, C.2.2.2.2.1⟩ hM (cwI As.length C.2.2.2.2.1 (WG_gi (WG_cons hc WG_self)) rfl hrm.1 hrm.2.1 (C.2.2.2.2.1 _ hn) (C.2.2.2.2.1 _ hl) (C.2.2.2.2.1 _ hi) hy1 hy ⟨hrm.2.2.1, hrm.2.2.2⟩) ⟨fun a U g mk q => ⟨q.1, hbl U g mk a q.2⟩, fun U hU hW => ⟨rfl, hpre U hU hW⟩⟩ rfl rfl (h.1.trans hvl) rfl (lv_room hcat) hd hcs) hS (fun q _ => hA q) hA (fun H1 locs1 h1 h2 h3 h4 => kk H1 locs1 h1 h2 h3 h4 ls h)
/-- the call of a nest mate's constructor -/
theorem g_mIN (C : CX p s m args meth c cc own nL ret) {bytes : ByteArray} {maxL2 index mc ms : Nat} {rm : Room} {y : MethodName} {b : Nat} {As : List Value} {Pre : State → Prop} {Post : Heap → Prop} {host : String} (n0 : Nat) (hn0 : As.length = n0)
    (hM : Met l y (.code y bytes maxL2 none :: WG) rm (va_Pc (.ref b :: As) Pre) (bq_M none Post A1) mc ms A1)
    (hl : va_Nw (.methodLinkNest own index y host) s) (hi : Cond.instanceMethod y ∈ WG) (hn : Cond.initialized y.cls ∈ WG) (hc : Cond.code y bytes maxL2 none ∈ WG) (hy1 : y.name = "<init>")
    (hy : y.cls ≠ "java/lang/invoke/MethodHandle" ∧ y.cls ≠ "java/lang/invoke/VarHandle" ∧ (parseMethodDescriptor y.desc).map (fun d => d.parameters.length) = some n0)
    (hrm : rm.cells = mc ∧ rm.slots = ms ∧ rm.frames + 1 ≤ R.frames ∧ 8 + (maxL2 + 11) + rm.locals ≤ R.locals) (hbl : Bl Pre) (hpre : ∀ U : State, U.heap = H → s.WarmedH U.vm → Pre U)
    (hvl : vs.length = nL) (hst : st0 = As.reverse ++ .ref b :: st) (hcat : (st.map fun v => v.category).sum ≤ 8) (hcs : cells + mc ≤ R.cells ∧ slots + ms ≤ R.slots) (hS : va_S A0 H0 H locs) (hA : ∀ q, A1 q → A0 q) (hd : decode cc pc = .ok (.invokespecial index, 3))
    (kk : ∀ (H1 : Heap) (locs1 : List Loc), Post H1 → H.size ≤ H1.size → (∀ q : Nat, q < H.size → ¬ A1 q → H1[q]? = H[q]?) → va_S A0 H0 H1 locs1 → G p l e R s m args below meth c H1 locs1 (cells + mc) (slots + ms) Q vs (pc + 3) st) : G p l e R s m args below meth c H locs cells slots Q vs pc st0 := by
  subst hst
  subst hn0
  intro ls h
  exact bq_cm (va_runIN (As := As) (rest := st) (Ts := WG) ⟨C.1, C.2.1, C.2.2.1, C.2.2.2.1, C.2.2.2.2.1⟩ hM ⟨va_cnB As.length C.2.2.2.2.1 (WG_gi (WG_cons hc WG_self)) rfl hrm.1 hrm.2.1 hl (C.2.2.2.2.1 _ hn) hy ⟨hrm.2.2.1, hrm.2.2.2⟩, hy1, C.2.2.2.2.1 _ hi⟩ ⟨fun a U g mk q => ⟨q.1, hbl U g mk a q.2⟩, fun U hU hW => ⟨rfl, hpre U hU hW⟩⟩ rfl rfl (h.1.trans hvl) rfl (lv_room hcat) hd hcs) hS (fun q _ => hA q) hA (fun H1 locs1 h1 h2 h3 h4 => kk H1 locs1 h1 h2 h3 h4 ls h)
/-- a loop whose room grows with its state -/
theorem g_lpC {A2 : Type} (I : A2 → Heap → List Loc → Prop) (μ kc ks : A2 → Nat) (L : A2 → List (Option Value)) (a1 : A2) (h0 : I a1 H locs) (hL : L a1 = vs) (hc : kc a1 = cells) (hs0 : ks a1 = slots)
    (hs : ∀ a1 H locs, I a1 H locs → (∀ b1 H locs, I b1 H locs → μ b1 < μ a1 → G p l e R s m args below meth c H locs (kc b1) (ks b1) Q (L b1) pc st) → G p l e R s m args below meth c H locs (kc a1) (ks a1) Q (L a1) pc st) : G p l e R s m args below meth c H locs cells slots Q vs pc st := by
  have K : ∀ n a1 H locs, μ a1 < n → I a1 H locs → G p l e R s m args below meth c H locs (kc a1) (ks a1) Q (L a1) pc st := by
    intro n
    induction n with
    | zero => intro a1 _ _ h; exact absurd h (Nat.not_lt_zero _)
    | succ n ih => intro a1 H locs h hI; exact hs a1 H locs hI (fun b1 H locs hb hlt => ih b1 H locs (by omega) hb)
  rw [← hL, ← hc, ← hs0]
  exact K _ a1 H locs (Nat.lt_succ_self _) h0
/-- an object's cell filled by its constructor, which makes more of them -/
theorem PD_init {a : Nat} {f : va_E} {v' : va_W} {H1 : Heap} (hP : va_P D cl (ws ++ [(a, f)]) H) (hD : va_D A (ws ++ [(a, f)])) (hv : va_P D cl v' H1) (hd : va_D (fun q => q = a ∨ H.size ≤ q) v') (hA : ∀ q, H.size ≤ q → A q) (hk : ∀ q : Nat, q < H.size → ¬ (q = a ∨ H.size ≤ q) → H1[q]? = H[q]?) : va_P D cl (ws ++ v') H1 ∧ va_D A (ws ++ v') := by
  obtain ⟨h1, h2⟩ := va_D_iff.mp hD
  obtain ⟨d1, d2⟩ := va_D_iff.mp hd
  rw [List.map_append] at h1
  obtain ⟨n1, n2, n3⟩ := List.nodup_append.mp h1
  have hne : ∀ q ∈ ws, q.1 ≠ a := fun q hq => n3 q.1 (List.mem_map.mpr ⟨q, hq, rfl⟩) a List.mem_cons_self
  have hlt : ∀ q ∈ ws, q.1 < H.size := fun q hq => (va_P_mem.mp hP q (List.mem_append_left _ hq)).lt
  refine ⟨va_P_mem.mpr (fun q hq => ?_), va_D_iff.mpr ⟨?_, fun q hq => ?_⟩⟩
  · rcases List.mem_append.mp hq with hq | hq
    · refine (va_P_mem.mp hP q (List.mem_append_left _ hq)).kept (hk q.1 (hlt q hq) (fun z => ?_))
      rcases z with z | z
      · exact hne q hq z
      · exact absurd (hlt q hq) (by omega)
    · exact va_P_mem.mp hv q hq
  · rw [List.map_append]
    refine List.nodup_append.mpr ⟨n1, d1, fun x hx y hy e => ?_⟩
    subst e
    obtain ⟨q, hq, rfl⟩ := List.mem_map.mp hx
    obtain ⟨z, hz, e⟩ := List.mem_map.mp hy
    rcases d2 z hz with h | h
    · exact hne q hq (by rw [← e]; exact h)
    · have := hlt q hq
      rw [e] at h
      omega
  · rcases List.mem_append.mp hq with hq | hq
    · exact h2 q (List.mem_append_left _ hq)
    · rcases d2 q hq with h | h
      · rw [h]; exact h2 (a, f) (List.mem_append_right _ List.mem_cons_self)
      · exact hA _ h
end WNB
/-- the first k saved Ledgers -/
def SWp (cI : ClassId) (sv : Nat → LO) : Nat → va_W
  | 0 => []
  | k + 1 => SWp cI sv k ++ LWo cI (sv k)
theorem SWp_cong {cI : ClassId} {sv sv' : Nat → LO} : ∀ k, (∀ j, j < k → sv j = sv' j) → SWp cI sv k = SWp cI sv' k := by
  intro k
  induction k with
  | zero => intro _; rfl
  | succ k ih =>
    intro h
    show SWp cI sv k ++ LWo cI (sv k) = SWp cI sv' k ++ LWo cI (sv' k)
    rw [ih (fun j hj => h j (by omega)), h k (by omega)]
theorem SWp_6 (cI : ClassId) (sv : Nat → LO) : SWp cI sv 6 = SW cI sv := rfl
theorem SWp_set {cI : ClassId} {sv : Nat → LO} {k : Nat} {v : LO} : SWp cI (sv_set sv k v) (k + 1) = SWp cI sv k ++ LWo cI v := by
  show SWp cI (sv_set sv k v) k ++ LWo cI (if k = k then v else sv k) = _
  have e : SWp cI (sv_set sv k v) k = SWp cI sv k := SWp_cong k (fun j hj => if_neg (by omega))
  rw [if_pos rfl, e]
