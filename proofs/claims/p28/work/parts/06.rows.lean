/-! G: W with the locals as a written list, one place a local -/
def en : Nat → List (Option Value) → List (Nat × Value)
  | _, [] => []
  | k, none :: t => en (k + 1) t
  | k, some v :: t => (k, v) :: en (k + 1) t
theorem en_mem {q : Nat × Value} : ∀ {vs : List (Option Value)} {k : Nat}, q ∈ en k vs ↔ ∃ j : Nat, q.1 = k + j ∧ vs[j]? = some (some q.2) := by
  intro vs
  induction vs with
  | nil => intro k; simp [en]
  | cons a t ih =>
    intro k
    cases a with
    | none =>
      show q ∈ en (k + 1) t ↔ _
      rw [ih]
      constructor
      · rintro ⟨j, h1, h2⟩
        exact ⟨j + 1, by omega, by simpa using h2⟩
      · rintro ⟨j, h1, h2⟩
        cases j with
        | zero => simp at h2
        | succ j => exact ⟨j, by omega, by simpa using h2⟩
    | some v =>
      show q ∈ (k, v) :: en (k + 1) t ↔ _
      rw [List.mem_cons, ih]
      constructor
      · rintro (h | ⟨j, h1, h2⟩)
        · subst h
          exact ⟨0, rfl, rfl⟩
        · exact ⟨j + 1, by omega, by simpa using h2⟩
      · rintro ⟨j, h1, h2⟩
        cases j with
        | zero =>
          refine Or.inl ?_
          simp at h2
          rw [h2, ← Nat.add_zero k, ← h1]
        | succ j => exact Or.inr ⟨j, by omega, by simpa using h2⟩
def c1 (a : Option Value) : Bool := match a with
  | some w => w.category == 1
  | none => true
section GA
variable {p : Program} {l : Launch} {e : Env} {R : Room} {s : State} {m : MethodId} {args : Array Value} {below : List Frame} {meth : Method} {c : Code} {H : Heap} {locs : List Loc} {cells slots : Nat} {Q : State → Prop}
variable {cc : ByteArray} {own : String} {nL pc : Nat} {ret : Option FieldType} {vs : List (Option Value)} {st : List Value}
def G (p : Program) (l : Launch) (e : Env) (R : Room) (s : State) (m : MethodId) (args : Array Value) (below : List Frame) (meth : Method) (c : Code) (H : Heap) (locs : List Loc) (cells slots : Nat) (Q : State → Prop) (vs : List (Option Value)) (pc : Nat) (st : List Value) : Prop :=
  ∀ ls : Array Slot, lv_has ls vs.length (en 0 vs) → W p l e R s m args below meth c H locs cells slots Q (F0 m pc ls st)
abbrev CX (p : Program) (s : State) (m : MethodId) (args : Array Value) (meth : Method) (c : Code) (cc : ByteArray) (own : String) (nL : Nat) (ret : Option FieldType) : Prop :=
  p.tables.exec = Jvm.exec ∧ c.code = cc ∧ c.maxLocals = nL ∧ s.vm.findClass own = some m.cls ∧ (∀ w ∈ WG, w.before args s = true) ∧ meth.sig.returnType = ret ∧ meth.locks = false
theorem G.load {ls : Array Slot} (h : lv_has ls vs.length (en 0 vs)) {i : Nat} {v : Value} (hv : vs[i]? = some (some v)) : ls[i]? = some (.val v) := h.2.2 (i, v) (en_mem.mpr ⟨i, (Nat.zero_add i).symm, hv⟩)
/-- what holds of the new list's places, out of the old ones -/
theorem G.sto {ls : Array Slot} {vs' : List (Option Value)} {i : Nat} {x : Value} {f : Nat × Value → Bool} (hlen : vs'.length = vs.length) (hf : ∀ (j : Nat) (w : Value), vs'[j]? = some (some w) → (j = i ∧ w = x) ∨ (vs[j]? = some (some w) ∧ f (j, w) = true)) (h : lv_has ls vs.length ((i, x) :: (en 0 vs).filter f)) : lv_has ls vs'.length (en 0 vs') := by
  refine ⟨by rw [hlen]; exact h.1, h.2.1, fun q hq => ?_⟩
  obtain ⟨j, h1, h2⟩ := en_mem.mp hq
  have h1 : q.1 = j := by omega
  rcases hf j q.2 h2 with ⟨h3, h4⟩ | ⟨h3, h4⟩
  · have : q = (i, x) := Prod.ext (h1.trans h3) h4
    rw [this]
    exact h.2.2 _ List.mem_cons_self
  · refine h.2.2 q (List.mem_cons_of_mem _ (List.mem_filter.mpr ⟨en_mem.mpr ⟨j, by omega, h3⟩, ?_⟩))
    rw [show q = (j, q.2) from Prod.ext h1 rfl]
    exact h4

theorem g_iload0 (C : CX p s m args meth c cc own nL ret) {t : List (Option Value)} {x : Int32} (hd : decode cc pc = .ok (.iload_n 0, 1)) (k : G p l e R s m args below meth c H locs cells slots Q (some (.int x) :: t) (pc + 1) (.int x :: st)) : G p l e R s m args below meth c H locs cells slots Q (some (.int x) :: t) pc st := fun ls h => lv_iload_n C.1 C.2.1 hd rfl (G.load (i := 0) h rfl) (k ls h)
theorem g_iload1 (C : CX p s m args meth c cc own nL ret) {a0 : Option Value} {t : List (Option Value)} {x : Int32} (hd : decode cc pc = .ok (.iload_n 1, 1)) (k : G p l e R s m args below meth c H locs cells slots Q (a0 :: some (.int x) :: t) (pc + 1) (.int x :: st)) : G p l e R s m args below meth c H locs cells slots Q (a0 :: some (.int x) :: t) pc st := fun ls h => lv_iload_n C.1 C.2.1 hd rfl (G.load (i := 1) h rfl) (k ls h)
theorem g_iload2 (C : CX p s m args meth c cc own nL ret) {a0 a1 : Option Value} {t : List (Option Value)} {x : Int32} (hd : decode cc pc = .ok (.iload_n 2, 1)) (k : G p l e R s m args below meth c H locs cells slots Q (a0 :: a1 :: some (.int x) :: t) (pc + 1) (.int x :: st)) : G p l e R s m args below meth c H locs cells slots Q (a0 :: a1 :: some (.int x) :: t) pc st := fun ls h => lv_iload_n C.1 C.2.1 hd rfl (G.load (i := 2) h rfl) (k ls h)
theorem g_iload3 (C : CX p s m args meth c cc own nL ret) {a0 a1 a2 : Option Value} {t : List (Option Value)} {x : Int32} (hd : decode cc pc = .ok (.iload_n 3, 1)) (k : G p l e R s m args below meth c H locs cells slots Q (a0 :: a1 :: a2 :: some (.int x) :: t) (pc + 1) (.int x :: st)) : G p l e R s m args below meth c H locs cells slots Q (a0 :: a1 :: a2 :: some (.int x) :: t) pc st := fun ls h => lv_iload_n C.1 C.2.1 hd rfl (G.load (i := 3) h rfl) (k ls h)
theorem g_iload4 (C : CX p s m args meth c cc own nL ret) {a0 a1 a2 a3 : Option Value} {t : List (Option Value)} {x : Int32} (hd : decode cc pc = .ok (.iload 4, 2)) (k : G p l e R s m args below meth c H locs cells slots Q (a0 :: a1 :: a2 :: a3 :: some (.int x) :: t) (pc + 2) (.int x :: st)) : G p l e R s m args below meth c H locs cells slots Q (a0 :: a1 :: a2 :: a3 :: some (.int x) :: t) pc st := fun ls h => lv_iload C.1 C.2.1 hd (G.load (i := 4) h rfl) (k ls h)
theorem g_iload5 (C : CX p s m args meth c cc own nL ret) {a0 a1 a2 a3 a4 : Option Value} {t : List (Option Value)} {x : Int32} (hd : decode cc pc = .ok (.iload 5, 2)) (k : G p l e R s m args below meth c H locs cells slots Q (a0 :: a1 :: a2 :: a3 :: a4 :: some (.int x) :: t) (pc + 2) (.int x :: st)) : G p l e R s m args below meth c H locs cells slots Q (a0 :: a1 :: a2 :: a3 :: a4 :: some (.int x) :: t) pc st := fun ls h => lv_iload C.1 C.2.1 hd (G.load (i := 5) h rfl) (k ls h)
theorem g_iload6 (C : CX p s m args meth c cc own nL ret) {a0 a1 a2 a3 a4 a5 : Option Value} {t : List (Option Value)} {x : Int32} (hd : decode cc pc = .ok (.iload 6, 2)) (k : G p l e R s m args below meth c H locs cells slots Q (a0 :: a1 :: a2 :: a3 :: a4 :: a5 :: some (.int x) :: t) (pc + 2) (.int x :: st)) : G p l e R s m args below meth c H locs cells slots Q (a0 :: a1 :: a2 :: a3 :: a4 :: a5 :: some (.int x) :: t) pc st := fun ls h => lv_iload C.1 C.2.1 hd (G.load (i := 6) h rfl) (k ls h)
theorem g_iload7 (C : CX p s m args meth c cc own nL ret) {a0 a1 a2 a3 a4 a5 a6 : Option Value} {t : List (Option Value)} {x : Int32} (hd : decode cc pc = .ok (.iload 7, 2)) (k : G p l e R s m args below meth c H locs cells slots Q (a0 :: a1 :: a2 :: a3 :: a4 :: a5 :: a6 :: some (.int x) :: t) (pc + 2) (.int x :: st)) : G p l e R s m args below meth c H locs cells slots Q (a0 :: a1 :: a2 :: a3 :: a4 :: a5 :: a6 :: some (.int x) :: t) pc st := fun ls h => lv_iload C.1 C.2.1 hd (G.load (i := 7) h rfl) (k ls h)
theorem g_iload8 (C : CX p s m args meth c cc own nL ret) {a0 a1 a2 a3 a4 a5 a6 a7 : Option Value} {t : List (Option Value)} {x : Int32} (hd : decode cc pc = .ok (.iload 8, 2)) (k : G p l e R s m args below meth c H locs cells slots Q (a0 :: a1 :: a2 :: a3 :: a4 :: a5 :: a6 :: a7 :: some (.int x) :: t) (pc + 2) (.int x :: st)) : G p l e R s m args below meth c H locs cells slots Q (a0 :: a1 :: a2 :: a3 :: a4 :: a5 :: a6 :: a7 :: some (.int x) :: t) pc st := fun ls h => lv_iload C.1 C.2.1 hd (G.load (i := 8) h rfl) (k ls h)
theorem g_aload0 (C : CX p s m args meth c cc own nL ret) {t : List (Option Value)} {x : Nat} (hd : decode cc pc = .ok (.aload_n 0, 1)) (k : G p l e R s m args below meth c H locs cells slots Q (some (.ref x) :: t) (pc + 1) (.ref x :: st)) : G p l e R s m args below meth c H locs cells slots Q (some (.ref x) :: t) pc st := fun ls h => lv_aload_n C.1 C.2.1 hd rfl (G.load (i := 0) h rfl) (k ls h)
theorem g_aload1 (C : CX p s m args meth c cc own nL ret) {a0 : Option Value} {t : List (Option Value)} {x : Nat} (hd : decode cc pc = .ok (.aload_n 1, 1)) (k : G p l e R s m args below meth c H locs cells slots Q (a0 :: some (.ref x) :: t) (pc + 1) (.ref x :: st)) : G p l e R s m args below meth c H locs cells slots Q (a0 :: some (.ref x) :: t) pc st := fun ls h => lv_aload_n C.1 C.2.1 hd rfl (G.load (i := 1) h rfl) (k ls h)
theorem g_aload2 (C : CX p s m args meth c cc own nL ret) {a0 a1 : Option Value} {t : List (Option Value)} {x : Nat} (hd : decode cc pc = .ok (.aload_n 2, 1)) (k : G p l e R s m args below meth c H locs cells slots Q (a0 :: a1 :: some (.ref x) :: t) (pc + 1) (.ref x :: st)) : G p l e R s m args below meth c H locs cells slots Q (a0 :: a1 :: some (.ref x) :: t) pc st := fun ls h => lv_aload_n C.1 C.2.1 hd rfl (G.load (i := 2) h rfl) (k ls h)
theorem g_aload3 (C : CX p s m args meth c cc own nL ret) {a0 a1 a2 : Option Value} {t : List (Option Value)} {x : Nat} (hd : decode cc pc = .ok (.aload_n 3, 1)) (k : G p l e R s m args below meth c H locs cells slots Q (a0 :: a1 :: a2 :: some (.ref x) :: t) (pc + 1) (.ref x :: st)) : G p l e R s m args below meth c H locs cells slots Q (a0 :: a1 :: a2 :: some (.ref x) :: t) pc st := fun ls h => lv_aload_n C.1 C.2.1 hd rfl (G.load (i := 3) h rfl) (k ls h)
theorem g_aload4 (C : CX p s m args meth c cc own nL ret) {a0 a1 a2 a3 : Option Value} {t : List (Option Value)} {x : Nat} (hd : decode cc pc = .ok (.aload 4, 2)) (k : G p l e R s m args below meth c H locs cells slots Q (a0 :: a1 :: a2 :: a3 :: some (.ref x) :: t) (pc + 2) (.ref x :: st)) : G p l e R s m args below meth c H locs cells slots Q (a0 :: a1 :: a2 :: a3 :: some (.ref x) :: t) pc st := fun ls h => lv_aload C.1 C.2.1 hd (G.load (i := 4) h rfl) (k ls h)
theorem g_aload5 (C : CX p s m args meth c cc own nL ret) {a0 a1 a2 a3 a4 : Option Value} {t : List (Option Value)} {x : Nat} (hd : decode cc pc = .ok (.aload 5, 2)) (k : G p l e R s m args below meth c H locs cells slots Q (a0 :: a1 :: a2 :: a3 :: a4 :: some (.ref x) :: t) (pc + 2) (.ref x :: st)) : G p l e R s m args below meth c H locs cells slots Q (a0 :: a1 :: a2 :: a3 :: a4 :: some (.ref x) :: t) pc st := fun ls h => lv_aload C.1 C.2.1 hd (G.load (i := 5) h rfl) (k ls h)
theorem g_aload6 (C : CX p s m args meth c cc own nL ret) {a0 a1 a2 a3 a4 a5 : Option Value} {t : List (Option Value)} {x : Nat} (hd : decode cc pc = .ok (.aload 6, 2)) (k : G p l e R s m args below meth c H locs cells slots Q (a0 :: a1 :: a2 :: a3 :: a4 :: a5 :: some (.ref x) :: t) (pc + 2) (.ref x :: st)) : G p l e R s m args below meth c H locs cells slots Q (a0 :: a1 :: a2 :: a3 :: a4 :: a5 :: some (.ref x) :: t) pc st := fun ls h => lv_aload C.1 C.2.1 hd (G.load (i := 6) h rfl) (k ls h)
theorem g_aload7 (C : CX p s m args meth c cc own nL ret) {a0 a1 a2 a3 a4 a5 a6 : Option Value} {t : List (Option Value)} {x : Nat} (hd : decode cc pc = .ok (.aload 7, 2)) (k : G p l e R s m args below meth c H locs cells slots Q (a0 :: a1 :: a2 :: a3 :: a4 :: a5 :: a6 :: some (.ref x) :: t) (pc + 2) (.ref x :: st)) : G p l e R s m args below meth c H locs cells slots Q (a0 :: a1 :: a2 :: a3 :: a4 :: a5 :: a6 :: some (.ref x) :: t) pc st := fun ls h => lv_aload C.1 C.2.1 hd (G.load (i := 7) h rfl) (k ls h)
theorem g_aload8 (C : CX p s m args meth c cc own nL ret) {a0 a1 a2 a3 a4 a5 a6 a7 : Option Value} {t : List (Option Value)} {x : Nat} (hd : decode cc pc = .ok (.aload 8, 2)) (k : G p l e R s m args below meth c H locs cells slots Q (a0 :: a1 :: a2 :: a3 :: a4 :: a5 :: a6 :: a7 :: some (.ref x) :: t) (pc + 2) (.ref x :: st)) : G p l e R s m args below meth c H locs cells slots Q (a0 :: a1 :: a2 :: a3 :: a4 :: a5 :: a6 :: a7 :: some (.ref x) :: t) pc st := fun ls h => lv_aload C.1 C.2.1 hd (G.load (i := 8) h rfl) (k ls h)
theorem g_lload0 (C : CX p s m args meth c cc own nL ret) {t : List (Option Value)} {x : Int64} (hd : decode cc pc = .ok (.lload_n 0, 1)) (k : G p l e R s m args below meth c H locs cells slots Q (some (.long x) :: t) (pc + 1) (.long x :: st)) : G p l e R s m args below meth c H locs cells slots Q (some (.long x) :: t) pc st := fun ls h => lv_lload_n C.1 C.2.1 hd rfl (G.load (i := 0) h rfl) (k ls h)
theorem g_lload1 (C : CX p s m args meth c cc own nL ret) {a0 : Option Value} {t : List (Option Value)} {x : Int64} (hd : decode cc pc = .ok (.lload_n 1, 1)) (k : G p l e R s m args below meth c H locs cells slots Q (a0 :: some (.long x) :: t) (pc + 1) (.long x :: st)) : G p l e R s m args below meth c H locs cells slots Q (a0 :: some (.long x) :: t) pc st := fun ls h => lv_lload_n C.1 C.2.1 hd rfl (G.load (i := 1) h rfl) (k ls h)
theorem g_lload2 (C : CX p s m args meth c cc own nL ret) {a0 a1 : Option Value} {t : List (Option Value)} {x : Int64} (hd : decode cc pc = .ok (.lload_n 2, 1)) (k : G p l e R s m args below meth c H locs cells slots Q (a0 :: a1 :: some (.long x) :: t) (pc + 1) (.long x :: st)) : G p l e R s m args below meth c H locs cells slots Q (a0 :: a1 :: some (.long x) :: t) pc st := fun ls h => lv_lload_n C.1 C.2.1 hd rfl (G.load (i := 2) h rfl) (k ls h)
theorem g_lload3 (C : CX p s m args meth c cc own nL ret) {a0 a1 a2 : Option Value} {t : List (Option Value)} {x : Int64} (hd : decode cc pc = .ok (.lload_n 3, 1)) (k : G p l e R s m args below meth c H locs cells slots Q (a0 :: a1 :: a2 :: some (.long x) :: t) (pc + 1) (.long x :: st)) : G p l e R s m args below meth c H locs cells slots Q (a0 :: a1 :: a2 :: some (.long x) :: t) pc st := fun ls h => lv_lload_n C.1 C.2.1 hd rfl (G.load (i := 3) h rfl) (k ls h)
theorem g_lload4 (C : CX p s m args meth c cc own nL ret) {a0 a1 a2 a3 : Option Value} {t : List (Option Value)} {x : Int64} (hd : decode cc pc = .ok (.lload 4, 2)) (k : G p l e R s m args below meth c H locs cells slots Q (a0 :: a1 :: a2 :: a3 :: some (.long x) :: t) (pc + 2) (.long x :: st)) : G p l e R s m args below meth c H locs cells slots Q (a0 :: a1 :: a2 :: a3 :: some (.long x) :: t) pc st := fun ls h => lv_lload C.1 C.2.1 hd (G.load (i := 4) h rfl) (k ls h)
theorem g_lload5 (C : CX p s m args meth c cc own nL ret) {a0 a1 a2 a3 a4 : Option Value} {t : List (Option Value)} {x : Int64} (hd : decode cc pc = .ok (.lload 5, 2)) (k : G p l e R s m args below meth c H locs cells slots Q (a0 :: a1 :: a2 :: a3 :: a4 :: some (.long x) :: t) (pc + 2) (.long x :: st)) : G p l e R s m args below meth c H locs cells slots Q (a0 :: a1 :: a2 :: a3 :: a4 :: some (.long x) :: t) pc st := fun ls h => lv_lload C.1 C.2.1 hd (G.load (i := 5) h rfl) (k ls h)
theorem g_lload6 (C : CX p s m args meth c cc own nL ret) {a0 a1 a2 a3 a4 a5 : Option Value} {t : List (Option Value)} {x : Int64} (hd : decode cc pc = .ok (.lload 6, 2)) (k : G p l e R s m args below meth c H locs cells slots Q (a0 :: a1 :: a2 :: a3 :: a4 :: a5 :: some (.long x) :: t) (pc + 2) (.long x :: st)) : G p l e R s m args below meth c H locs cells slots Q (a0 :: a1 :: a2 :: a3 :: a4 :: a5 :: some (.long x) :: t) pc st := fun ls h => lv_lload C.1 C.2.1 hd (G.load (i := 6) h rfl) (k ls h)
theorem g_lload7 (C : CX p s m args meth c cc own nL ret) {a0 a1 a2 a3 a4 a5 a6 : Option Value} {t : List (Option Value)} {x : Int64} (hd : decode cc pc = .ok (.lload 7, 2)) (k : G p l e R s m args below meth c H locs cells slots Q (a0 :: a1 :: a2 :: a3 :: a4 :: a5 :: a6 :: some (.long x) :: t) (pc + 2) (.long x :: st)) : G p l e R s m args below meth c H locs cells slots Q (a0 :: a1 :: a2 :: a3 :: a4 :: a5 :: a6 :: some (.long x) :: t) pc st := fun ls h => lv_lload C.1 C.2.1 hd (G.load (i := 7) h rfl) (k ls h)
theorem g_lload8 (C : CX p s m args meth c cc own nL ret) {a0 a1 a2 a3 a4 a5 a6 a7 : Option Value} {t : List (Option Value)} {x : Int64} (hd : decode cc pc = .ok (.lload 8, 2)) (k : G p l e R s m args below meth c H locs cells slots Q (a0 :: a1 :: a2 :: a3 :: a4 :: a5 :: a6 :: a7 :: some (.long x) :: t) (pc + 2) (.long x :: st)) : G p l e R s m args below meth c H locs cells slots Q (a0 :: a1 :: a2 :: a3 :: a4 :: a5 :: a6 :: a7 :: some (.long x) :: t) pc st := fun ls h => lv_lload C.1 C.2.1 hd (G.load (i := 8) h rfl) (k ls h)
theorem g_dload0 (C : CX p s m args meth c cc own nL ret) {t : List (Option Value)} {x : UInt64} (hd : decode cc pc = .ok (.dload_n 0, 1)) (k : G p l e R s m args below meth c H locs cells slots Q (some (.double x) :: t) (pc + 1) (.double x :: st)) : G p l e R s m args below meth c H locs cells slots Q (some (.double x) :: t) pc st := fun ls h => lv_dload_n C.1 C.2.1 hd rfl (G.load (i := 0) h rfl) (k ls h)
theorem g_dload1 (C : CX p s m args meth c cc own nL ret) {a0 : Option Value} {t : List (Option Value)} {x : UInt64} (hd : decode cc pc = .ok (.dload_n 1, 1)) (k : G p l e R s m args below meth c H locs cells slots Q (a0 :: some (.double x) :: t) (pc + 1) (.double x :: st)) : G p l e R s m args below meth c H locs cells slots Q (a0 :: some (.double x) :: t) pc st := fun ls h => lv_dload_n C.1 C.2.1 hd rfl (G.load (i := 1) h rfl) (k ls h)
theorem g_dload2 (C : CX p s m args meth c cc own nL ret) {a0 a1 : Option Value} {t : List (Option Value)} {x : UInt64} (hd : decode cc pc = .ok (.dload_n 2, 1)) (k : G p l e R s m args below meth c H locs cells slots Q (a0 :: a1 :: some (.double x) :: t) (pc + 1) (.double x :: st)) : G p l e R s m args below meth c H locs cells slots Q (a0 :: a1 :: some (.double x) :: t) pc st := fun ls h => lv_dload_n C.1 C.2.1 hd rfl (G.load (i := 2) h rfl) (k ls h)
theorem g_dload3 (C : CX p s m args meth c cc own nL ret) {a0 a1 a2 : Option Value} {t : List (Option Value)} {x : UInt64} (hd : decode cc pc = .ok (.dload_n 3, 1)) (k : G p l e R s m args below meth c H locs cells slots Q (a0 :: a1 :: a2 :: some (.double x) :: t) (pc + 1) (.double x :: st)) : G p l e R s m args below meth c H locs cells slots Q (a0 :: a1 :: a2 :: some (.double x) :: t) pc st := fun ls h => lv_dload_n C.1 C.2.1 hd rfl (G.load (i := 3) h rfl) (k ls h)
theorem g_dload4 (C : CX p s m args meth c cc own nL ret) {a0 a1 a2 a3 : Option Value} {t : List (Option Value)} {x : UInt64} (hd : decode cc pc = .ok (.dload 4, 2)) (k : G p l e R s m args below meth c H locs cells slots Q (a0 :: a1 :: a2 :: a3 :: some (.double x) :: t) (pc + 2) (.double x :: st)) : G p l e R s m args below meth c H locs cells slots Q (a0 :: a1 :: a2 :: a3 :: some (.double x) :: t) pc st := fun ls h => lv_dload C.1 C.2.1 hd (G.load (i := 4) h rfl) (k ls h)
theorem g_dload5 (C : CX p s m args meth c cc own nL ret) {a0 a1 a2 a3 a4 : Option Value} {t : List (Option Value)} {x : UInt64} (hd : decode cc pc = .ok (.dload 5, 2)) (k : G p l e R s m args below meth c H locs cells slots Q (a0 :: a1 :: a2 :: a3 :: a4 :: some (.double x) :: t) (pc + 2) (.double x :: st)) : G p l e R s m args below meth c H locs cells slots Q (a0 :: a1 :: a2 :: a3 :: a4 :: some (.double x) :: t) pc st := fun ls h => lv_dload C.1 C.2.1 hd (G.load (i := 5) h rfl) (k ls h)
theorem g_dload6 (C : CX p s m args meth c cc own nL ret) {a0 a1 a2 a3 a4 a5 : Option Value} {t : List (Option Value)} {x : UInt64} (hd : decode cc pc = .ok (.dload 6, 2)) (k : G p l e R s m args below meth c H locs cells slots Q (a0 :: a1 :: a2 :: a3 :: a4 :: a5 :: some (.double x) :: t) (pc + 2) (.double x :: st)) : G p l e R s m args below meth c H locs cells slots Q (a0 :: a1 :: a2 :: a3 :: a4 :: a5 :: some (.double x) :: t) pc st := fun ls h => lv_dload C.1 C.2.1 hd (G.load (i := 6) h rfl) (k ls h)
theorem g_dload7 (C : CX p s m args meth c cc own nL ret) {a0 a1 a2 a3 a4 a5 a6 : Option Value} {t : List (Option Value)} {x : UInt64} (hd : decode cc pc = .ok (.dload 7, 2)) (k : G p l e R s m args below meth c H locs cells slots Q (a0 :: a1 :: a2 :: a3 :: a4 :: a5 :: a6 :: some (.double x) :: t) (pc + 2) (.double x :: st)) : G p l e R s m args below meth c H locs cells slots Q (a0 :: a1 :: a2 :: a3 :: a4 :: a5 :: a6 :: some (.double x) :: t) pc st := fun ls h => lv_dload C.1 C.2.1 hd (G.load (i := 7) h rfl) (k ls h)
theorem g_dload8 (C : CX p s m args meth c cc own nL ret) {a0 a1 a2 a3 a4 a5 a6 a7 : Option Value} {t : List (Option Value)} {x : UInt64} (hd : decode cc pc = .ok (.dload 8, 2)) (k : G p l e R s m args below meth c H locs cells slots Q (a0 :: a1 :: a2 :: a3 :: a4 :: a5 :: a6 :: a7 :: some (.double x) :: t) (pc + 2) (.double x :: st)) : G p l e R s m args below meth c H locs cells slots Q (a0 :: a1 :: a2 :: a3 :: a4 :: a5 :: a6 :: a7 :: some (.double x) :: t) pc st := fun ls h => lv_dload C.1 C.2.1 hd (G.load (i := 8) h rfl) (k ls h)
theorem g_istore0 (C : CX p s m args meth c cc own nL ret) {b : Option Value} {t : List (Option Value)} {x : Int32} (hd : decode cc pc = .ok (.istore_n 0, 1)) (k : G p l e R s m args below meth c H locs cells slots Q (some (.int x) :: t) (pc + 1) st) : G p l e R s m args below meth c H locs cells slots Q (b :: t) pc (.int x :: st) := by
  intro ls h
  refine lv_istore_n (i := 0) C.1 C.2.1 hd rfl h (by simp only [List.length_cons]; omega) rfl (fun ls2 h2 => k ls2 (G.sto (by simp only [List.length_cons]) ?_ h2))
  intro j w hw
  match j, hw with
  | 0, hw => exact Or.inl ⟨rfl, (Option.some.inj (Option.some.inj hw)).symm⟩
  | j + 1, hw => exact Or.inr ⟨hw, by first | (simp; done) | (simp; omega)⟩
theorem g_istore1 (C : CX p s m args meth c cc own nL ret) {a0 b : Option Value} {t : List (Option Value)} {x : Int32} (hc : c1 a0 = true) (hd : decode cc pc = .ok (.istore_n 1, 1)) (k : G p l e R s m args below meth c H locs cells slots Q (a0 :: some (.int x) :: t) (pc + 1) st) : G p l e R s m args below meth c H locs cells slots Q (a0 :: b :: t) pc (.int x :: st) := by
  intro ls h
  refine lv_istore_n (i := 1) C.1 C.2.1 hd rfl h (by simp only [List.length_cons]; omega) rfl (fun ls2 h2 => k ls2 (G.sto (by simp only [List.length_cons]) ?_ h2))
  intro j w hw
  match j, hw with
  | 0, hw =>
    have hw2 : a0 = some w := Option.some.inj hw
    subst hw2
    have hc2 : w.category = 1 := by simpa [c1] using hc
    exact Or.inr ⟨hw, by simp [hc2]⟩
  | 1, hw => exact Or.inl ⟨rfl, (Option.some.inj (Option.some.inj hw)).symm⟩
  | j + 2, hw => exact Or.inr ⟨hw, by first | (simp; done) | (simp; omega)⟩
theorem g_istore2 (C : CX p s m args meth c cc own nL ret) {a0 a1 b : Option Value} {t : List (Option Value)} {x : Int32} (hc : c1 a1 = true) (hd : decode cc pc = .ok (.istore_n 2, 1)) (k : G p l e R s m args below meth c H locs cells slots Q (a0 :: a1 :: some (.int x) :: t) (pc + 1) st) : G p l e R s m args below meth c H locs cells slots Q (a0 :: a1 :: b :: t) pc (.int x :: st) := by
  intro ls h
  refine lv_istore_n (i := 2) C.1 C.2.1 hd rfl h (by simp only [List.length_cons]; omega) rfl (fun ls2 h2 => k ls2 (G.sto (by simp only [List.length_cons]) ?_ h2))
  intro j w hw
  match j, hw with
  | 0, hw => exact Or.inr ⟨hw, by simp⟩
  | 1, hw =>
    have hw2 : a1 = some w := Option.some.inj hw
    subst hw2
    have hc2 : w.category = 1 := by simpa [c1] using hc
    exact Or.inr ⟨hw, by simp [hc2]⟩
  | 2, hw => exact Or.inl ⟨rfl, (Option.some.inj (Option.some.inj hw)).symm⟩
  | j + 3, hw => exact Or.inr ⟨hw, by first | (simp; done) | (simp; omega)⟩
theorem g_istore3 (C : CX p s m args meth c cc own nL ret) {a0 a1 a2 b : Option Value} {t : List (Option Value)} {x : Int32} (hc : c1 a2 = true) (hd : decode cc pc = .ok (.istore_n 3, 1)) (k : G p l e R s m args below meth c H locs cells slots Q (a0 :: a1 :: a2 :: some (.int x) :: t) (pc + 1) st) : G p l e R s m args below meth c H locs cells slots Q (a0 :: a1 :: a2 :: b :: t) pc (.int x :: st) := by
  intro ls h
  refine lv_istore_n (i := 3) C.1 C.2.1 hd rfl h (by simp only [List.length_cons]; omega) rfl (fun ls2 h2 => k ls2 (G.sto (by simp only [List.length_cons]) ?_ h2))
  intro j w hw
  match j, hw with
  | 0, hw => exact Or.inr ⟨hw, by simp⟩
  | 1, hw => exact Or.inr ⟨hw, by simp⟩
  | 2, hw =>
    have hw2 : a2 = some w := Option.some.inj hw
    subst hw2
    have hc2 : w.category = 1 := by simpa [c1] using hc
    exact Or.inr ⟨hw, by simp [hc2]⟩
  | 3, hw => exact Or.inl ⟨rfl, (Option.some.inj (Option.some.inj hw)).symm⟩
  | j + 4, hw => exact Or.inr ⟨hw, by first | (simp; done) | (simp; omega)⟩
theorem g_istore4 (C : CX p s m args meth c cc own nL ret) {a0 a1 a2 a3 b : Option Value} {t : List (Option Value)} {x : Int32} (hc : c1 a3 = true) (hd : decode cc pc = .ok (.istore 4, 2)) (k : G p l e R s m args below meth c H locs cells slots Q (a0 :: a1 :: a2 :: a3 :: some (.int x) :: t) (pc + 2) st) : G p l e R s m args below meth c H locs cells slots Q (a0 :: a1 :: a2 :: a3 :: b :: t) pc (.int x :: st) := by
  intro ls h
  refine lv_istore C.1 C.2.1 hd h (by simp only [List.length_cons]; omega) rfl (fun ls2 h2 => k ls2 (G.sto (by simp only [List.length_cons]) ?_ h2))
  intro j w hw
  match j, hw with
  | 0, hw => exact Or.inr ⟨hw, by simp⟩
  | 1, hw => exact Or.inr ⟨hw, by simp⟩
  | 2, hw => exact Or.inr ⟨hw, by simp⟩
  | 3, hw =>
    have hw2 : a3 = some w := Option.some.inj hw
    subst hw2
    have hc2 : w.category = 1 := by simpa [c1] using hc
    exact Or.inr ⟨hw, by simp [hc2]⟩
  | 4, hw => exact Or.inl ⟨rfl, (Option.some.inj (Option.some.inj hw)).symm⟩
  | j + 5, hw => exact Or.inr ⟨hw, by first | (simp; done) | (simp; omega)⟩
theorem g_istore5 (C : CX p s m args meth c cc own nL ret) {a0 a1 a2 a3 a4 b : Option Value} {t : List (Option Value)} {x : Int32} (hc : c1 a4 = true) (hd : decode cc pc = .ok (.istore 5, 2)) (k : G p l e R s m args below meth c H locs cells slots Q (a0 :: a1 :: a2 :: a3 :: a4 :: some (.int x) :: t) (pc + 2) st) : G p l e R s m args below meth c H locs cells slots Q (a0 :: a1 :: a2 :: a3 :: a4 :: b :: t) pc (.int x :: st) := by
  intro ls h
  refine lv_istore C.1 C.2.1 hd h (by simp only [List.length_cons]; omega) rfl (fun ls2 h2 => k ls2 (G.sto (by simp only [List.length_cons]) ?_ h2))
  intro j w hw
  match j, hw with
  | 0, hw => exact Or.inr ⟨hw, by simp⟩
  | 1, hw => exact Or.inr ⟨hw, by simp⟩
  | 2, hw => exact Or.inr ⟨hw, by simp⟩
  | 3, hw => exact Or.inr ⟨hw, by simp⟩
  | 4, hw =>
    have hw2 : a4 = some w := Option.some.inj hw
    subst hw2
    have hc2 : w.category = 1 := by simpa [c1] using hc
    exact Or.inr ⟨hw, by simp [hc2]⟩
  | 5, hw => exact Or.inl ⟨rfl, (Option.some.inj (Option.some.inj hw)).symm⟩
  | j + 6, hw => exact Or.inr ⟨hw, by first | (simp; done) | (simp; omega)⟩
theorem g_istore6 (C : CX p s m args meth c cc own nL ret) {a0 a1 a2 a3 a4 a5 b : Option Value} {t : List (Option Value)} {x : Int32} (hc : c1 a5 = true) (hd : decode cc pc = .ok (.istore 6, 2)) (k : G p l e R s m args below meth c H locs cells slots Q (a0 :: a1 :: a2 :: a3 :: a4 :: a5 :: some (.int x) :: t) (pc + 2) st) : G p l e R s m args below meth c H locs cells slots Q (a0 :: a1 :: a2 :: a3 :: a4 :: a5 :: b :: t) pc (.int x :: st) := by
  intro ls h
  refine lv_istore C.1 C.2.1 hd h (by simp only [List.length_cons]; omega) rfl (fun ls2 h2 => k ls2 (G.sto (by simp only [List.length_cons]) ?_ h2))
  intro j w hw
  match j, hw with
  | 0, hw => exact Or.inr ⟨hw, by simp⟩
  | 1, hw => exact Or.inr ⟨hw, by simp⟩
  | 2, hw => exact Or.inr ⟨hw, by simp⟩
  | 3, hw => exact Or.inr ⟨hw, by simp⟩
  | 4, hw => exact Or.inr ⟨hw, by simp⟩
  | 5, hw =>
    have hw2 : a5 = some w := Option.some.inj hw
    subst hw2
    have hc2 : w.category = 1 := by simpa [c1] using hc
    exact Or.inr ⟨hw, by simp [hc2]⟩
  | 6, hw => exact Or.inl ⟨rfl, (Option.some.inj (Option.some.inj hw)).symm⟩
  | j + 7, hw => exact Or.inr ⟨hw, by first | (simp; done) | (simp; omega)⟩
theorem g_istore7 (C : CX p s m args meth c cc own nL ret) {a0 a1 a2 a3 a4 a5 a6 b : Option Value} {t : List (Option Value)} {x : Int32} (hc : c1 a6 = true) (hd : decode cc pc = .ok (.istore 7, 2)) (k : G p l e R s m args below meth c H locs cells slots Q (a0 :: a1 :: a2 :: a3 :: a4 :: a5 :: a6 :: some (.int x) :: t) (pc + 2) st) : G p l e R s m args below meth c H locs cells slots Q (a0 :: a1 :: a2 :: a3 :: a4 :: a5 :: a6 :: b :: t) pc (.int x :: st) := by
  intro ls h
  refine lv_istore C.1 C.2.1 hd h (by simp only [List.length_cons]; omega) rfl (fun ls2 h2 => k ls2 (G.sto (by simp only [List.length_cons]) ?_ h2))
  intro j w hw
  match j, hw with
  | 0, hw => exact Or.inr ⟨hw, by simp⟩
  | 1, hw => exact Or.inr ⟨hw, by simp⟩
  | 2, hw => exact Or.inr ⟨hw, by simp⟩
  | 3, hw => exact Or.inr ⟨hw, by simp⟩
  | 4, hw => exact Or.inr ⟨hw, by simp⟩
  | 5, hw => exact Or.inr ⟨hw, by simp⟩
  | 6, hw =>
    have hw2 : a6 = some w := Option.some.inj hw
    subst hw2
    have hc2 : w.category = 1 := by simpa [c1] using hc
    exact Or.inr ⟨hw, by simp [hc2]⟩
  | 7, hw => exact Or.inl ⟨rfl, (Option.some.inj (Option.some.inj hw)).symm⟩
  | j + 8, hw => exact Or.inr ⟨hw, by first | (simp; done) | (simp; omega)⟩
theorem g_istore8 (C : CX p s m args meth c cc own nL ret) {a0 a1 a2 a3 a4 a5 a6 a7 b : Option Value} {t : List (Option Value)} {x : Int32} (hc : c1 a7 = true) (hd : decode cc pc = .ok (.istore 8, 2)) (k : G p l e R s m args below meth c H locs cells slots Q (a0 :: a1 :: a2 :: a3 :: a4 :: a5 :: a6 :: a7 :: some (.int x) :: t) (pc + 2) st) : G p l e R s m args below meth c H locs cells slots Q (a0 :: a1 :: a2 :: a3 :: a4 :: a5 :: a6 :: a7 :: b :: t) pc (.int x :: st) := by
  intro ls h
  refine lv_istore C.1 C.2.1 hd h (by simp only [List.length_cons]; omega) rfl (fun ls2 h2 => k ls2 (G.sto (by simp only [List.length_cons]) ?_ h2))
  intro j w hw
  match j, hw with
  | 0, hw => exact Or.inr ⟨hw, by simp⟩
  | 1, hw => exact Or.inr ⟨hw, by simp⟩
  | 2, hw => exact Or.inr ⟨hw, by simp⟩
  | 3, hw => exact Or.inr ⟨hw, by simp⟩
  | 4, hw => exact Or.inr ⟨hw, by simp⟩
  | 5, hw => exact Or.inr ⟨hw, by simp⟩
  | 6, hw => exact Or.inr ⟨hw, by simp⟩
  | 7, hw =>
    have hw2 : a7 = some w := Option.some.inj hw
    subst hw2
    have hc2 : w.category = 1 := by simpa [c1] using hc
    exact Or.inr ⟨hw, by simp [hc2]⟩
  | 8, hw => exact Or.inl ⟨rfl, (Option.some.inj (Option.some.inj hw)).symm⟩
  | j + 9, hw => exact Or.inr ⟨hw, by first | (simp; done) | (simp; omega)⟩
theorem g_astore0 (C : CX p s m args meth c cc own nL ret) {b : Option Value} {t : List (Option Value)} {x : Nat} (hd : decode cc pc = .ok (.astore_n 0, 1)) (k : G p l e R s m args below meth c H locs cells slots Q (some (.ref x) :: t) (pc + 1) st) : G p l e R s m args below meth c H locs cells slots Q (b :: t) pc (.ref x :: st) := by
  intro ls h
  refine lv_astore_n (i := 0) C.1 C.2.1 hd rfl h (by simp only [List.length_cons]; omega) rfl (fun ls2 h2 => k ls2 (G.sto (by simp only [List.length_cons]) ?_ h2))
  intro j w hw
  match j, hw with
  | 0, hw => exact Or.inl ⟨rfl, (Option.some.inj (Option.some.inj hw)).symm⟩
  | j + 1, hw => exact Or.inr ⟨hw, by first | (simp; done) | (simp; omega)⟩
theorem g_astore1 (C : CX p s m args meth c cc own nL ret) {a0 b : Option Value} {t : List (Option Value)} {x : Nat} (hc : c1 a0 = true) (hd : decode cc pc = .ok (.astore_n 1, 1)) (k : G p l e R s m args below meth c H locs cells slots Q (a0 :: some (.ref x) :: t) (pc + 1) st) : G p l e R s m args below meth c H locs cells slots Q (a0 :: b :: t) pc (.ref x :: st) := by
  intro ls h
  refine lv_astore_n (i := 1) C.1 C.2.1 hd rfl h (by simp only [List.length_cons]; omega) rfl (fun ls2 h2 => k ls2 (G.sto (by simp only [List.length_cons]) ?_ h2))
  intro j w hw
  match j, hw with
  | 0, hw =>
    have hw2 : a0 = some w := Option.some.inj hw
    subst hw2
    have hc2 : w.category = 1 := by simpa [c1] using hc
    exact Or.inr ⟨hw, by simp [hc2]⟩
  | 1, hw => exact Or.inl ⟨rfl, (Option.some.inj (Option.some.inj hw)).symm⟩
  | j + 2, hw => exact Or.inr ⟨hw, by first | (simp; done) | (simp; omega)⟩
theorem g_astore2 (C : CX p s m args meth c cc own nL ret) {a0 a1 b : Option Value} {t : List (Option Value)} {x : Nat} (hc : c1 a1 = true) (hd : decode cc pc = .ok (.astore_n 2, 1)) (k : G p l e R s m args below meth c H locs cells slots Q (a0 :: a1 :: some (.ref x) :: t) (pc + 1) st) : G p l e R s m args below meth c H locs cells slots Q (a0 :: a1 :: b :: t) pc (.ref x :: st) := by
  intro ls h
  refine lv_astore_n (i := 2) C.1 C.2.1 hd rfl h (by simp only [List.length_cons]; omega) rfl (fun ls2 h2 => k ls2 (G.sto (by simp only [List.length_cons]) ?_ h2))
  intro j w hw
  match j, hw with
  | 0, hw => exact Or.inr ⟨hw, by simp⟩
  | 1, hw =>
    have hw2 : a1 = some w := Option.some.inj hw
    subst hw2
    have hc2 : w.category = 1 := by simpa [c1] using hc
    exact Or.inr ⟨hw, by simp [hc2]⟩
  | 2, hw => exact Or.inl ⟨rfl, (Option.some.inj (Option.some.inj hw)).symm⟩
  | j + 3, hw => exact Or.inr ⟨hw, by first | (simp; done) | (simp; omega)⟩
theorem g_astore3 (C : CX p s m args meth c cc own nL ret) {a0 a1 a2 b : Option Value} {t : List (Option Value)} {x : Nat} (hc : c1 a2 = true) (hd : decode cc pc = .ok (.astore_n 3, 1)) (k : G p l e R s m args below meth c H locs cells slots Q (a0 :: a1 :: a2 :: some (.ref x) :: t) (pc + 1) st) : G p l e R s m args below meth c H locs cells slots Q (a0 :: a1 :: a2 :: b :: t) pc (.ref x :: st) := by
  intro ls h
  refine lv_astore_n (i := 3) C.1 C.2.1 hd rfl h (by simp only [List.length_cons]; omega) rfl (fun ls2 h2 => k ls2 (G.sto (by simp only [List.length_cons]) ?_ h2))
  intro j w hw
  match j, hw with
  | 0, hw => exact Or.inr ⟨hw, by simp⟩
  | 1, hw => exact Or.inr ⟨hw, by simp⟩
  | 2, hw =>
    have hw2 : a2 = some w := Option.some.inj hw
    subst hw2
    have hc2 : w.category = 1 := by simpa [c1] using hc
    exact Or.inr ⟨hw, by simp [hc2]⟩
  | 3, hw => exact Or.inl ⟨rfl, (Option.some.inj (Option.some.inj hw)).symm⟩
  | j + 4, hw => exact Or.inr ⟨hw, by first | (simp; done) | (simp; omega)⟩
theorem g_astore4 (C : CX p s m args meth c cc own nL ret) {a0 a1 a2 a3 b : Option Value} {t : List (Option Value)} {x : Nat} (hc : c1 a3 = true) (hd : decode cc pc = .ok (.astore 4, 2)) (k : G p l e R s m args below meth c H locs cells slots Q (a0 :: a1 :: a2 :: a3 :: some (.ref x) :: t) (pc + 2) st) : G p l e R s m args below meth c H locs cells slots Q (a0 :: a1 :: a2 :: a3 :: b :: t) pc (.ref x :: st) := by
  intro ls h
  refine lv_astore C.1 C.2.1 hd h (by simp only [List.length_cons]; omega) rfl (fun ls2 h2 => k ls2 (G.sto (by simp only [List.length_cons]) ?_ h2))
  intro j w hw
  match j, hw with
  | 0, hw => exact Or.inr ⟨hw, by simp⟩
  | 1, hw => exact Or.inr ⟨hw, by simp⟩
  | 2, hw => exact Or.inr ⟨hw, by simp⟩
  | 3, hw =>
    have hw2 : a3 = some w := Option.some.inj hw
    subst hw2
    have hc2 : w.category = 1 := by simpa [c1] using hc
    exact Or.inr ⟨hw, by simp [hc2]⟩
  | 4, hw => exact Or.inl ⟨rfl, (Option.some.inj (Option.some.inj hw)).symm⟩
  | j + 5, hw => exact Or.inr ⟨hw, by first | (simp; done) | (simp; omega)⟩
theorem g_astore5 (C : CX p s m args meth c cc own nL ret) {a0 a1 a2 a3 a4 b : Option Value} {t : List (Option Value)} {x : Nat} (hc : c1 a4 = true) (hd : decode cc pc = .ok (.astore 5, 2)) (k : G p l e R s m args below meth c H locs cells slots Q (a0 :: a1 :: a2 :: a3 :: a4 :: some (.ref x) :: t) (pc + 2) st) : G p l e R s m args below meth c H locs cells slots Q (a0 :: a1 :: a2 :: a3 :: a4 :: b :: t) pc (.ref x :: st) := by
  intro ls h
  refine lv_astore C.1 C.2.1 hd h (by simp only [List.length_cons]; omega) rfl (fun ls2 h2 => k ls2 (G.sto (by simp only [List.length_cons]) ?_ h2))
  intro j w hw
  match j, hw with
  | 0, hw => exact Or.inr ⟨hw, by simp⟩
  | 1, hw => exact Or.inr ⟨hw, by simp⟩
  | 2, hw => exact Or.inr ⟨hw, by simp⟩
  | 3, hw => exact Or.inr ⟨hw, by simp⟩
  | 4, hw =>
    have hw2 : a4 = some w := Option.some.inj hw
    subst hw2
    have hc2 : w.category = 1 := by simpa [c1] using hc
    exact Or.inr ⟨hw, by simp [hc2]⟩
  | 5, hw => exact Or.inl ⟨rfl, (Option.some.inj (Option.some.inj hw)).symm⟩
  | j + 6, hw => exact Or.inr ⟨hw, by first | (simp; done) | (simp; omega)⟩
theorem g_astore6 (C : CX p s m args meth c cc own nL ret) {a0 a1 a2 a3 a4 a5 b : Option Value} {t : List (Option Value)} {x : Nat} (hc : c1 a5 = true) (hd : decode cc pc = .ok (.astore 6, 2)) (k : G p l e R s m args below meth c H locs cells slots Q (a0 :: a1 :: a2 :: a3 :: a4 :: a5 :: some (.ref x) :: t) (pc + 2) st) : G p l e R s m args below meth c H locs cells slots Q (a0 :: a1 :: a2 :: a3 :: a4 :: a5 :: b :: t) pc (.ref x :: st) := by
  intro ls h
  refine lv_astore C.1 C.2.1 hd h (by simp only [List.length_cons]; omega) rfl (fun ls2 h2 => k ls2 (G.sto (by simp only [List.length_cons]) ?_ h2))
  intro j w hw
  match j, hw with
  | 0, hw => exact Or.inr ⟨hw, by simp⟩
  | 1, hw => exact Or.inr ⟨hw, by simp⟩
  | 2, hw => exact Or.inr ⟨hw, by simp⟩
  | 3, hw => exact Or.inr ⟨hw, by simp⟩
  | 4, hw => exact Or.inr ⟨hw, by simp⟩
  | 5, hw =>
    have hw2 : a5 = some w := Option.some.inj hw
    subst hw2
    have hc2 : w.category = 1 := by simpa [c1] using hc
    exact Or.inr ⟨hw, by simp [hc2]⟩
  | 6, hw => exact Or.inl ⟨rfl, (Option.some.inj (Option.some.inj hw)).symm⟩
  | j + 7, hw => exact Or.inr ⟨hw, by first | (simp; done) | (simp; omega)⟩
theorem g_astore7 (C : CX p s m args meth c cc own nL ret) {a0 a1 a2 a3 a4 a5 a6 b : Option Value} {t : List (Option Value)} {x : Nat} (hc : c1 a6 = true) (hd : decode cc pc = .ok (.astore 7, 2)) (k : G p l e R s m args below meth c H locs cells slots Q (a0 :: a1 :: a2 :: a3 :: a4 :: a5 :: a6 :: some (.ref x) :: t) (pc + 2) st) : G p l e R s m args below meth c H locs cells slots Q (a0 :: a1 :: a2 :: a3 :: a4 :: a5 :: a6 :: b :: t) pc (.ref x :: st) := by
  intro ls h
  refine lv_astore C.1 C.2.1 hd h (by simp only [List.length_cons]; omega) rfl (fun ls2 h2 => k ls2 (G.sto (by simp only [List.length_cons]) ?_ h2))
  intro j w hw
  match j, hw with
  | 0, hw => exact Or.inr ⟨hw, by simp⟩
  | 1, hw => exact Or.inr ⟨hw, by simp⟩
  | 2, hw => exact Or.inr ⟨hw, by simp⟩
  | 3, hw => exact Or.inr ⟨hw, by simp⟩
  | 4, hw => exact Or.inr ⟨hw, by simp⟩
  | 5, hw => exact Or.inr ⟨hw, by simp⟩
  | 6, hw =>
    have hw2 : a6 = some w := Option.some.inj hw
    subst hw2
    have hc2 : w.category = 1 := by simpa [c1] using hc
    exact Or.inr ⟨hw, by simp [hc2]⟩
  | 7, hw => exact Or.inl ⟨rfl, (Option.some.inj (Option.some.inj hw)).symm⟩
  | j + 8, hw => exact Or.inr ⟨hw, by first | (simp; done) | (simp; omega)⟩
theorem g_astore8 (C : CX p s m args meth c cc own nL ret) {a0 a1 a2 a3 a4 a5 a6 a7 b : Option Value} {t : List (Option Value)} {x : Nat} (hc : c1 a7 = true) (hd : decode cc pc = .ok (.astore 8, 2)) (k : G p l e R s m args below meth c H locs cells slots Q (a0 :: a1 :: a2 :: a3 :: a4 :: a5 :: a6 :: a7 :: some (.ref x) :: t) (pc + 2) st) : G p l e R s m args below meth c H locs cells slots Q (a0 :: a1 :: a2 :: a3 :: a4 :: a5 :: a6 :: a7 :: b :: t) pc (.ref x :: st) := by
  intro ls h
  refine lv_astore C.1 C.2.1 hd h (by simp only [List.length_cons]; omega) rfl (fun ls2 h2 => k ls2 (G.sto (by simp only [List.length_cons]) ?_ h2))
  intro j w hw
  match j, hw with
  | 0, hw => exact Or.inr ⟨hw, by simp⟩
  | 1, hw => exact Or.inr ⟨hw, by simp⟩
  | 2, hw => exact Or.inr ⟨hw, by simp⟩
  | 3, hw => exact Or.inr ⟨hw, by simp⟩
  | 4, hw => exact Or.inr ⟨hw, by simp⟩
  | 5, hw => exact Or.inr ⟨hw, by simp⟩
  | 6, hw => exact Or.inr ⟨hw, by simp⟩
  | 7, hw =>
    have hw2 : a7 = some w := Option.some.inj hw
    subst hw2
    have hc2 : w.category = 1 := by simpa [c1] using hc
    exact Or.inr ⟨hw, by simp [hc2]⟩
  | 8, hw => exact Or.inl ⟨rfl, (Option.some.inj (Option.some.inj hw)).symm⟩
  | j + 9, hw => exact Or.inr ⟨hw, by first | (simp; done) | (simp; omega)⟩
theorem g_lstore0 (C : CX p s m args meth c cc own nL ret) {b b2 : Option Value} {t : List (Option Value)} {x : Int64} (hd : decode cc pc = .ok (.lstore_n 0, 1)) (k : G p l e R s m args below meth c H locs cells slots Q (some (.long x) :: none :: t) (pc + 1) st) : G p l e R s m args below meth c H locs cells slots Q (b :: b2 :: t) pc (.long x :: st) := by
  intro ls h
  refine lv_lstore_n (i := 0) C.1 C.2.1 hd rfl h (by simp only [List.length_cons]; omega) rfl (fun ls2 h2 => k ls2 (G.sto (by simp only [List.length_cons]) ?_ h2))
  intro j w hw
  match j, hw with
  | 0, hw => exact Or.inl ⟨rfl, (Option.some.inj (Option.some.inj hw)).symm⟩
  | 1, hw => exact absurd hw (by simp)
  | j + 2, hw => exact Or.inr ⟨hw, by first | (simp; done) | (simp; omega)⟩
theorem g_lstore1 (C : CX p s m args meth c cc own nL ret) {a0 b b2 : Option Value} {t : List (Option Value)} {x : Int64} (hc : c1 a0 = true) (hd : decode cc pc = .ok (.lstore_n 1, 1)) (k : G p l e R s m args below meth c H locs cells slots Q (a0 :: some (.long x) :: none :: t) (pc + 1) st) : G p l e R s m args below meth c H locs cells slots Q (a0 :: b :: b2 :: t) pc (.long x :: st) := by
  intro ls h
  refine lv_lstore_n (i := 1) C.1 C.2.1 hd rfl h (by simp only [List.length_cons]; omega) rfl (fun ls2 h2 => k ls2 (G.sto (by simp only [List.length_cons]) ?_ h2))
  intro j w hw
  match j, hw with
  | 0, hw =>
    have hw2 : a0 = some w := Option.some.inj hw
    subst hw2
    have hc2 : w.category = 1 := by simpa [c1] using hc
    exact Or.inr ⟨hw, by simp [hc2]⟩
  | 1, hw => exact Or.inl ⟨rfl, (Option.some.inj (Option.some.inj hw)).symm⟩
  | 2, hw => exact absurd hw (by simp)
  | j + 3, hw => exact Or.inr ⟨hw, by first | (simp; done) | (simp; omega)⟩
theorem g_lstore2 (C : CX p s m args meth c cc own nL ret) {a0 a1 b b2 : Option Value} {t : List (Option Value)} {x : Int64} (hc : c1 a1 = true) (hd : decode cc pc = .ok (.lstore_n 2, 1)) (k : G p l e R s m args below meth c H locs cells slots Q (a0 :: a1 :: some (.long x) :: none :: t) (pc + 1) st) : G p l e R s m args below meth c H locs cells slots Q (a0 :: a1 :: b :: b2 :: t) pc (.long x :: st) := by
  intro ls h
  refine lv_lstore_n (i := 2) C.1 C.2.1 hd rfl h (by simp only [List.length_cons]; omega) rfl (fun ls2 h2 => k ls2 (G.sto (by simp only [List.length_cons]) ?_ h2))
  intro j w hw
  match j, hw with
  | 0, hw => exact Or.inr ⟨hw, by simp⟩
  | 1, hw =>
    have hw2 : a1 = some w := Option.some.inj hw
    subst hw2
    have hc2 : w.category = 1 := by simpa [c1] using hc
    exact Or.inr ⟨hw, by simp [hc2]⟩
  | 2, hw => exact Or.inl ⟨rfl, (Option.some.inj (Option.some.inj hw)).symm⟩
  | 3, hw => exact absurd hw (by simp)
  | j + 4, hw => exact Or.inr ⟨hw, by first | (simp; done) | (simp; omega)⟩
theorem g_lstore3 (C : CX p s m args meth c cc own nL ret) {a0 a1 a2 b b2 : Option Value} {t : List (Option Value)} {x : Int64} (hc : c1 a2 = true) (hd : decode cc pc = .ok (.lstore_n 3, 1)) (k : G p l e R s m args below meth c H locs cells slots Q (a0 :: a1 :: a2 :: some (.long x) :: none :: t) (pc + 1) st) : G p l e R s m args below meth c H locs cells slots Q (a0 :: a1 :: a2 :: b :: b2 :: t) pc (.long x :: st) := by
  intro ls h
  refine lv_lstore_n (i := 3) C.1 C.2.1 hd rfl h (by simp only [List.length_cons]; omega) rfl (fun ls2 h2 => k ls2 (G.sto (by simp only [List.length_cons]) ?_ h2))
  intro j w hw
  match j, hw with
  | 0, hw => exact Or.inr ⟨hw, by simp⟩
  | 1, hw => exact Or.inr ⟨hw, by simp⟩
  | 2, hw =>
    have hw2 : a2 = some w := Option.some.inj hw
    subst hw2
    have hc2 : w.category = 1 := by simpa [c1] using hc
    exact Or.inr ⟨hw, by simp [hc2]⟩
  | 3, hw => exact Or.inl ⟨rfl, (Option.some.inj (Option.some.inj hw)).symm⟩
  | 4, hw => exact absurd hw (by simp)
  | j + 5, hw => exact Or.inr ⟨hw, by first | (simp; done) | (simp; omega)⟩
theorem g_lstore4 (C : CX p s m args meth c cc own nL ret) {a0 a1 a2 a3 b b2 : Option Value} {t : List (Option Value)} {x : Int64} (hc : c1 a3 = true) (hd : decode cc pc = .ok (.lstore 4, 2)) (k : G p l e R s m args below meth c H locs cells slots Q (a0 :: a1 :: a2 :: a3 :: some (.long x) :: none :: t) (pc + 2) st) : G p l e R s m args below meth c H locs cells slots Q (a0 :: a1 :: a2 :: a3 :: b :: b2 :: t) pc (.long x :: st) := by
  intro ls h
  refine lv_lstore C.1 C.2.1 hd h (by simp only [List.length_cons]; omega) rfl (fun ls2 h2 => k ls2 (G.sto (by simp only [List.length_cons]) ?_ h2))
  intro j w hw
  match j, hw with
  | 0, hw => exact Or.inr ⟨hw, by simp⟩
  | 1, hw => exact Or.inr ⟨hw, by simp⟩
  | 2, hw => exact Or.inr ⟨hw, by simp⟩
  | 3, hw =>
    have hw2 : a3 = some w := Option.some.inj hw
    subst hw2
    have hc2 : w.category = 1 := by simpa [c1] using hc
    exact Or.inr ⟨hw, by simp [hc2]⟩
  | 4, hw => exact Or.inl ⟨rfl, (Option.some.inj (Option.some.inj hw)).symm⟩
  | 5, hw => exact absurd hw (by simp)
  | j + 6, hw => exact Or.inr ⟨hw, by first | (simp; done) | (simp; omega)⟩
theorem g_lstore5 (C : CX p s m args meth c cc own nL ret) {a0 a1 a2 a3 a4 b b2 : Option Value} {t : List (Option Value)} {x : Int64} (hc : c1 a4 = true) (hd : decode cc pc = .ok (.lstore 5, 2)) (k : G p l e R s m args below meth c H locs cells slots Q (a0 :: a1 :: a2 :: a3 :: a4 :: some (.long x) :: none :: t) (pc + 2) st) : G p l e R s m args below meth c H locs cells slots Q (a0 :: a1 :: a2 :: a3 :: a4 :: b :: b2 :: t) pc (.long x :: st) := by
  intro ls h
  refine lv_lstore C.1 C.2.1 hd h (by simp only [List.length_cons]; omega) rfl (fun ls2 h2 => k ls2 (G.sto (by simp only [List.length_cons]) ?_ h2))
  intro j w hw
  match j, hw with
  | 0, hw => exact Or.inr ⟨hw, by simp⟩
  | 1, hw => exact Or.inr ⟨hw, by simp⟩
  | 2, hw => exact Or.inr ⟨hw, by simp⟩
  | 3, hw => exact Or.inr ⟨hw, by simp⟩
  | 4, hw =>
    have hw2 : a4 = some w := Option.some.inj hw
    subst hw2
    have hc2 : w.category = 1 := by simpa [c1] using hc
    exact Or.inr ⟨hw, by simp [hc2]⟩
  | 5, hw => exact Or.inl ⟨rfl, (Option.some.inj (Option.some.inj hw)).symm⟩
  | 6, hw => exact absurd hw (by simp)
  | j + 7, hw => exact Or.inr ⟨hw, by first | (simp; done) | (simp; omega)⟩
theorem g_lstore6 (C : CX p s m args meth c cc own nL ret) {a0 a1 a2 a3 a4 a5 b b2 : Option Value} {t : List (Option Value)} {x : Int64} (hc : c1 a5 = true) (hd : decode cc pc = .ok (.lstore 6, 2)) (k : G p l e R s m args below meth c H locs cells slots Q (a0 :: a1 :: a2 :: a3 :: a4 :: a5 :: some (.long x) :: none :: t) (pc + 2) st) : G p l e R s m args below meth c H locs cells slots Q (a0 :: a1 :: a2 :: a3 :: a4 :: a5 :: b :: b2 :: t) pc (.long x :: st) := by
  intro ls h
  refine lv_lstore C.1 C.2.1 hd h (by simp only [List.length_cons]; omega) rfl (fun ls2 h2 => k ls2 (G.sto (by simp only [List.length_cons]) ?_ h2))
  intro j w hw
  match j, hw with
  | 0, hw => exact Or.inr ⟨hw, by simp⟩
  | 1, hw => exact Or.inr ⟨hw, by simp⟩
  | 2, hw => exact Or.inr ⟨hw, by simp⟩
  | 3, hw => exact Or.inr ⟨hw, by simp⟩
  | 4, hw => exact Or.inr ⟨hw, by simp⟩
  | 5, hw =>
    have hw2 : a5 = some w := Option.some.inj hw
    subst hw2
    have hc2 : w.category = 1 := by simpa [c1] using hc
    exact Or.inr ⟨hw, by simp [hc2]⟩
  | 6, hw => exact Or.inl ⟨rfl, (Option.some.inj (Option.some.inj hw)).symm⟩
  | 7, hw => exact absurd hw (by simp)
  | j + 8, hw => exact Or.inr ⟨hw, by first | (simp; done) | (simp; omega)⟩
theorem g_lstore7 (C : CX p s m args meth c cc own nL ret) {a0 a1 a2 a3 a4 a5 a6 b b2 : Option Value} {t : List (Option Value)} {x : Int64} (hc : c1 a6 = true) (hd : decode cc pc = .ok (.lstore 7, 2)) (k : G p l e R s m args below meth c H locs cells slots Q (a0 :: a1 :: a2 :: a3 :: a4 :: a5 :: a6 :: some (.long x) :: none :: t) (pc + 2) st) : G p l e R s m args below meth c H locs cells slots Q (a0 :: a1 :: a2 :: a3 :: a4 :: a5 :: a6 :: b :: b2 :: t) pc (.long x :: st) := by
  intro ls h
  refine lv_lstore C.1 C.2.1 hd h (by simp only [List.length_cons]; omega) rfl (fun ls2 h2 => k ls2 (G.sto (by simp only [List.length_cons]) ?_ h2))
  intro j w hw
  match j, hw with
  | 0, hw => exact Or.inr ⟨hw, by simp⟩
  | 1, hw => exact Or.inr ⟨hw, by simp⟩
  | 2, hw => exact Or.inr ⟨hw, by simp⟩
  | 3, hw => exact Or.inr ⟨hw, by simp⟩
  | 4, hw => exact Or.inr ⟨hw, by simp⟩
  | 5, hw => exact Or.inr ⟨hw, by simp⟩
  | 6, hw =>
    have hw2 : a6 = some w := Option.some.inj hw
    subst hw2
    have hc2 : w.category = 1 := by simpa [c1] using hc
    exact Or.inr ⟨hw, by simp [hc2]⟩
  | 7, hw => exact Or.inl ⟨rfl, (Option.some.inj (Option.some.inj hw)).symm⟩
  | 8, hw => exact absurd hw (by simp)
  | j + 9, hw => exact Or.inr ⟨hw, by first | (simp; done) | (simp; omega)⟩
theorem g_lstore8 (C : CX p s m args meth c cc own nL ret) {a0 a1 a2 a3 a4 a5 a6 a7 b b2 : Option Value} {t : List (Option Value)} {x : Int64} (hc : c1 a7 = true) (hd : decode cc pc = .ok (.lstore 8, 2)) (k : G p l e R s m args below meth c H locs cells slots Q (a0 :: a1 :: a2 :: a3 :: a4 :: a5 :: a6 :: a7 :: some (.long x) :: none :: t) (pc + 2) st) : G p l e R s m args below meth c H locs cells slots Q (a0 :: a1 :: a2 :: a3 :: a4 :: a5 :: a6 :: a7 :: b :: b2 :: t) pc (.long x :: st) := by
  intro ls h
  refine lv_lstore C.1 C.2.1 hd h (by simp only [List.length_cons]; omega) rfl (fun ls2 h2 => k ls2 (G.sto (by simp only [List.length_cons]) ?_ h2))
  intro j w hw
  match j, hw with
  | 0, hw => exact Or.inr ⟨hw, by simp⟩
  | 1, hw => exact Or.inr ⟨hw, by simp⟩
  | 2, hw => exact Or.inr ⟨hw, by simp⟩
  | 3, hw => exact Or.inr ⟨hw, by simp⟩
  | 4, hw => exact Or.inr ⟨hw, by simp⟩
  | 5, hw => exact Or.inr ⟨hw, by simp⟩
  | 6, hw => exact Or.inr ⟨hw, by simp⟩
  | 7, hw =>
    have hw2 : a7 = some w := Option.some.inj hw
    subst hw2
    have hc2 : w.category = 1 := by simpa [c1] using hc
    exact Or.inr ⟨hw, by simp [hc2]⟩
  | 8, hw => exact Or.inl ⟨rfl, (Option.some.inj (Option.some.inj hw)).symm⟩
  | 9, hw => exact absurd hw (by simp)
  | j + 10, hw => exact Or.inr ⟨hw, by first | (simp; done) | (simp; omega)⟩
theorem g_dstore0 (C : CX p s m args meth c cc own nL ret) {b b2 : Option Value} {t : List (Option Value)} {x : UInt64} (hd : decode cc pc = .ok (.dstore_n 0, 1)) (k : G p l e R s m args below meth c H locs cells slots Q (some (.double x) :: none :: t) (pc + 1) st) : G p l e R s m args below meth c H locs cells slots Q (b :: b2 :: t) pc (.double x :: st) := by
  intro ls h
  refine lv_dstore_n (i := 0) C.1 C.2.1 hd rfl h (by simp only [List.length_cons]; omega) rfl (fun ls2 h2 => k ls2 (G.sto (by simp only [List.length_cons]) ?_ h2))
  intro j w hw
  match j, hw with
  | 0, hw => exact Or.inl ⟨rfl, (Option.some.inj (Option.some.inj hw)).symm⟩
  | 1, hw => exact absurd hw (by simp)
  | j + 2, hw => exact Or.inr ⟨hw, by first | (simp; done) | (simp; omega)⟩
theorem g_dstore1 (C : CX p s m args meth c cc own nL ret) {a0 b b2 : Option Value} {t : List (Option Value)} {x : UInt64} (hc : c1 a0 = true) (hd : decode cc pc = .ok (.dstore_n 1, 1)) (k : G p l e R s m args below meth c H locs cells slots Q (a0 :: some (.double x) :: none :: t) (pc + 1) st) : G p l e R s m args below meth c H locs cells slots Q (a0 :: b :: b2 :: t) pc (.double x :: st) := by
  intro ls h
  refine lv_dstore_n (i := 1) C.1 C.2.1 hd rfl h (by simp only [List.length_cons]; omega) rfl (fun ls2 h2 => k ls2 (G.sto (by simp only [List.length_cons]) ?_ h2))
  intro j w hw
  match j, hw with
  | 0, hw =>
    have hw2 : a0 = some w := Option.some.inj hw
    subst hw2
    have hc2 : w.category = 1 := by simpa [c1] using hc
    exact Or.inr ⟨hw, by simp [hc2]⟩
  | 1, hw => exact Or.inl ⟨rfl, (Option.some.inj (Option.some.inj hw)).symm⟩
  | 2, hw => exact absurd hw (by simp)
  | j + 3, hw => exact Or.inr ⟨hw, by first | (simp; done) | (simp; omega)⟩
theorem g_dstore2 (C : CX p s m args meth c cc own nL ret) {a0 a1 b b2 : Option Value} {t : List (Option Value)} {x : UInt64} (hc : c1 a1 = true) (hd : decode cc pc = .ok (.dstore_n 2, 1)) (k : G p l e R s m args below meth c H locs cells slots Q (a0 :: a1 :: some (.double x) :: none :: t) (pc + 1) st) : G p l e R s m args below meth c H locs cells slots Q (a0 :: a1 :: b :: b2 :: t) pc (.double x :: st) := by
  intro ls h
  refine lv_dstore_n (i := 2) C.1 C.2.1 hd rfl h (by simp only [List.length_cons]; omega) rfl (fun ls2 h2 => k ls2 (G.sto (by simp only [List.length_cons]) ?_ h2))
  intro j w hw
  match j, hw with
  | 0, hw => exact Or.inr ⟨hw, by simp⟩
  | 1, hw =>
    have hw2 : a1 = some w := Option.some.inj hw
    subst hw2
    have hc2 : w.category = 1 := by simpa [c1] using hc
    exact Or.inr ⟨hw, by simp [hc2]⟩
  | 2, hw => exact Or.inl ⟨rfl, (Option.some.inj (Option.some.inj hw)).symm⟩
  | 3, hw => exact absurd hw (by simp)
  | j + 4, hw => exact Or.inr ⟨hw, by first | (simp; done) | (simp; omega)⟩
theorem g_dstore3 (C : CX p s m args meth c cc own nL ret) {a0 a1 a2 b b2 : Option Value} {t : List (Option Value)} {x : UInt64} (hc : c1 a2 = true) (hd : decode cc pc = .ok (.dstore_n 3, 1)) (k : G p l e R s m args below meth c H locs cells slots Q (a0 :: a1 :: a2 :: some (.double x) :: none :: t) (pc + 1) st) : G p l e R s m args below meth c H locs cells slots Q (a0 :: a1 :: a2 :: b :: b2 :: t) pc (.double x :: st) := by
  intro ls h
  refine lv_dstore_n (i := 3) C.1 C.2.1 hd rfl h (by simp only [List.length_cons]; omega) rfl (fun ls2 h2 => k ls2 (G.sto (by simp only [List.length_cons]) ?_ h2))
  intro j w hw
  match j, hw with
  | 0, hw => exact Or.inr ⟨hw, by simp⟩
  | 1, hw => exact Or.inr ⟨hw, by simp⟩
  | 2, hw =>
    have hw2 : a2 = some w := Option.some.inj hw
    subst hw2
    have hc2 : w.category = 1 := by simpa [c1] using hc
    exact Or.inr ⟨hw, by simp [hc2]⟩
  | 3, hw => exact Or.inl ⟨rfl, (Option.some.inj (Option.some.inj hw)).symm⟩
  | 4, hw => exact absurd hw (by simp)
  | j + 5, hw => exact Or.inr ⟨hw, by first | (simp; done) | (simp; omega)⟩
theorem g_dstore4 (C : CX p s m args meth c cc own nL ret) {a0 a1 a2 a3 b b2 : Option Value} {t : List (Option Value)} {x : UInt64} (hc : c1 a3 = true) (hd : decode cc pc = .ok (.dstore 4, 2)) (k : G p l e R s m args below meth c H locs cells slots Q (a0 :: a1 :: a2 :: a3 :: some (.double x) :: none :: t) (pc + 2) st) : G p l e R s m args below meth c H locs cells slots Q (a0 :: a1 :: a2 :: a3 :: b :: b2 :: t) pc (.double x :: st) := by
  intro ls h
  refine lv_dstore C.1 C.2.1 hd h (by simp only [List.length_cons]; omega) rfl (fun ls2 h2 => k ls2 (G.sto (by simp only [List.length_cons]) ?_ h2))
  intro j w hw
  match j, hw with
  | 0, hw => exact Or.inr ⟨hw, by simp⟩
  | 1, hw => exact Or.inr ⟨hw, by simp⟩
  | 2, hw => exact Or.inr ⟨hw, by simp⟩
  | 3, hw =>
    have hw2 : a3 = some w := Option.some.inj hw
    subst hw2
    have hc2 : w.category = 1 := by simpa [c1] using hc
    exact Or.inr ⟨hw, by simp [hc2]⟩
  | 4, hw => exact Or.inl ⟨rfl, (Option.some.inj (Option.some.inj hw)).symm⟩
  | 5, hw => exact absurd hw (by simp)
  | j + 6, hw => exact Or.inr ⟨hw, by first | (simp; done) | (simp; omega)⟩
theorem g_dstore5 (C : CX p s m args meth c cc own nL ret) {a0 a1 a2 a3 a4 b b2 : Option Value} {t : List (Option Value)} {x : UInt64} (hc : c1 a4 = true) (hd : decode cc pc = .ok (.dstore 5, 2)) (k : G p l e R s m args below meth c H locs cells slots Q (a0 :: a1 :: a2 :: a3 :: a4 :: some (.double x) :: none :: t) (pc + 2) st) : G p l e R s m args below meth c H locs cells slots Q (a0 :: a1 :: a2 :: a3 :: a4 :: b :: b2 :: t) pc (.double x :: st) := by
  intro ls h
  refine lv_dstore C.1 C.2.1 hd h (by simp only [List.length_cons]; omega) rfl (fun ls2 h2 => k ls2 (G.sto (by simp only [List.length_cons]) ?_ h2))
  intro j w hw
  match j, hw with
  | 0, hw => exact Or.inr ⟨hw, by simp⟩
  | 1, hw => exact Or.inr ⟨hw, by simp⟩
  | 2, hw => exact Or.inr ⟨hw, by simp⟩
  | 3, hw => exact Or.inr ⟨hw, by simp⟩
  | 4, hw =>
    have hw2 : a4 = some w := Option.some.inj hw
    subst hw2
    have hc2 : w.category = 1 := by simpa [c1] using hc
    exact Or.inr ⟨hw, by simp [hc2]⟩
  | 5, hw => exact Or.inl ⟨rfl, (Option.some.inj (Option.some.inj hw)).symm⟩
  | 6, hw => exact absurd hw (by simp)
  | j + 7, hw => exact Or.inr ⟨hw, by first | (simp; done) | (simp; omega)⟩
theorem g_dstore6 (C : CX p s m args meth c cc own nL ret) {a0 a1 a2 a3 a4 a5 b b2 : Option Value} {t : List (Option Value)} {x : UInt64} (hc : c1 a5 = true) (hd : decode cc pc = .ok (.dstore 6, 2)) (k : G p l e R s m args below meth c H locs cells slots Q (a0 :: a1 :: a2 :: a3 :: a4 :: a5 :: some (.double x) :: none :: t) (pc + 2) st) : G p l e R s m args below meth c H locs cells slots Q (a0 :: a1 :: a2 :: a3 :: a4 :: a5 :: b :: b2 :: t) pc (.double x :: st) := by
  intro ls h
  refine lv_dstore C.1 C.2.1 hd h (by simp only [List.length_cons]; omega) rfl (fun ls2 h2 => k ls2 (G.sto (by simp only [List.length_cons]) ?_ h2))
  intro j w hw
  match j, hw with
  | 0, hw => exact Or.inr ⟨hw, by simp⟩
  | 1, hw => exact Or.inr ⟨hw, by simp⟩
  | 2, hw => exact Or.inr ⟨hw, by simp⟩
  | 3, hw => exact Or.inr ⟨hw, by simp⟩
  | 4, hw => exact Or.inr ⟨hw, by simp⟩
  | 5, hw =>
    have hw2 : a5 = some w := Option.some.inj hw
    subst hw2
    have hc2 : w.category = 1 := by simpa [c1] using hc
    exact Or.inr ⟨hw, by simp [hc2]⟩
  | 6, hw => exact Or.inl ⟨rfl, (Option.some.inj (Option.some.inj hw)).symm⟩
  | 7, hw => exact absurd hw (by simp)
  | j + 8, hw => exact Or.inr ⟨hw, by first | (simp; done) | (simp; omega)⟩
theorem g_dstore7 (C : CX p s m args meth c cc own nL ret) {a0 a1 a2 a3 a4 a5 a6 b b2 : Option Value} {t : List (Option Value)} {x : UInt64} (hc : c1 a6 = true) (hd : decode cc pc = .ok (.dstore 7, 2)) (k : G p l e R s m args below meth c H locs cells slots Q (a0 :: a1 :: a2 :: a3 :: a4 :: a5 :: a6 :: some (.double x) :: none :: t) (pc + 2) st) : G p l e R s m args below meth c H locs cells slots Q (a0 :: a1 :: a2 :: a3 :: a4 :: a5 :: a6 :: b :: b2 :: t) pc (.double x :: st) := by
  intro ls h
  refine lv_dstore C.1 C.2.1 hd h (by simp only [List.length_cons]; omega) rfl (fun ls2 h2 => k ls2 (G.sto (by simp only [List.length_cons]) ?_ h2))
  intro j w hw
  match j, hw with
  | 0, hw => exact Or.inr ⟨hw, by simp⟩
  | 1, hw => exact Or.inr ⟨hw, by simp⟩
  | 2, hw => exact Or.inr ⟨hw, by simp⟩
  | 3, hw => exact Or.inr ⟨hw, by simp⟩
  | 4, hw => exact Or.inr ⟨hw, by simp⟩
  | 5, hw => exact Or.inr ⟨hw, by simp⟩
  | 6, hw =>
    have hw2 : a6 = some w := Option.some.inj hw
    subst hw2
    have hc2 : w.category = 1 := by simpa [c1] using hc
    exact Or.inr ⟨hw, by simp [hc2]⟩
  | 7, hw => exact Or.inl ⟨rfl, (Option.some.inj (Option.some.inj hw)).symm⟩
  | 8, hw => exact absurd hw (by simp)
  | j + 9, hw => exact Or.inr ⟨hw, by first | (simp; done) | (simp; omega)⟩
theorem g_dstore8 (C : CX p s m args meth c cc own nL ret) {a0 a1 a2 a3 a4 a5 a6 a7 b b2 : Option Value} {t : List (Option Value)} {x : UInt64} (hc : c1 a7 = true) (hd : decode cc pc = .ok (.dstore 8, 2)) (k : G p l e R s m args below meth c H locs cells slots Q (a0 :: a1 :: a2 :: a3 :: a4 :: a5 :: a6 :: a7 :: some (.double x) :: none :: t) (pc + 2) st) : G p l e R s m args below meth c H locs cells slots Q (a0 :: a1 :: a2 :: a3 :: a4 :: a5 :: a6 :: a7 :: b :: b2 :: t) pc (.double x :: st) := by
  intro ls h
  refine lv_dstore C.1 C.2.1 hd h (by simp only [List.length_cons]; omega) rfl (fun ls2 h2 => k ls2 (G.sto (by simp only [List.length_cons]) ?_ h2))
  intro j w hw
  match j, hw with
  | 0, hw => exact Or.inr ⟨hw, by simp⟩
  | 1, hw => exact Or.inr ⟨hw, by simp⟩
  | 2, hw => exact Or.inr ⟨hw, by simp⟩
  | 3, hw => exact Or.inr ⟨hw, by simp⟩
  | 4, hw => exact Or.inr ⟨hw, by simp⟩
  | 5, hw => exact Or.inr ⟨hw, by simp⟩
  | 6, hw => exact Or.inr ⟨hw, by simp⟩
  | 7, hw =>
    have hw2 : a7 = some w := Option.some.inj hw
    subst hw2
    have hc2 : w.category = 1 := by simpa [c1] using hc
    exact Or.inr ⟨hw, by simp [hc2]⟩
  | 8, hw => exact Or.inl ⟨rfl, (Option.some.inj (Option.some.inj hw)).symm⟩
  | 9, hw => exact absurd hw (by simp)
  | j + 10, hw => exact Or.inr ⟨hw, by first | (simp; done) | (simp; omega)⟩
theorem g_iinc0 (C : CX p s m args meth c cc own nL ret) {t : List (Option Value)} {n : Int} {x : Int32} (v : Int32) (hd : decode cc pc = .ok (.iinc 0 n, 3)) (hv : x + Int32.ofInt n = v) (k : G p l e R s m args below meth c H locs cells slots Q (some (.int v) :: t) (pc + 3) st) : G p l e R s m args below meth c H locs cells slots Q (some (.int x) :: t) pc st := by
  intro ls h
  obtain ⟨k0, hk0⟩ : ∃ k0 : Nat, (en 0 (some (.int x) :: t))[k0]? = some (0, .int x) := List.mem_iff_getElem?.mp (en_mem.mpr ⟨0, rfl, rfl⟩)
  refine lv_iinc (k := k0) (v := v) C.1 C.2.1 hd h hk0 hv (by simp only [List.length_cons]; omega) rfl (fun ls2 h2 => k ls2 (G.sto (by simp only [List.length_cons]) ?_ h2))
  intro j w hw
  match j, hw with
  | 0, hw => exact Or.inl ⟨rfl, (Option.some.inj (Option.some.inj hw)).symm⟩
  | j + 1, hw => exact Or.inr ⟨hw, by first | (simp; done) | (simp; omega)⟩
theorem g_iinc1 (C : CX p s m args meth c cc own nL ret) {a0 : Option Value} {t : List (Option Value)} {n : Int} {x : Int32} (v : Int32) (hc : c1 a0 = true) (hd : decode cc pc = .ok (.iinc 1 n, 3)) (hv : x + Int32.ofInt n = v) (k : G p l e R s m args below meth c H locs cells slots Q (a0 :: some (.int v) :: t) (pc + 3) st) : G p l e R s m args below meth c H locs cells slots Q (a0 :: some (.int x) :: t) pc st := by
  intro ls h
  obtain ⟨k0, hk0⟩ : ∃ k0 : Nat, (en 0 (a0 :: some (.int x) :: t))[k0]? = some (1, .int x) := List.mem_iff_getElem?.mp (en_mem.mpr ⟨1, rfl, rfl⟩)
  refine lv_iinc (k := k0) (v := v) C.1 C.2.1 hd h hk0 hv (by simp only [List.length_cons]; omega) rfl (fun ls2 h2 => k ls2 (G.sto (by simp only [List.length_cons]) ?_ h2))
  intro j w hw
  match j, hw with
  | 0, hw =>
    have hw2 : a0 = some w := Option.some.inj hw
    subst hw2
    have hc2 : w.category = 1 := by simpa [c1] using hc
    exact Or.inr ⟨hw, by simp [hc2]⟩
  | 1, hw => exact Or.inl ⟨rfl, (Option.some.inj (Option.some.inj hw)).symm⟩
  | j + 2, hw => exact Or.inr ⟨hw, by first | (simp; done) | (simp; omega)⟩
theorem g_iinc2 (C : CX p s m args meth c cc own nL ret) {a0 a1 : Option Value} {t : List (Option Value)} {n : Int} {x : Int32} (v : Int32) (hc : c1 a1 = true) (hd : decode cc pc = .ok (.iinc 2 n, 3)) (hv : x + Int32.ofInt n = v) (k : G p l e R s m args below meth c H locs cells slots Q (a0 :: a1 :: some (.int v) :: t) (pc + 3) st) : G p l e R s m args below meth c H locs cells slots Q (a0 :: a1 :: some (.int x) :: t) pc st := by
  intro ls h
  obtain ⟨k0, hk0⟩ : ∃ k0 : Nat, (en 0 (a0 :: a1 :: some (.int x) :: t))[k0]? = some (2, .int x) := List.mem_iff_getElem?.mp (en_mem.mpr ⟨2, rfl, rfl⟩)
  refine lv_iinc (k := k0) (v := v) C.1 C.2.1 hd h hk0 hv (by simp only [List.length_cons]; omega) rfl (fun ls2 h2 => k ls2 (G.sto (by simp only [List.length_cons]) ?_ h2))
  intro j w hw
  match j, hw with
  | 0, hw => exact Or.inr ⟨hw, by simp⟩
  | 1, hw =>
    have hw2 : a1 = some w := Option.some.inj hw
    subst hw2
    have hc2 : w.category = 1 := by simpa [c1] using hc
    exact Or.inr ⟨hw, by simp [hc2]⟩
  | 2, hw => exact Or.inl ⟨rfl, (Option.some.inj (Option.some.inj hw)).symm⟩
  | j + 3, hw => exact Or.inr ⟨hw, by first | (simp; done) | (simp; omega)⟩
theorem g_iinc3 (C : CX p s m args meth c cc own nL ret) {a0 a1 a2 : Option Value} {t : List (Option Value)} {n : Int} {x : Int32} (v : Int32) (hc : c1 a2 = true) (hd : decode cc pc = .ok (.iinc 3 n, 3)) (hv : x + Int32.ofInt n = v) (k : G p l e R s m args below meth c H locs cells slots Q (a0 :: a1 :: a2 :: some (.int v) :: t) (pc + 3) st) : G p l e R s m args below meth c H locs cells slots Q (a0 :: a1 :: a2 :: some (.int x) :: t) pc st := by
  intro ls h
  obtain ⟨k0, hk0⟩ : ∃ k0 : Nat, (en 0 (a0 :: a1 :: a2 :: some (.int x) :: t))[k0]? = some (3, .int x) := List.mem_iff_getElem?.mp (en_mem.mpr ⟨3, rfl, rfl⟩)
  refine lv_iinc (k := k0) (v := v) C.1 C.2.1 hd h hk0 hv (by simp only [List.length_cons]; omega) rfl (fun ls2 h2 => k ls2 (G.sto (by simp only [List.length_cons]) ?_ h2))
  intro j w hw
  match j, hw with
  | 0, hw => exact Or.inr ⟨hw, by simp⟩
  | 1, hw => exact Or.inr ⟨hw, by simp⟩
  | 2, hw =>
    have hw2 : a2 = some w := Option.some.inj hw
    subst hw2
    have hc2 : w.category = 1 := by simpa [c1] using hc
    exact Or.inr ⟨hw, by simp [hc2]⟩
  | 3, hw => exact Or.inl ⟨rfl, (Option.some.inj (Option.some.inj hw)).symm⟩
  | j + 4, hw => exact Or.inr ⟨hw, by first | (simp; done) | (simp; omega)⟩
theorem g_iinc4 (C : CX p s m args meth c cc own nL ret) {a0 a1 a2 a3 : Option Value} {t : List (Option Value)} {n : Int} {x : Int32} (v : Int32) (hc : c1 a3 = true) (hd : decode cc pc = .ok (.iinc 4 n, 3)) (hv : x + Int32.ofInt n = v) (k : G p l e R s m args below meth c H locs cells slots Q (a0 :: a1 :: a2 :: a3 :: some (.int v) :: t) (pc + 3) st) : G p l e R s m args below meth c H locs cells slots Q (a0 :: a1 :: a2 :: a3 :: some (.int x) :: t) pc st := by
  intro ls h
  obtain ⟨k0, hk0⟩ : ∃ k0 : Nat, (en 0 (a0 :: a1 :: a2 :: a3 :: some (.int x) :: t))[k0]? = some (4, .int x) := List.mem_iff_getElem?.mp (en_mem.mpr ⟨4, rfl, rfl⟩)
  refine lv_iinc (k := k0) (v := v) C.1 C.2.1 hd h hk0 hv (by simp only [List.length_cons]; omega) rfl (fun ls2 h2 => k ls2 (G.sto (by simp only [List.length_cons]) ?_ h2))
  intro j w hw
  match j, hw with
  | 0, hw => exact Or.inr ⟨hw, by simp⟩
  | 1, hw => exact Or.inr ⟨hw, by simp⟩
  | 2, hw => exact Or.inr ⟨hw, by simp⟩
  | 3, hw =>
    have hw2 : a3 = some w := Option.some.inj hw
    subst hw2
    have hc2 : w.category = 1 := by simpa [c1] using hc
    exact Or.inr ⟨hw, by simp [hc2]⟩
  | 4, hw => exact Or.inl ⟨rfl, (Option.some.inj (Option.some.inj hw)).symm⟩
  | j + 5, hw => exact Or.inr ⟨hw, by first | (simp; done) | (simp; omega)⟩
theorem g_iinc5 (C : CX p s m args meth c cc own nL ret) {a0 a1 a2 a3 a4 : Option Value} {t : List (Option Value)} {n : Int} {x : Int32} (v : Int32) (hc : c1 a4 = true) (hd : decode cc pc = .ok (.iinc 5 n, 3)) (hv : x + Int32.ofInt n = v) (k : G p l e R s m args below meth c H locs cells slots Q (a0 :: a1 :: a2 :: a3 :: a4 :: some (.int v) :: t) (pc + 3) st) : G p l e R s m args below meth c H locs cells slots Q (a0 :: a1 :: a2 :: a3 :: a4 :: some (.int x) :: t) pc st := by
  intro ls h
  obtain ⟨k0, hk0⟩ : ∃ k0 : Nat, (en 0 (a0 :: a1 :: a2 :: a3 :: a4 :: some (.int x) :: t))[k0]? = some (5, .int x) := List.mem_iff_getElem?.mp (en_mem.mpr ⟨5, rfl, rfl⟩)
  refine lv_iinc (k := k0) (v := v) C.1 C.2.1 hd h hk0 hv (by simp only [List.length_cons]; omega) rfl (fun ls2 h2 => k ls2 (G.sto (by simp only [List.length_cons]) ?_ h2))
  intro j w hw
  match j, hw with
  | 0, hw => exact Or.inr ⟨hw, by simp⟩
  | 1, hw => exact Or.inr ⟨hw, by simp⟩
  | 2, hw => exact Or.inr ⟨hw, by simp⟩
  | 3, hw => exact Or.inr ⟨hw, by simp⟩
  | 4, hw =>
    have hw2 : a4 = some w := Option.some.inj hw
    subst hw2
    have hc2 : w.category = 1 := by simpa [c1] using hc
    exact Or.inr ⟨hw, by simp [hc2]⟩
  | 5, hw => exact Or.inl ⟨rfl, (Option.some.inj (Option.some.inj hw)).symm⟩
  | j + 6, hw => exact Or.inr ⟨hw, by first | (simp; done) | (simp; omega)⟩
theorem g_iinc6 (C : CX p s m args meth c cc own nL ret) {a0 a1 a2 a3 a4 a5 : Option Value} {t : List (Option Value)} {n : Int} {x : Int32} (v : Int32) (hc : c1 a5 = true) (hd : decode cc pc = .ok (.iinc 6 n, 3)) (hv : x + Int32.ofInt n = v) (k : G p l e R s m args below meth c H locs cells slots Q (a0 :: a1 :: a2 :: a3 :: a4 :: a5 :: some (.int v) :: t) (pc + 3) st) : G p l e R s m args below meth c H locs cells slots Q (a0 :: a1 :: a2 :: a3 :: a4 :: a5 :: some (.int x) :: t) pc st := by
  intro ls h
  obtain ⟨k0, hk0⟩ : ∃ k0 : Nat, (en 0 (a0 :: a1 :: a2 :: a3 :: a4 :: a5 :: some (.int x) :: t))[k0]? = some (6, .int x) := List.mem_iff_getElem?.mp (en_mem.mpr ⟨6, rfl, rfl⟩)
  refine lv_iinc (k := k0) (v := v) C.1 C.2.1 hd h hk0 hv (by simp only [List.length_cons]; omega) rfl (fun ls2 h2 => k ls2 (G.sto (by simp only [List.length_cons]) ?_ h2))
  intro j w hw
  match j, hw with
  | 0, hw => exact Or.inr ⟨hw, by simp⟩
  | 1, hw => exact Or.inr ⟨hw, by simp⟩
  | 2, hw => exact Or.inr ⟨hw, by simp⟩
  | 3, hw => exact Or.inr ⟨hw, by simp⟩
  | 4, hw => exact Or.inr ⟨hw, by simp⟩
  | 5, hw =>
    have hw2 : a5 = some w := Option.some.inj hw
    subst hw2
    have hc2 : w.category = 1 := by simpa [c1] using hc
    exact Or.inr ⟨hw, by simp [hc2]⟩
  | 6, hw => exact Or.inl ⟨rfl, (Option.some.inj (Option.some.inj hw)).symm⟩
  | j + 7, hw => exact Or.inr ⟨hw, by first | (simp; done) | (simp; omega)⟩
theorem g_iinc7 (C : CX p s m args meth c cc own nL ret) {a0 a1 a2 a3 a4 a5 a6 : Option Value} {t : List (Option Value)} {n : Int} {x : Int32} (v : Int32) (hc : c1 a6 = true) (hd : decode cc pc = .ok (.iinc 7 n, 3)) (hv : x + Int32.ofInt n = v) (k : G p l e R s m args below meth c H locs cells slots Q (a0 :: a1 :: a2 :: a3 :: a4 :: a5 :: a6 :: some (.int v) :: t) (pc + 3) st) : G p l e R s m args below meth c H locs cells slots Q (a0 :: a1 :: a2 :: a3 :: a4 :: a5 :: a6 :: some (.int x) :: t) pc st := by
  intro ls h
  obtain ⟨k0, hk0⟩ : ∃ k0 : Nat, (en 0 (a0 :: a1 :: a2 :: a3 :: a4 :: a5 :: a6 :: some (.int x) :: t))[k0]? = some (7, .int x) := List.mem_iff_getElem?.mp (en_mem.mpr ⟨7, rfl, rfl⟩)
  refine lv_iinc (k := k0) (v := v) C.1 C.2.1 hd h hk0 hv (by simp only [List.length_cons]; omega) rfl (fun ls2 h2 => k ls2 (G.sto (by simp only [List.length_cons]) ?_ h2))
  intro j w hw
  match j, hw with
  | 0, hw => exact Or.inr ⟨hw, by simp⟩
  | 1, hw => exact Or.inr ⟨hw, by simp⟩
  | 2, hw => exact Or.inr ⟨hw, by simp⟩
  | 3, hw => exact Or.inr ⟨hw, by simp⟩
  | 4, hw => exact Or.inr ⟨hw, by simp⟩
  | 5, hw => exact Or.inr ⟨hw, by simp⟩
  | 6, hw =>
    have hw2 : a6 = some w := Option.some.inj hw
    subst hw2
    have hc2 : w.category = 1 := by simpa [c1] using hc
    exact Or.inr ⟨hw, by simp [hc2]⟩
  | 7, hw => exact Or.inl ⟨rfl, (Option.some.inj (Option.some.inj hw)).symm⟩
  | j + 8, hw => exact Or.inr ⟨hw, by first | (simp; done) | (simp; omega)⟩
theorem g_iinc8 (C : CX p s m args meth c cc own nL ret) {a0 a1 a2 a3 a4 a5 a6 a7 : Option Value} {t : List (Option Value)} {n : Int} {x : Int32} (v : Int32) (hc : c1 a7 = true) (hd : decode cc pc = .ok (.iinc 8 n, 3)) (hv : x + Int32.ofInt n = v) (k : G p l e R s m args below meth c H locs cells slots Q (a0 :: a1 :: a2 :: a3 :: a4 :: a5 :: a6 :: a7 :: some (.int v) :: t) (pc + 3) st) : G p l e R s m args below meth c H locs cells slots Q (a0 :: a1 :: a2 :: a3 :: a4 :: a5 :: a6 :: a7 :: some (.int x) :: t) pc st := by
  intro ls h
  obtain ⟨k0, hk0⟩ : ∃ k0 : Nat, (en 0 (a0 :: a1 :: a2 :: a3 :: a4 :: a5 :: a6 :: a7 :: some (.int x) :: t))[k0]? = some (8, .int x) := List.mem_iff_getElem?.mp (en_mem.mpr ⟨8, rfl, rfl⟩)
  refine lv_iinc (k := k0) (v := v) C.1 C.2.1 hd h hk0 hv (by simp only [List.length_cons]; omega) rfl (fun ls2 h2 => k ls2 (G.sto (by simp only [List.length_cons]) ?_ h2))
  intro j w hw
  match j, hw with
  | 0, hw => exact Or.inr ⟨hw, by simp⟩
  | 1, hw => exact Or.inr ⟨hw, by simp⟩
  | 2, hw => exact Or.inr ⟨hw, by simp⟩
  | 3, hw => exact Or.inr ⟨hw, by simp⟩
  | 4, hw => exact Or.inr ⟨hw, by simp⟩
  | 5, hw => exact Or.inr ⟨hw, by simp⟩
  | 6, hw => exact Or.inr ⟨hw, by simp⟩
  | 7, hw =>
    have hw2 : a7 = some w := Option.some.inj hw
    subst hw2
    have hc2 : w.category = 1 := by simpa [c1] using hc
    exact Or.inr ⟨hw, by simp [hc2]⟩
  | 8, hw => exact Or.inl ⟨rfl, (Option.some.inj (Option.some.inj hw)).symm⟩
  | j + 9, hw => exact Or.inr ⟨hw, by first | (simp; done) | (simp; omega)⟩
theorem g_iconst (C : CX p s m args meth c cc own nL ret) {n : Int} (v : Int32) (hv : Int32.ofInt n = v) (hd : decode cc pc = .ok (.iconst n, 1)) (k : G p l e R s m args below meth c H locs cells slots Q vs (pc + 1) (.int v :: st)) : G p l e R s m args below meth c H locs cells slots Q vs pc (st) := fun ls h => lv_iconst C.1 C.2.1 hd hv (k ls h)
theorem g_bipush (C : CX p s m args meth c cc own nL ret) {n : Int} (v : Int32) (hv : (Int8.ofInt n).toInt32 = v) (hd : decode cc pc = .ok (.bipush n, 2)) (k : G p l e R s m args below meth c H locs cells slots Q vs (pc + 2) (.int v :: st)) : G p l e R s m args below meth c H locs cells slots Q vs pc (st) := fun ls h => lv_bipush C.1 C.2.1 hd hv (k ls h)
theorem g_sipush (C : CX p s m args meth c cc own nL ret) {n : Int} (v : Int32) (hv : (Int16.ofInt n).toInt32 = v) (hd : decode cc pc = .ok (.sipush n, 3)) (k : G p l e R s m args below meth c H locs cells slots Q vs (pc + 3) (.int v :: st)) : G p l e R s m args below meth c H locs cells slots Q vs pc (st) := fun ls h => lv_sipush C.1 C.2.1 hd hv (k ls h)
theorem g_iadd (C : CX p s m args meth c cc own nL ret) {x y : Int32} (hd : decode cc pc = .ok (.iadd, 1)) (k : G p l e R s m args below meth c H locs cells slots Q vs (pc + 1) (.int (x + y) :: st)) : G p l e R s m args below meth c H locs cells slots Q vs pc (.int y :: .int x :: st) := fun ls h => lv_iadd C.1 C.2.1 hd (k ls h)
theorem g_isub (C : CX p s m args meth c cc own nL ret) {x y : Int32} (hd : decode cc pc = .ok (.isub, 1)) (k : G p l e R s m args below meth c H locs cells slots Q vs (pc + 1) (.int (x - y) :: st)) : G p l e R s m args below meth c H locs cells slots Q vs pc (.int y :: .int x :: st) := fun ls h => lv_isub C.1 C.2.1 hd (k ls h)
theorem g_imul (C : CX p s m args meth c cc own nL ret) {x y : Int32} (hd : decode cc pc = .ok (.imul, 1)) (k : G p l e R s m args below meth c H locs cells slots Q vs (pc + 1) (.int (x * y) :: st)) : G p l e R s m args below meth c H locs cells slots Q vs pc (.int y :: .int x :: st) := fun ls h => lv_imul C.1 C.2.1 hd (k ls h)
theorem g_iand (C : CX p s m args meth c cc own nL ret) {x y : Int32} (hd : decode cc pc = .ok (.iand, 1)) (k : G p l e R s m args below meth c H locs cells slots Q vs (pc + 1) (.int (x &&& y) :: st)) : G p l e R s m args below meth c H locs cells slots Q vs pc (.int y :: .int x :: st) := fun ls h => lv_iand C.1 C.2.1 hd (k ls h)
theorem g_iaddN (C : CX p s m args meth c cc own nL ret) {a b : Nat} (hd : decode cc pc = .ok (.iadd, 1)) (k : G p l e R s m args below meth c H locs cells slots Q vs (pc + 1) (.int (nI (a + b)) :: st)) : G p l e R s m args below meth c H locs cells slots Q vs pc (.int (nI b) :: .int (nI a) :: st) := fun ls h => lv_iadd C.1 C.2.1 hd (by rw [nI_add]; exact k ls h)
theorem g_imulN (C : CX p s m args meth c cc own nL ret) {a b : Nat} (hd : decode cc pc = .ok (.imul, 1)) (k : G p l e R s m args below meth c H locs cells slots Q vs (pc + 1) (.int (nI (a * b)) :: st)) : G p l e R s m args below meth c H locs cells slots Q vs pc (.int (nI b) :: .int (nI a) :: st) := fun ls h => lv_imul C.1 C.2.1 hd (by rw [pk_mul]; exact k ls h)
theorem g_isubN (C : CX p s m args meth c cc own nL ret) {a b : Nat} (hab : b ≤ a) (hd : decode cc pc = .ok (.isub, 1)) (k : G p l e R s m args below meth c H locs cells slots Q vs (pc + 1) (.int (nI (a - b)) :: st)) : G p l e R s m args below meth c H locs cells slots Q vs pc (.int (nI b) :: .int (nI a) :: st) := fun ls h => lv_isub C.1 C.2.1 hd (by rw [pk_sub hab]; exact k ls h)
theorem g_idivN (C : CX p s m args meth c cc own nL ret) {a b : Nat} (h0 : 0 < b) (ha : a < 2147483648) (hb : b < 2147483648) (hd : decode cc pc = .ok (.idiv, 1)) (k : G p l e R s m args below meth c H locs cells slots Q vs (pc + 1) (.int (nI (a / b)) :: st)) : G p l e R s m args below meth c H locs cells slots Q vs pc (.int (nI b) :: .int (nI a) :: st) := fun ls h => lv_idiv C.1 C.2.1 hd (nI_ne0 h0 hb) (by rw [pk_div ha h0 hb]; exact k ls h)
theorem g_ladd (C : CX p s m args meth c cc own nL ret) {x y : Int64} (hd : decode cc pc = .ok (.ladd, 1)) (k : G p l e R s m args below meth c H locs cells slots Q vs (pc + 1) (.long (x + y) :: st)) : G p l e R s m args below meth c H locs cells slots Q vs pc (.long y :: .long x :: st) := fun ls h => lv_ladd C.1 C.2.1 hd (k ls h)
theorem g_lsub (C : CX p s m args meth c cc own nL ret) {x y : Int64} (hd : decode cc pc = .ok (.lsub, 1)) (k : G p l e R s m args below meth c H locs cells slots Q vs (pc + 1) (.long (x - y) :: st)) : G p l e R s m args below meth c H locs cells slots Q vs pc (.long y :: .long x :: st) := fun ls h => lv_lsub C.1 C.2.1 hd (k ls h)
theorem g_lmul (C : CX p s m args meth c cc own nL ret) {x y : Int64} (hd : decode cc pc = .ok (.lmul, 1)) (k : G p l e R s m args below meth c H locs cells slots Q vs (pc + 1) (.long (x * y) :: st)) : G p l e R s m args below meth c H locs cells slots Q vs pc (.long y :: .long x :: st) := fun ls h => lv_lmul C.1 C.2.1 hd (k ls h)
theorem g_land (C : CX p s m args meth c cc own nL ret) {x y : Int64} (hd : decode cc pc = .ok (.land, 1)) (k : G p l e R s m args below meth c H locs cells slots Q vs (pc + 1) (.long (x &&& y) :: st)) : G p l e R s m args below meth c H locs cells slots Q vs pc (.long y :: .long x :: st) := fun ls h => lv_land C.1 C.2.1 hd (k ls h)
theorem g_lor (C : CX p s m args meth c cc own nL ret) {x y : Int64} (hd : decode cc pc = .ok (.lor, 1)) (k : G p l e R s m args below meth c H locs cells slots Q vs (pc + 1) (.long (x ||| y) :: st)) : G p l e R s m args below meth c H locs cells slots Q vs pc (.long y :: .long x :: st) := fun ls h => lv_lor C.1 C.2.1 hd (k ls h)
theorem g_lxor (C : CX p s m args meth c cc own nL ret) {x y : Int64} (hd : decode cc pc = .ok (.lxor, 1)) (k : G p l e R s m args below meth c H locs cells slots Q vs (pc + 1) (.long (x ^^^ y) :: st)) : G p l e R s m args below meth c H locs cells slots Q vs pc (.long y :: .long x :: st) := fun ls h => lv_lxor C.1 C.2.1 hd (k ls h)
theorem g_i2l (C : CX p s m args meth c cc own nL ret) {x : Int32} (v : Int64) (hv : x.toInt64 = v) (hd : decode cc pc = .ok (.i2l, 1)) (k : G p l e R s m args below meth c H locs cells slots Q vs (pc + 1) (.long v :: st)) : G p l e R s m args below meth c H locs cells slots Q vs pc (.int x :: st) := fun ls h => lv_i2l C.1 C.2.1 hd hv (k ls h)
theorem g_lconst (C : CX p s m args meth c cc own nL ret) {n : Fin 2} (v : Int64) (hv : Int64.ofNat (n : Nat) = v) (hd : decode cc pc = .ok (.lconst n, 1)) (k : G p l e R s m args below meth c H locs cells slots Q vs (pc + 1) (.long v :: st)) : G p l e R s m args below meth c H locs cells slots Q vs pc (st) := fun ls h => lv_lconst C.1 C.2.1 hd hv (k ls h)
theorem g_lushr (C : CX p s m args meth c cc own nL ret) {x : Int64} {y : Int32}  (v : Int64) (hv : (x.toUInt64 >>> (y.toInt64.toUInt64 &&& Int64.toUInt64 63)).toInt64 = v) (hd : decode cc pc = .ok (.lushr, 1)) (k : G p l e R s m args below meth c H locs cells slots Q vs (pc + 1) (.long v :: st)) : G p l e R s m args below meth c H locs cells slots Q vs pc (.int y :: .long x :: st) := fun ls h => lv_lushr C.1 C.2.1 hd hv (k ls h)
theorem g_dup (C : CX p s m args meth c cc own nL ret) {v : Value} (hva : v.category = 1) (hd : decode cc pc = .ok (.dup, 1)) (k : G p l e R s m args below meth c H locs cells slots Q vs (pc + 1) (v :: v :: st)) : G p l e R s m args below meth c H locs cells slots Q vs pc (v :: st) := fun ls h => lv_dup C.1 C.2.1 hd hva (k ls h)
theorem g_dup2 (C : CX p s m args meth c cc own nL ret) {v w : Value} (hva : v.category = 1) (hvb : w.category = 1) (hd : decode cc pc = .ok (.dup2, 1)) (k : G p l e R s m args below meth c H locs cells slots Q vs (pc + 1) (v :: w :: v :: w :: st)) : G p l e R s m args below meth c H locs cells slots Q vs pc (v :: w :: st) := fun ls h => lv_dup2_11 C.1 C.2.1 hd hva hvb (k ls h)
theorem g_pop (C : CX p s m args meth c cc own nL ret) {v : Value} (hva : v.category = 1) (hd : decode cc pc = .ok (.pop, 1)) (k : G p l e R s m args below meth c H locs cells slots Q vs (pc + 1) (st)) : G p l e R s m args below meth c H locs cells slots Q vs pc (v :: st) := fun ls h => lv_pop C.1 C.2.1 hd hva (k ls h)
theorem g_goto (C : CX p s m args meth c cc own nL ret) {off : Int} (tgt : Nat) (hd : decode cc pc = .ok (.goto off, 3)) (ht : (pc : Int) + off = (tgt : Int)) (k : G p l e R s m args below meth c H locs cells slots Q vs tgt st) : G p l e R s m args below meth c H locs cells slots Q vs pc st := fun ls h => lv_goto C.1 C.2.1 hd ht (k ls h)
theorem g_icmp_eq (C : CX p s m args meth c cc own nL ret) {x y : Int32} {off : Int} (tgt : Nat) (hd : decode cc pc = .ok (.if_icmp .eq off, 3)) (ht : (pc : Int) + off = (tgt : Int)) (kt : x = y → G p l e R s m args below meth c H locs cells slots Q vs tgt st) (kf : ¬ x = y → G p l e R s m args below meth c H locs cells slots Q vs (pc + 3) st) : G p l e R s m args below meth c H locs cells slots Q vs pc (.int y :: .int x :: st) := fun ls h => lv_icmp_eq C.1 C.2.1 hd ht (fun q => kt q ls h) (fun q => kf q ls h)
theorem g_if_eq (C : CX p s m args meth c cc own nL ret) {x : Int32} {off : Int} (tgt : Nat) (hd : decode cc pc = .ok (.ifCond .eq off, 3)) (ht : (pc : Int) + off = (tgt : Int)) (kt : x = 0 → G p l e R s m args below meth c H locs cells slots Q vs tgt st) (kf : ¬ x = 0 → G p l e R s m args below meth c H locs cells slots Q vs (pc + 3) st) : G p l e R s m args below meth c H locs cells slots Q vs pc (.int x :: st) := fun ls h => lv_if_eq C.1 C.2.1 hd ht (fun q => kt q ls h) (fun q => kf q ls h)
theorem g_icmp_ne (C : CX p s m args meth c cc own nL ret) {x y : Int32} {off : Int} (tgt : Nat) (hd : decode cc pc = .ok (.if_icmp .ne off, 3)) (ht : (pc : Int) + off = (tgt : Int)) (kt : ¬ x = y → G p l e R s m args below meth c H locs cells slots Q vs tgt st) (kf : x = y → G p l e R s m args below meth c H locs cells slots Q vs (pc + 3) st) : G p l e R s m args below meth c H locs cells slots Q vs pc (.int y :: .int x :: st) := fun ls h => lv_icmp_ne C.1 C.2.1 hd ht (fun q => kt q ls h) (fun q => kf q ls h)
theorem g_if_ne (C : CX p s m args meth c cc own nL ret) {x : Int32} {off : Int} (tgt : Nat) (hd : decode cc pc = .ok (.ifCond .ne off, 3)) (ht : (pc : Int) + off = (tgt : Int)) (kt : ¬ x = 0 → G p l e R s m args below meth c H locs cells slots Q vs tgt st) (kf : x = 0 → G p l e R s m args below meth c H locs cells slots Q vs (pc + 3) st) : G p l e R s m args below meth c H locs cells slots Q vs pc (.int x :: st) := fun ls h => lv_if_ne C.1 C.2.1 hd ht (fun q => kt q ls h) (fun q => kf q ls h)
theorem g_icmp_lt (C : CX p s m args meth c cc own nL ret) {x y : Int32} {off : Int} (tgt : Nat) (hd : decode cc pc = .ok (.if_icmp .lt off, 3)) (ht : (pc : Int) + off = (tgt : Int)) (kt : x < y → G p l e R s m args below meth c H locs cells slots Q vs tgt st) (kf : ¬ x < y → G p l e R s m args below meth c H locs cells slots Q vs (pc + 3) st) : G p l e R s m args below meth c H locs cells slots Q vs pc (.int y :: .int x :: st) := fun ls h => lv_icmp_lt C.1 C.2.1 hd ht (fun q => kt q ls h) (fun q => kf q ls h)
theorem g_if_lt (C : CX p s m args meth c cc own nL ret) {x : Int32} {off : Int} (tgt : Nat) (hd : decode cc pc = .ok (.ifCond .lt off, 3)) (ht : (pc : Int) + off = (tgt : Int)) (kt : x < 0 → G p l e R s m args below meth c H locs cells slots Q vs tgt st) (kf : ¬ x < 0 → G p l e R s m args below meth c H locs cells slots Q vs (pc + 3) st) : G p l e R s m args below meth c H locs cells slots Q vs pc (.int x :: st) := fun ls h => lv_if_lt C.1 C.2.1 hd ht (fun q => kt q ls h) (fun q => kf q ls h)
theorem g_icmp_ge (C : CX p s m args meth c cc own nL ret) {x y : Int32} {off : Int} (tgt : Nat) (hd : decode cc pc = .ok (.if_icmp .ge off, 3)) (ht : (pc : Int) + off = (tgt : Int)) (kt : y ≤ x → G p l e R s m args below meth c H locs cells slots Q vs tgt st) (kf : ¬ y ≤ x → G p l e R s m args below meth c H locs cells slots Q vs (pc + 3) st) : G p l e R s m args below meth c H locs cells slots Q vs pc (.int y :: .int x :: st) := fun ls h => lv_icmp_ge C.1 C.2.1 hd ht (fun q => kt q ls h) (fun q => kf q ls h)
theorem g_if_ge (C : CX p s m args meth c cc own nL ret) {x : Int32} {off : Int} (tgt : Nat) (hd : decode cc pc = .ok (.ifCond .ge off, 3)) (ht : (pc : Int) + off = (tgt : Int)) (kt : 0 ≤ x → G p l e R s m args below meth c H locs cells slots Q vs tgt st) (kf : ¬ 0 ≤ x → G p l e R s m args below meth c H locs cells slots Q vs (pc + 3) st) : G p l e R s m args below meth c H locs cells slots Q vs pc (.int x :: st) := fun ls h => lv_if_ge C.1 C.2.1 hd ht (fun q => kt q ls h) (fun q => kf q ls h)
theorem g_icmp_gt (C : CX p s m args meth c cc own nL ret) {x y : Int32} {off : Int} (tgt : Nat) (hd : decode cc pc = .ok (.if_icmp .gt off, 3)) (ht : (pc : Int) + off = (tgt : Int)) (kt : y < x → G p l e R s m args below meth c H locs cells slots Q vs tgt st) (kf : ¬ y < x → G p l e R s m args below meth c H locs cells slots Q vs (pc + 3) st) : G p l e R s m args below meth c H locs cells slots Q vs pc (.int y :: .int x :: st) := fun ls h => lv_icmp_gt C.1 C.2.1 hd ht (fun q => kt q ls h) (fun q => kf q ls h)
theorem g_if_gt (C : CX p s m args meth c cc own nL ret) {x : Int32} {off : Int} (tgt : Nat) (hd : decode cc pc = .ok (.ifCond .gt off, 3)) (ht : (pc : Int) + off = (tgt : Int)) (kt : 0 < x → G p l e R s m args below meth c H locs cells slots Q vs tgt st) (kf : ¬ 0 < x → G p l e R s m args below meth c H locs cells slots Q vs (pc + 3) st) : G p l e R s m args below meth c H locs cells slots Q vs pc (.int x :: st) := fun ls h => lv_if_gt C.1 C.2.1 hd ht (fun q => kt q ls h) (fun q => kf q ls h)
theorem g_icmp_le (C : CX p s m args meth c cc own nL ret) {x y : Int32} {off : Int} (tgt : Nat) (hd : decode cc pc = .ok (.if_icmp .le off, 3)) (ht : (pc : Int) + off = (tgt : Int)) (kt : x ≤ y → G p l e R s m args below meth c H locs cells slots Q vs tgt st) (kf : ¬ x ≤ y → G p l e R s m args below meth c H locs cells slots Q vs (pc + 3) st) : G p l e R s m args below meth c H locs cells slots Q vs pc (.int y :: .int x :: st) := fun ls h => lv_icmp_le C.1 C.2.1 hd ht (fun q => kt q ls h) (fun q => kf q ls h)
theorem g_if_le (C : CX p s m args meth c cc own nL ret) {x : Int32} {off : Int} (tgt : Nat) (hd : decode cc pc = .ok (.ifCond .le off, 3)) (ht : (pc : Int) + off = (tgt : Int)) (kt : x ≤ 0 → G p l e R s m args below meth c H locs cells slots Q vs tgt st) (kf : ¬ x ≤ 0 → G p l e R s m args below meth c H locs cells slots Q vs (pc + 3) st) : G p l e R s m args below meth c H locs cells slots Q vs pc (.int x :: st) := fun ls h => lv_if_le C.1 C.2.1 hd ht (fun q => kt q ls h) (fun q => kf q ls h)
theorem g_icmp_eqN (C : CX p s m args meth c cc own nL ret) {a b : Nat} (ha : a < 2147483648) (hb : b < 2147483648) {off : Int} (tgt : Nat) (hd : decode cc pc = .ok (.if_icmp .eq off, 3)) (ht : (pc : Int) + off = (tgt : Int)) (kt : a = b → G p l e R s m args below meth c H locs cells slots Q vs tgt st) (kf : ¬ a = b → G p l e R s m args below meth c H locs cells slots Q vs (pc + 3) st) : G p l e R s m args below meth c H locs cells slots Q vs pc (.int (nI b) :: .int (nI a) :: st) :=
  g_icmp_eq C tgt hd ht (fun q => kt ((nI_eq ha hb).mp q)) (fun q => kf (fun z => q ((nI_eq ha hb).mpr z)))
theorem g_icmp_neN (C : CX p s m args meth c cc own nL ret) {a b : Nat} (ha : a < 2147483648) (hb : b < 2147483648) {off : Int} (tgt : Nat) (hd : decode cc pc = .ok (.if_icmp .ne off, 3)) (ht : (pc : Int) + off = (tgt : Int)) (kt : ¬ a = b → G p l e R s m args below meth c H locs cells slots Q vs tgt st) (kf : a = b → G p l e R s m args below meth c H locs cells slots Q vs (pc + 3) st) : G p l e R s m args below meth c H locs cells slots Q vs pc (.int (nI b) :: .int (nI a) :: st) :=
  g_icmp_ne C tgt hd ht (fun q => kt (fun z => q (by rw [z]))) (fun q => kf ((nI_eq ha hb).mp q))
theorem g_icmp_ltN (C : CX p s m args meth c cc own nL ret) {a b : Nat} (ha : a < 2147483648) (hb : b < 2147483648) {off : Int} (tgt : Nat) (hd : decode cc pc = .ok (.if_icmp .lt off, 3)) (ht : (pc : Int) + off = (tgt : Int)) (kt : a < b → G p l e R s m args below meth c H locs cells slots Q vs tgt st) (kf : b ≤ a → G p l e R s m args below meth c H locs cells slots Q vs (pc + 3) st) : G p l e R s m args below meth c H locs cells slots Q vs pc (.int (nI b) :: .int (nI a) :: st) :=
  g_icmp_lt C tgt hd ht (fun q => kt ((nI_ltI ha hb).mp q)) (fun q => kf (Nat.not_lt.mp fun z => q ((nI_ltI ha hb).mpr z)))
theorem g_icmp_geN (C : CX p s m args meth c cc own nL ret) {a b : Nat} (ha : a < 2147483648) (hb : b < 2147483648) {off : Int} (tgt : Nat) (hd : decode cc pc = .ok (.if_icmp .ge off, 3)) (ht : (pc : Int) + off = (tgt : Int)) (kt : b ≤ a → G p l e R s m args below meth c H locs cells slots Q vs tgt st) (kf : a < b → G p l e R s m args below meth c H locs cells slots Q vs (pc + 3) st) : G p l e R s m args below meth c H locs cells slots Q vs pc (.int (nI b) :: .int (nI a) :: st) :=
  g_icmp_ge C tgt hd ht (fun q => kt ((nI_leI hb ha).mp q)) (fun q => kf (Nat.not_le.mp fun z => q ((nI_leI hb ha).mpr z)))
theorem g_icmp_gtN (C : CX p s m args meth c cc own nL ret) {a b : Nat} (ha : a < 2147483648) (hb : b < 2147483648) {off : Int} (tgt : Nat) (hd : decode cc pc = .ok (.if_icmp .gt off, 3)) (ht : (pc : Int) + off = (tgt : Int)) (kt : b < a → G p l e R s m args below meth c H locs cells slots Q vs tgt st) (kf : a ≤ b → G p l e R s m args below meth c H locs cells slots Q vs (pc + 3) st) : G p l e R s m args below meth c H locs cells slots Q vs pc (.int (nI b) :: .int (nI a) :: st) :=
  g_icmp_gt C tgt hd ht (fun q => kt ((nI_ltI hb ha).mp q)) (fun q => kf (Nat.not_lt.mp fun z => q ((nI_ltI hb ha).mpr z)))
theorem g_icmp_leN (C : CX p s m args meth c cc own nL ret) {a b : Nat} (ha : a < 2147483648) (hb : b < 2147483648) {off : Int} (tgt : Nat) (hd : decode cc pc = .ok (.if_icmp .le off, 3)) (ht : (pc : Int) + off = (tgt : Int)) (kt : a ≤ b → G p l e R s m args below meth c H locs cells slots Q vs tgt st) (kf : b < a → G p l e R s m args below meth c H locs cells slots Q vs (pc + 3) st) : G p l e R s m args below meth c H locs cells slots Q vs pc (.int (nI b) :: .int (nI a) :: st) :=
  g_icmp_le C tgt hd ht (fun q => kt ((nI_leI ha hb).mp q)) (fun q => kf (Nat.not_le.mp fun z => q ((nI_leI ha hb).mpr z)))
def bI (P : Prop) [Decidable P] : Int32 := if P then nI 1 else nI 0
theorem bI_t {P : Prop} [Decidable P] (h : P) : nI 1 = bI P := (if_pos h).symm
theorem bI_f {P : Prop} [Decidable P] (h : ¬ P) : nI 0 = bI P := (if_neg h).symm
theorem bI_0 {P : Prop} [Decidable P] : bI P = 0 ↔ ¬ P := by
  by_cases h : P
  · rw [← bI_t h]; exact ⟨fun q => absurd q (by decide), fun q => absurd h q⟩
  · rw [← bI_f h]; exact ⟨fun _ => h, fun _ => rfl⟩
theorem bI_z (P : Prop) [Decidable P] : narrow .boolean (.int (bI P)) = .int (bI P) := by unfold bI; split <;> rfl
theorem g_if_eqB (C : CX p s m args meth c cc own nL ret) {P : Prop} [Decidable P] {off : Int} (tgt : Nat) (hd : decode cc pc = .ok (.ifCond .eq off, 3)) (ht : (pc : Int) + off = (tgt : Int)) (kt : ¬ P → G p l e R s m args below meth c H locs cells slots Q vs tgt st) (kf : P → G p l e R s m args below meth c H locs cells slots Q vs (pc + 3) st) : G p l e R s m args below meth c H locs cells slots Q vs pc (.int (bI P) :: st) := g_if_eq C tgt hd ht (fun q => kt (bI_0.mp q)) (fun q => kf (Classical.byContradiction fun z => q (bI_0.mpr z)))
theorem g_if_neB (C : CX p s m args meth c cc own nL ret) {P : Prop} [Decidable P] {off : Int} (tgt : Nat) (hd : decode cc pc = .ok (.ifCond .ne off, 3)) (ht : (pc : Int) + off = (tgt : Int)) (kt : P → G p l e R s m args below meth c H locs cells slots Q vs tgt st) (kf : ¬ P → G p l e R s m args below meth c H locs cells slots Q vs (pc + 3) st) : G p l e R s m args below meth c H locs cells slots Q vs pc (.int (bI P) :: st) := g_if_ne C tgt hd ht (fun q => kt (Classical.byContradiction fun z => q (bI_0.mpr z))) (fun q => kf (bI_0.mp q))
theorem g_top {x y : Int32} (h : x = y) (k : G p l e R s m args below meth c H locs cells slots Q vs pc (.int y :: st)) : G p l e R s m args below meth c H locs cells slots Q vs pc (.int x :: st) := h ▸ k
theorem g_topl {x y : Int64} (h : x = y) (k : G p l e R s m args below meth c H locs cells slots Q vs pc (.long y :: st)) : G p l e R s m args below meth c H locs cells slots Q vs pc (.long x :: st) := h ▸ k
theorem g_gen {x : Int32} (k : ∀ y : Int32, y = x → G p l e R s m args below meth c H locs cells slots Q vs pc (.int y :: st)) : G p l e R s m args below meth c H locs cells slots Q vs pc (.int x :: st) := k x rfl
theorem g_genl {x : Int64} (k : ∀ y : Int64, y = x → G p l e R s m args below meth c H locs cells slots Q vs pc (.long y :: st)) : G p l e R s m args below meth c H locs cells slots Q vs pc (.long x :: st) := k x rfl
/-! the heap's rows -/
section GH
variable {D : va_G} {cl : List vw_C} {A : Nat → Prop} {tys : List (ClassId × FieldType)} {ws : va_W} {H0 : Heap}
theorem g_get (C : CX p s m args meth c cc own nL ret) {a : Nat} {ref Cn : String} {T : u_T} {N ci index : Nat} (hin : ∀ w ∈ u_ws Cn T N, w ∈ WG) (hK : va_K D cl tys s) (hP : va_P D cl ws H) (q0 : Nat) {fs : List Value} (he : ws[q0]? = some (a, .inr (ci, fs))) (hc : cl[ci]? = some (Cn, T, N)) (k : Nat) (hk : k < N) {rn rd : String} (hlink : Cond.fieldLink own index ref rn rd ∈ WG) (hsame : ref = (T k).1 ∧ rn = (T k).2.1 ∧ rd = (T k).2.2.1) {v : Value} (hv : fs[k]? = some v) (hd : decode cc pc = .ok (.getfield index, 3))
    (kk : G p l e R s m args below meth c H locs cells slots Q vs (pc + 3) (v :: st)) : G p l e R s m args below meth c H locs cells slots Q vs pc (.ref a :: st) := by
  obtain ⟨rfl, rfl, rfl⟩ := hsame
  exact fun ls h => va_get C.1 C.2.1 C.2.2.2.2.1 hin C.2.2.2.1 hK hP q0 he hc k hk (C.2.2.2.2.1 _ hlink) (fun _ h => h) hv hd (kk ls h)
theorem g_put (C : CX p s m args meth c cc own nL ret) {a : Nat} {ref Cn : String} {T : u_T} {N ci index : Nat} (hin : ∀ w ∈ u_ws Cn T N, w ∈ WG) (ty0 : Nat → FieldType) (hty : ∀ k, k < N → parseFieldDescriptor (T k).2.2.1 = some (ty0 k)) (hnm : ∀ a, a < N → ∀ b, b < N → a ≠ b → (T a).2.1 ≠ (T b).2.1) (hK : va_K D cl tys s) (hP : va_P D cl ws H) (hD : va_D A ws) (hS : va_S A H0 H locs) (q0 : Nat) {fs : List Value} (he : ws[q0]? = some (a, .inr (ci, fs))) (hc : cl[ci]? = some (Cn, T, N)) (k : Nat) (hk : k < N) {rn rd : String} (hlink : Cond.fieldLink own index ref rn rd ∈ WG) (hsame : ref = (T k).1 ∧ rn = (T k).2.1 ∧ rd = (T k).2.2.1) (hfin : (T k).2.2.2 = false) {v : Value} (hn : narrow (ty0 k) v = v) (hfit : fits (ty0 k) v = true) (hl : k < fs.length) (hd : decode cc pc = .ok (.putfield index, 3))
    (kk : ∀ (H1 : Heap) (locs1 : List Loc), va_P D cl (ws.set q0 (a, .inr (ci, fs.set k v))) H1 → va_D A (ws.set q0 (a, .inr (ci, fs.set k v))) → va_S A H0 H1 locs1 → G p l e R s m args below meth c H1 locs1 cells slots Q vs (pc + 3) st) : G p l e R s m args below meth c H locs cells slots Q vs pc (v :: .ref a :: st) := by
  obtain ⟨rfl, rfl, rfl⟩ := hsame
  exact fun ls h => va_put (ty := ty0 k) C.1 C.2.1 C.2.2.2.2.1 hin ty0 hty hnm C.2.2.2.1 hK hP hD hS q0 he hc k hk (C.2.2.2.2.1 _ hlink) (fun _ h => h) hfin (hty k hk) hn hfit hl hd (fun H1 locs1 h1 h2 h3 => kk H1 locs1 h1 h2 h3 ls h)
theorem g_iald (C : CX p s m args meth c cc own nL ret) {a : Nat} (hK : va_K D cl tys s) (hP : va_P D cl ws H) (q0 t0 : Nat) {cA : ClassId} {n : Nat} {f : Nat → Int32} (ha : ws[q0]? = some (a, .inl (cA, n, .inl f))) (ht : tys[t0]? = some (cA, .int)) {i : Nat} (hi : i < n) (hn : n < 2147483648) (hd : decode cc pc = .ok (.iaload, 1))
    (kk : G p l e R s m args below meth c H locs cells slots Q vs (pc + 1) (.int (f i) :: st)) : G p l e R s m args below meth c H locs cells slots Q vs pc (.int (nI i) :: .ref a :: st) := by
  have e : (nI i).toNatClampNeg = i := nI_clamp (Nat.lt_trans hi hn)
  intro ls h
  refine va_iald C.1 C.2.1 hK hP q0 t0 ha ht (vp_in_nI hi hn) hd ?_
  rw [e]
  exact kk ls h
theorem g_iast (C : CX p s m args meth c cc own nL ret) {a : Nat} (hK : va_K D cl tys s) (hP : va_P D cl ws H) (hD : va_D A ws) (hS : va_S A H0 H locs) (q0 t0 : Nat) {cA : ClassId} {n : Nat} {f : Nat → Int32} (ha : ws[q0]? = some (a, .inl (cA, n, .inl f))) (ht : tys[t0]? = some (cA, .int)) {i : Nat} {x : Int32} (hi : i < n) (hn : n < 2147483648) (hd : decode cc pc = .ok (.iastore, 1))
    (kk : ∀ (H1 : Heap) (locs1 : List Loc), va_P D cl (ws.set q0 (a, .inl (cA, n, .inl (upd f i x)))) H1 → va_D A (ws.set q0 (a, .inl (cA, n, .inl (upd f i x)))) → va_S A H0 H1 locs1 → G p l e R s m args below meth c H1 locs1 cells slots Q vs (pc + 1) st) : G p l e R s m args below meth c H locs cells slots Q vs pc (.int x :: .int (nI i) :: .ref a :: st) := by
  have e : (nI i).toNatClampNeg = i := nI_clamp (Nat.lt_trans hi hn)
  intro ls h
  refine va_iast C.1 C.2.1 hK hP hD hS q0 t0 ha ht (vp_in_nI hi hn) hd ?_
  rw [e]
  exact fun H1 locs1 h1 h2 h3 => kk H1 locs1 h1 h2 h3 ls h
theorem g_gets (C : CX p s m args meth c cc own nL ret) {Cn n d : String} {v : Value} {index : Nat} (hZ : va_Z Cn n d v A s s.heap) (hS : va_S A s.heap H locs) (hlink : Cond.fieldLink own index Cn n d ∈ WG) (hd : decode cc pc = .ok (.getstatic index, 3))
    (kk : G p l e R s m args below meth c H locs cells slots Q vs (pc + 3) (v :: st)) : G p l e R s m args below meth c H locs cells slots Q vs pc st := fun ls h => va_gets C.1 C.2.1 hZ hS C.2.2.2.1 (C.2.2.2.2.1 _ hlink) (fun _ h => h) hd (kk ls h)
end GH
/-! the ends -/
/-- a method that reads and answers v: the heap as it was -/
def bq_S (v : Value) : Array Value → State → Outcome → State → Prop := fun _ st oc t => oc = .returned (some v) ∧ t.heap = st.heap
theorem g_ireti (C : CX p s m args meth c cc own nL (some .int)) {x y : Int32} (hv : x = y) (hd : decode cc pc = .ok (.ireturn, 1)) : G p l e R s m args below meth c s.heap [] cells slots (MQ below (bq_S (.int y)) args s cells slots (fun _ => False)) vs pc [.int x] := by
  subst hv
  exact fun ls h => W.iret C.1 C.2.1 C.2.2.2.2.2.1 (fun t ht hW => ⟨rfl, ht⟩) (fun q hq => absurd hq List.not_mem_nil) hd C.2.2.2.2.2.2
theorem g_iretz (C : CX p s m args meth c cc own nL (some .boolean)) {x : Int32} {P : Prop} [Decidable P] (hv : x = bI P) (hd : decode cc pc = .ok (.ireturn, 1)) : G p l e R s m args below meth c s.heap [] cells slots (MQ below (bq_S (.int (bI P))) args s cells slots (fun _ => False)) vs pc [.int x] := by
  subst hv
  exact fun ls h => W.zret C.1 C.2.1 C.2.2.2.2.2.1 (bI_z P) (fun t ht hW => ⟨rfl, ht⟩) (fun q hq => absurd hq List.not_mem_nil) hd C.2.2.2.2.2.2
theorem g_lret (C : CX p s m args meth c cc own nL (some .long)) {x y : Int64} (hv : x = y) (hd : decode cc pc = .ok (.lreturn, 1)) : G p l e R s m args below meth c s.heap [] cells slots (MQ below (bq_S (.long y)) args s cells slots (fun _ => False)) vs pc [.long x] := by
  subst hv
  exact fun ls h => W.lret C.1 C.2.1 C.2.2.2.2.2.1 (fun t ht hW => ⟨rfl, ht⟩) (fun q hq => absurd hq List.not_mem_nil) hd C.2.2.2.2.2.2
end GA

/-! a method from its entry -/
def rmL (k : Nat) : Room := { frames := k, cells := 0, slots := 0, locals := 40 * k }
theorem bq_of {l : Launch} {y : MethodName} {cc : ByteArray} {nL : Nat} {ret : Option FieldType} {rm : Room} {av : List Value} {Pre : State → Prop} {Qc : Array Value → State → Outcome → State → Prop} {mc ms : Nat} {free : Addr → Prop} (vs : List (Option Value)) (hvs : en 0 vs = lv_args 0 av) (hlen : vs.length = nL) (hle : (lg_sl av).length ≤ nL) (hy : plainName y.cls = true)
    (body : ∀ (p : Program) (e : Env) (s : State) (m : MethodId) (below : List Frame) (meth : Method) (c : Code), CX p s m av.toArray meth c cc y.cls nL ret → Pre s → G p l e rm s m av.toArray below meth c s.heap [] 0 0 (MQ below Qc av.toArray s mc ms free) vs 0 []) :
    Met l y (.code y cc nL ret :: WG) rm (va_Pc av Pre) Qc mc ms free := by
  refine Met.ofW (cc := cc) (maxL := nL) (ret := ret) hy rfl ?_
  intro p e s m args below meth c s₁ B hml hv
  obtain ⟨rfl, hv⟩ := hv
  have hts := atoms_spec (ws := .code y cc nL ret :: WG) B.pre
  have hl := lv_entry av (n := nL) hle
  have K := body p e s m below meth c ⟨B.exec, B.bytes, hml, findClass_of_methodNamed B.named, fun w h => hts w (List.mem_cons_of_mem _ h), B.returns, B.notSynchronized⟩ hv
  have h2 := K _ (by rw [hvs, hlen]; exact hl)
  rw [lg_entry_eq]
  exact h2
