/-! rows: locals 9 to 15, shifts, or, rows of longs -/
section GA2
variable {p : Program} {l : Launch} {e : Env} {R : Room} {s : State} {m : MethodId} {args : Array Value} {below : List Frame} {meth : Method} {c : Code} {H : Heap} {locs : List Loc} {cells slots : Nat} {Q : State → Prop}
variable {cc : ByteArray} {own : String} {nL pc : Nat} {ret : Option FieldType} {vs : List (Option Value)} {st st0 : List Value}
theorem g_iload9 (C : CX p s m args meth c cc own nL ret) {a0 a1 a2 a3 a4 a5 a6 a7 a8 : Option Value} {t : List (Option Value)} {x : Int32} (hd : decode cc pc = .ok (.iload 9, 2)) (k : G p l e R s m args below meth c H locs cells slots Q (a0 :: a1 :: a2 :: a3 :: a4 :: a5 :: a6 :: a7 :: a8 :: some (.int x) :: t) (pc + 2) (.int x :: st)) : G p l e R s m args below meth c H locs cells slots Q (a0 :: a1 :: a2 :: a3 :: a4 :: a5 :: a6 :: a7 :: a8 :: some (.int x) :: t) pc st := fun ls h => lv_iload C.1 C.2.1 hd (G.load (i := 9) h rfl) (k ls h)
theorem g_istore9 (C : CX p s m args meth c cc own nL ret) {a0 a1 a2 a3 a4 a5 a6 a7 a8 b : Option Value} {t : List (Option Value)} {x : Int32} (hc : c1 a8 = true) (hd : decode cc pc = .ok (.istore 9, 2)) (k : G p l e R s m args below meth c H locs cells slots Q (a0 :: a1 :: a2 :: a3 :: a4 :: a5 :: a6 :: a7 :: a8 :: some (.int x) :: t) (pc + 2) st) : G p l e R s m args below meth c H locs cells slots Q (a0 :: a1 :: a2 :: a3 :: a4 :: a5 :: a6 :: a7 :: a8 :: b :: t) pc (.int x :: st) := by
  intro ls h
  refine lv_istore C.1 C.2.1 hd h (by simp only [List.length_cons]; omega) rfl (fun ls2 h2 => k ls2 (G.sto (by simp only [List.length_cons]) ?_ h2))
  intro j w hw
  match j, hw with
  | 0, hw => exact Or.inr ⟨hw, by simp⟩
  | 1, hw => exact Or.inr ⟨hw, by simp⟩
  | 2, hw => exact Or.inr ⟨hw, by simp⟩
  | 3, hw => exact Or.inr ⟨hw, by simp⟩
  | 4, hw => exact Or.inr ⟨hw, by simp⟩
  | 5, hw => exact Or.inr ⟨hw, by simp⟩
  | 6, hw => exact Or.inr ⟨hw, by simp⟩
  | 7, hw => exact Or.inr ⟨hw, by simp⟩
  | 8, hw =>
    have hw2 : a8 = some w := Option.some.inj hw
    subst hw2
    have hc2 : w.category = 1 := by simpa [c1] using hc
    exact Or.inr ⟨hw, by simp [hc2]⟩
  | 9, hw => exact Or.inl ⟨rfl, (Option.some.inj (Option.some.inj hw)).symm⟩
  | j + 10, hw => exact Or.inr ⟨hw, by first | (simp; done) | (simp; omega)⟩
theorem g_aload9 (C : CX p s m args meth c cc own nL ret) {a0 a1 a2 a3 a4 a5 a6 a7 a8 : Option Value} {t : List (Option Value)} {x : Nat} (hd : decode cc pc = .ok (.aload 9, 2)) (k : G p l e R s m args below meth c H locs cells slots Q (a0 :: a1 :: a2 :: a3 :: a4 :: a5 :: a6 :: a7 :: a8 :: some (.ref x) :: t) (pc + 2) (.ref x :: st)) : G p l e R s m args below meth c H locs cells slots Q (a0 :: a1 :: a2 :: a3 :: a4 :: a5 :: a6 :: a7 :: a8 :: some (.ref x) :: t) pc st := fun ls h => lv_aload C.1 C.2.1 hd (G.load (i := 9) h rfl) (k ls h)
theorem g_astore9 (C : CX p s m args meth c cc own nL ret) {a0 a1 a2 a3 a4 a5 a6 a7 a8 b : Option Value} {t : List (Option Value)} {x : Nat} (hc : c1 a8 = true) (hd : decode cc pc = .ok (.astore 9, 2)) (k : G p l e R s m args below meth c H locs cells slots Q (a0 :: a1 :: a2 :: a3 :: a4 :: a5 :: a6 :: a7 :: a8 :: some (.ref x) :: t) (pc + 2) st) : G p l e R s m args below meth c H locs cells slots Q (a0 :: a1 :: a2 :: a3 :: a4 :: a5 :: a6 :: a7 :: a8 :: b :: t) pc (.ref x :: st) := by
  intro ls h
  refine lv_astore C.1 C.2.1 hd h (by simp only [List.length_cons]; omega) rfl (fun ls2 h2 => k ls2 (G.sto (by simp only [List.length_cons]) ?_ h2))
  intro j w hw
  match j, hw with
  | 0, hw => exact Or.inr ⟨hw, by simp⟩
  | 1, hw => exact Or.inr ⟨hw, by simp⟩
  | 2, hw => exact Or.inr ⟨hw, by simp⟩
  | 3, hw => exact Or.inr ⟨hw, by simp⟩
  | 4, hw => exact Or.inr ⟨hw, by simp⟩
  | 5, hw => exact Or.inr ⟨hw, by simp⟩
  | 6, hw => exact Or.inr ⟨hw, by simp⟩
  | 7, hw => exact Or.inr ⟨hw, by simp⟩
  | 8, hw =>
    have hw2 : a8 = some w := Option.some.inj hw
    subst hw2
    have hc2 : w.category = 1 := by simpa [c1] using hc
    exact Or.inr ⟨hw, by simp [hc2]⟩
  | 9, hw => exact Or.inl ⟨rfl, (Option.some.inj (Option.some.inj hw)).symm⟩
  | j + 10, hw => exact Or.inr ⟨hw, by first | (simp; done) | (simp; omega)⟩
theorem g_iinc9 (C : CX p s m args meth c cc own nL ret) {a0 a1 a2 a3 a4 a5 a6 a7 a8 : Option Value} {t : List (Option Value)} {n : Int} {x : Int32} (v : Int32) (hc : c1 a8 = true) (hd : decode cc pc = .ok (.iinc 9 n, 3)) (hv : x + Int32.ofInt n = v) (k : G p l e R s m args below meth c H locs cells slots Q (a0 :: a1 :: a2 :: a3 :: a4 :: a5 :: a6 :: a7 :: a8 :: some (.int v) :: t) (pc + 3) st) : G p l e R s m args below meth c H locs cells slots Q (a0 :: a1 :: a2 :: a3 :: a4 :: a5 :: a6 :: a7 :: a8 :: some (.int x) :: t) pc st := by
  intro ls h
  obtain ⟨k0, hk0⟩ : ∃ k0 : Nat, (en 0 (a0 :: a1 :: a2 :: a3 :: a4 :: a5 :: a6 :: a7 :: a8 :: some (.int x) :: t))[k0]? = some (9, .int x) := List.mem_iff_getElem?.mp (en_mem.mpr ⟨9, rfl, rfl⟩)
  refine lv_iinc (k := k0) (v := v) C.1 C.2.1 hd h hk0 hv (by simp only [List.length_cons]; omega) rfl (fun ls2 h2 => k ls2 (G.sto (by simp only [List.length_cons]) ?_ h2))
  intro j w hw
  match j, hw with
  | 0, hw => exact Or.inr ⟨hw, by simp⟩
  | 1, hw => exact Or.inr ⟨hw, by simp⟩
  | 2, hw => exact Or.inr ⟨hw, by simp⟩
  | 3, hw => exact Or.inr ⟨hw, by simp⟩
  | 4, hw => exact Or.inr ⟨hw, by simp⟩
  | 5, hw => exact Or.inr ⟨hw, by simp⟩
  | 6, hw => exact Or.inr ⟨hw, by simp⟩
  | 7, hw => exact Or.inr ⟨hw, by simp⟩
  | 8, hw =>
    have hw2 : a8 = some w := Option.some.inj hw
    subst hw2
    have hc2 : w.category = 1 := by simpa [c1] using hc
    exact Or.inr ⟨hw, by simp [hc2]⟩
  | 9, hw => exact Or.inl ⟨rfl, (Option.some.inj (Option.some.inj hw)).symm⟩
  | j + 10, hw => exact Or.inr ⟨hw, by first | (simp; done) | (simp; omega)⟩
theorem g_iload10 (C : CX p s m args meth c cc own nL ret) {a0 a1 a2 a3 a4 a5 a6 a7 a8 a9 : Option Value} {t : List (Option Value)} {x : Int32} (hd : decode cc pc = .ok (.iload 10, 2)) (k : G p l e R s m args below meth c H locs cells slots Q (a0 :: a1 :: a2 :: a3 :: a4 :: a5 :: a6 :: a7 :: a8 :: a9 :: some (.int x) :: t) (pc + 2) (.int x :: st)) : G p l e R s m args below meth c H locs cells slots Q (a0 :: a1 :: a2 :: a3 :: a4 :: a5 :: a6 :: a7 :: a8 :: a9 :: some (.int x) :: t) pc st := fun ls h => lv_iload C.1 C.2.1 hd (G.load (i := 10) h rfl) (k ls h)
theorem g_istore10 (C : CX p s m args meth c cc own nL ret) {a0 a1 a2 a3 a4 a5 a6 a7 a8 a9 b : Option Value} {t : List (Option Value)} {x : Int32} (hc : c1 a9 = true) (hd : decode cc pc = .ok (.istore 10, 2)) (k : G p l e R s m args below meth c H locs cells slots Q (a0 :: a1 :: a2 :: a3 :: a4 :: a5 :: a6 :: a7 :: a8 :: a9 :: some (.int x) :: t) (pc + 2) st) : G p l e R s m args below meth c H locs cells slots Q (a0 :: a1 :: a2 :: a3 :: a4 :: a5 :: a6 :: a7 :: a8 :: a9 :: b :: t) pc (.int x :: st) := by
  intro ls h
  refine lv_istore C.1 C.2.1 hd h (by simp only [List.length_cons]; omega) rfl (fun ls2 h2 => k ls2 (G.sto (by simp only [List.length_cons]) ?_ h2))
  intro j w hw
  match j, hw with
  | 0, hw => exact Or.inr ⟨hw, by simp⟩
  | 1, hw => exact Or.inr ⟨hw, by simp⟩
  | 2, hw => exact Or.inr ⟨hw, by simp⟩
  | 3, hw => exact Or.inr ⟨hw, by simp⟩
  | 4, hw => exact Or.inr ⟨hw, by simp⟩
  | 5, hw => exact Or.inr ⟨hw, by simp⟩
  | 6, hw => exact Or.inr ⟨hw, by simp⟩
  | 7, hw => exact Or.inr ⟨hw, by simp⟩
  | 8, hw => exact Or.inr ⟨hw, by simp⟩
  | 9, hw =>
    have hw2 : a9 = some w := Option.some.inj hw
    subst hw2
    have hc2 : w.category = 1 := by simpa [c1] using hc
    exact Or.inr ⟨hw, by simp [hc2]⟩
  | 10, hw => exact Or.inl ⟨rfl, (Option.some.inj (Option.some.inj hw)).symm⟩
  | j + 11, hw => exact Or.inr ⟨hw, by first | (simp; done) | (simp; omega)⟩
theorem g_aload10 (C : CX p s m args meth c cc own nL ret) {a0 a1 a2 a3 a4 a5 a6 a7 a8 a9 : Option Value} {t : List (Option Value)} {x : Nat} (hd : decode cc pc = .ok (.aload 10, 2)) (k : G p l e R s m args below meth c H locs cells slots Q (a0 :: a1 :: a2 :: a3 :: a4 :: a5 :: a6 :: a7 :: a8 :: a9 :: some (.ref x) :: t) (pc + 2) (.ref x :: st)) : G p l e R s m args below meth c H locs cells slots Q (a0 :: a1 :: a2 :: a3 :: a4 :: a5 :: a6 :: a7 :: a8 :: a9 :: some (.ref x) :: t) pc st := fun ls h => lv_aload C.1 C.2.1 hd (G.load (i := 10) h rfl) (k ls h)
theorem g_astore10 (C : CX p s m args meth c cc own nL ret) {a0 a1 a2 a3 a4 a5 a6 a7 a8 a9 b : Option Value} {t : List (Option Value)} {x : Nat} (hc : c1 a9 = true) (hd : decode cc pc = .ok (.astore 10, 2)) (k : G p l e R s m args below meth c H locs cells slots Q (a0 :: a1 :: a2 :: a3 :: a4 :: a5 :: a6 :: a7 :: a8 :: a9 :: some (.ref x) :: t) (pc + 2) st) : G p l e R s m args below meth c H locs cells slots Q (a0 :: a1 :: a2 :: a3 :: a4 :: a5 :: a6 :: a7 :: a8 :: a9 :: b :: t) pc (.ref x :: st) := by
  intro ls h
  refine lv_astore C.1 C.2.1 hd h (by simp only [List.length_cons]; omega) rfl (fun ls2 h2 => k ls2 (G.sto (by simp only [List.length_cons]) ?_ h2))
  intro j w hw
  match j, hw with
  | 0, hw => exact Or.inr ⟨hw, by simp⟩
  | 1, hw => exact Or.inr ⟨hw, by simp⟩
  | 2, hw => exact Or.inr ⟨hw, by simp⟩
  | 3, hw => exact Or.inr ⟨hw, by simp⟩
  | 4, hw => exact Or.inr ⟨hw, by simp⟩
  | 5, hw => exact Or.inr ⟨hw, by simp⟩
  | 6, hw => exact Or.inr ⟨hw, by simp⟩
  | 7, hw => exact Or.inr ⟨hw, by simp⟩
  | 8, hw => exact Or.inr ⟨hw, by simp⟩
  | 9, hw =>
    have hw2 : a9 = some w := Option.some.inj hw
    subst hw2
    have hc2 : w.category = 1 := by simpa [c1] using hc
    exact Or.inr ⟨hw, by simp [hc2]⟩
  | 10, hw => exact Or.inl ⟨rfl, (Option.some.inj (Option.some.inj hw)).symm⟩
  | j + 11, hw => exact Or.inr ⟨hw, by first | (simp; done) | (simp; omega)⟩
theorem g_iinc10 (C : CX p s m args meth c cc own nL ret) {a0 a1 a2 a3 a4 a5 a6 a7 a8 a9 : Option Value} {t : List (Option Value)} {n : Int} {x : Int32} (v : Int32) (hc : c1 a9 = true) (hd : decode cc pc = .ok (.iinc 10 n, 3)) (hv : x + Int32.ofInt n = v) (k : G p l e R s m args below meth c H locs cells slots Q (a0 :: a1 :: a2 :: a3 :: a4 :: a5 :: a6 :: a7 :: a8 :: a9 :: some (.int v) :: t) (pc + 3) st) : G p l e R s m args below meth c H locs cells slots Q (a0 :: a1 :: a2 :: a3 :: a4 :: a5 :: a6 :: a7 :: a8 :: a9 :: some (.int x) :: t) pc st := by
  intro ls h
  obtain ⟨k0, hk0⟩ : ∃ k0 : Nat, (en 0 (a0 :: a1 :: a2 :: a3 :: a4 :: a5 :: a6 :: a7 :: a8 :: a9 :: some (.int x) :: t))[k0]? = some (10, .int x) := List.mem_iff_getElem?.mp (en_mem.mpr ⟨10, rfl, rfl⟩)
  refine lv_iinc (k := k0) (v := v) C.1 C.2.1 hd h hk0 hv (by simp only [List.length_cons]; omega) rfl (fun ls2 h2 => k ls2 (G.sto (by simp only [List.length_cons]) ?_ h2))
  intro j w hw
  match j, hw with
  | 0, hw => exact Or.inr ⟨hw, by simp⟩
  | 1, hw => exact Or.inr ⟨hw, by simp⟩
  | 2, hw => exact Or.inr ⟨hw, by simp⟩
  | 3, hw => exact Or.inr ⟨hw, by simp⟩
  | 4, hw => exact Or.inr ⟨hw, by simp⟩
  | 5, hw => exact Or.inr ⟨hw, by simp⟩
  | 6, hw => exact Or.inr ⟨hw, by simp⟩
  | 7, hw => exact Or.inr ⟨hw, by simp⟩
  | 8, hw => exact Or.inr ⟨hw, by simp⟩
  | 9, hw =>
    have hw2 : a9 = some w := Option.some.inj hw
    subst hw2
    have hc2 : w.category = 1 := by simpa [c1] using hc
    exact Or.inr ⟨hw, by simp [hc2]⟩
  | 10, hw => exact Or.inl ⟨rfl, (Option.some.inj (Option.some.inj hw)).symm⟩
  | j + 11, hw => exact Or.inr ⟨hw, by first | (simp; done) | (simp; omega)⟩
theorem g_iload11 (C : CX p s m args meth c cc own nL ret) {a0 a1 a2 a3 a4 a5 a6 a7 a8 a9 a10 : Option Value} {t : List (Option Value)} {x : Int32} (hd : decode cc pc = .ok (.iload 11, 2)) (k : G p l e R s m args below meth c H locs cells slots Q (a0 :: a1 :: a2 :: a3 :: a4 :: a5 :: a6 :: a7 :: a8 :: a9 :: a10 :: some (.int x) :: t) (pc + 2) (.int x :: st)) : G p l e R s m args below meth c H locs cells slots Q (a0 :: a1 :: a2 :: a3 :: a4 :: a5 :: a6 :: a7 :: a8 :: a9 :: a10 :: some (.int x) :: t) pc st := fun ls h => lv_iload C.1 C.2.1 hd (G.load (i := 11) h rfl) (k ls h)
theorem g_istore11 (C : CX p s m args meth c cc own nL ret) {a0 a1 a2 a3 a4 a5 a6 a7 a8 a9 a10 b : Option Value} {t : List (Option Value)} {x : Int32} (hc : c1 a10 = true) (hd : decode cc pc = .ok (.istore 11, 2)) (k : G p l e R s m args below meth c H locs cells slots Q (a0 :: a1 :: a2 :: a3 :: a4 :: a5 :: a6 :: a7 :: a8 :: a9 :: a10 :: some (.int x) :: t) (pc + 2) st) : G p l e R s m args below meth c H locs cells slots Q (a0 :: a1 :: a2 :: a3 :: a4 :: a5 :: a6 :: a7 :: a8 :: a9 :: a10 :: b :: t) pc (.int x :: st) := by
  intro ls h
  refine lv_istore C.1 C.2.1 hd h (by simp only [List.length_cons]; omega) rfl (fun ls2 h2 => k ls2 (G.sto (by simp only [List.length_cons]) ?_ h2))
  intro j w hw
  match j, hw with
  | 0, hw => exact Or.inr ⟨hw, by simp⟩
  | 1, hw => exact Or.inr ⟨hw, by simp⟩
  | 2, hw => exact Or.inr ⟨hw, by simp⟩
  | 3, hw => exact Or.inr ⟨hw, by simp⟩
  | 4, hw => exact Or.inr ⟨hw, by simp⟩
  | 5, hw => exact Or.inr ⟨hw, by simp⟩
  | 6, hw => exact Or.inr ⟨hw, by simp⟩
  | 7, hw => exact Or.inr ⟨hw, by simp⟩
  | 8, hw => exact Or.inr ⟨hw, by simp⟩
  | 9, hw => exact Or.inr ⟨hw, by simp⟩
  | 10, hw =>
    have hw2 : a10 = some w := Option.some.inj hw
    subst hw2
    have hc2 : w.category = 1 := by simpa [c1] using hc
    exact Or.inr ⟨hw, by simp [hc2]⟩
  | 11, hw => exact Or.inl ⟨rfl, (Option.some.inj (Option.some.inj hw)).symm⟩
  | j + 12, hw => exact Or.inr ⟨hw, by first | (simp; done) | (simp; omega)⟩
theorem g_aload11 (C : CX p s m args meth c cc own nL ret) {a0 a1 a2 a3 a4 a5 a6 a7 a8 a9 a10 : Option Value} {t : List (Option Value)} {x : Nat} (hd : decode cc pc = .ok (.aload 11, 2)) (k : G p l e R s m args below meth c H locs cells slots Q (a0 :: a1 :: a2 :: a3 :: a4 :: a5 :: a6 :: a7 :: a8 :: a9 :: a10 :: some (.ref x) :: t) (pc + 2) (.ref x :: st)) : G p l e R s m args below meth c H locs cells slots Q (a0 :: a1 :: a2 :: a3 :: a4 :: a5 :: a6 :: a7 :: a8 :: a9 :: a10 :: some (.ref x) :: t) pc st := fun ls h => lv_aload C.1 C.2.1 hd (G.load (i := 11) h rfl) (k ls h)
theorem g_astore11 (C : CX p s m args meth c cc own nL ret) {a0 a1 a2 a3 a4 a5 a6 a7 a8 a9 a10 b : Option Value} {t : List (Option Value)} {x : Nat} (hc : c1 a10 = true) (hd : decode cc pc = .ok (.astore 11, 2)) (k : G p l e R s m args below meth c H locs cells slots Q (a0 :: a1 :: a2 :: a3 :: a4 :: a5 :: a6 :: a7 :: a8 :: a9 :: a10 :: some (.ref x) :: t) (pc + 2) st) : G p l e R s m args below meth c H locs cells slots Q (a0 :: a1 :: a2 :: a3 :: a4 :: a5 :: a6 :: a7 :: a8 :: a9 :: a10 :: b :: t) pc (.ref x :: st) := by
  intro ls h
  refine lv_astore C.1 C.2.1 hd h (by simp only [List.length_cons]; omega) rfl (fun ls2 h2 => k ls2 (G.sto (by simp only [List.length_cons]) ?_ h2))
  intro j w hw
  match j, hw with
  | 0, hw => exact Or.inr ⟨hw, by simp⟩
  | 1, hw => exact Or.inr ⟨hw, by simp⟩
  | 2, hw => exact Or.inr ⟨hw, by simp⟩
  | 3, hw => exact Or.inr ⟨hw, by simp⟩
  | 4, hw => exact Or.inr ⟨hw, by simp⟩
  | 5, hw => exact Or.inr ⟨hw, by simp⟩
  | 6, hw => exact Or.inr ⟨hw, by simp⟩
  | 7, hw => exact Or.inr ⟨hw, by simp⟩
  | 8, hw => exact Or.inr ⟨hw, by simp⟩
  | 9, hw => exact Or.inr ⟨hw, by simp⟩
  | 10, hw =>
    have hw2 : a10 = some w := Option.some.inj hw
    subst hw2
    have hc2 : w.category = 1 := by simpa [c1] using hc
    exact Or.inr ⟨hw, by simp [hc2]⟩
  | 11, hw => exact Or.inl ⟨rfl, (Option.some.inj (Option.some.inj hw)).symm⟩
  | j + 12, hw => exact Or.inr ⟨hw, by first | (simp; done) | (simp; omega)⟩
theorem g_iinc11 (C : CX p s m args meth c cc own nL ret) {a0 a1 a2 a3 a4 a5 a6 a7 a8 a9 a10 : Option Value} {t : List (Option Value)} {n : Int} {x : Int32} (v : Int32) (hc : c1 a10 = true) (hd : decode cc pc = .ok (.iinc 11 n, 3)) (hv : x + Int32.ofInt n = v) (k : G p l e R s m args below meth c H locs cells slots Q (a0 :: a1 :: a2 :: a3 :: a4 :: a5 :: a6 :: a7 :: a8 :: a9 :: a10 :: some (.int v) :: t) (pc + 3) st) : G p l e R s m args below meth c H locs cells slots Q (a0 :: a1 :: a2 :: a3 :: a4 :: a5 :: a6 :: a7 :: a8 :: a9 :: a10 :: some (.int x) :: t) pc st := by
  intro ls h
  obtain ⟨k0, hk0⟩ : ∃ k0 : Nat, (en 0 (a0 :: a1 :: a2 :: a3 :: a4 :: a5 :: a6 :: a7 :: a8 :: a9 :: a10 :: some (.int x) :: t))[k0]? = some (11, .int x) := List.mem_iff_getElem?.mp (en_mem.mpr ⟨11, rfl, rfl⟩)
  refine lv_iinc (k := k0) (v := v) C.1 C.2.1 hd h hk0 hv (by simp only [List.length_cons]; omega) rfl (fun ls2 h2 => k ls2 (G.sto (by simp only [List.length_cons]) ?_ h2))
  intro j w hw
  match j, hw with
  | 0, hw => exact Or.inr ⟨hw, by simp⟩
  | 1, hw => exact Or.inr ⟨hw, by simp⟩
  | 2, hw => exact Or.inr ⟨hw, by simp⟩
  | 3, hw => exact Or.inr ⟨hw, by simp⟩
  | 4, hw => exact Or.inr ⟨hw, by simp⟩
  | 5, hw => exact Or.inr ⟨hw, by simp⟩
  | 6, hw => exact Or.inr ⟨hw, by simp⟩
  | 7, hw => exact Or.inr ⟨hw, by simp⟩
  | 8, hw => exact Or.inr ⟨hw, by simp⟩
  | 9, hw => exact Or.inr ⟨hw, by simp⟩
  | 10, hw =>
    have hw2 : a10 = some w := Option.some.inj hw
    subst hw2
    have hc2 : w.category = 1 := by simpa [c1] using hc
    exact Or.inr ⟨hw, by simp [hc2]⟩
  | 11, hw => exact Or.inl ⟨rfl, (Option.some.inj (Option.some.inj hw)).symm⟩
  | j + 12, hw => exact Or.inr ⟨hw, by first | (simp; done) | (simp; omega)⟩
theorem g_iload12 (C : CX p s m args meth c cc own nL ret) {a0 a1 a2 a3 a4 a5 a6 a7 a8 a9 a10 a11 : Option Value} {t : List (Option Value)} {x : Int32} (hd : decode cc pc = .ok (.iload 12, 2)) (k : G p l e R s m args below meth c H locs cells slots Q (a0 :: a1 :: a2 :: a3 :: a4 :: a5 :: a6 :: a7 :: a8 :: a9 :: a10 :: a11 :: some (.int x) :: t) (pc + 2) (.int x :: st)) : G p l e R s m args below meth c H locs cells slots Q (a0 :: a1 :: a2 :: a3 :: a4 :: a5 :: a6 :: a7 :: a8 :: a9 :: a10 :: a11 :: some (.int x) :: t) pc st := fun ls h => lv_iload C.1 C.2.1 hd (G.load (i := 12) h rfl) (k ls h)
theorem g_istore12 (C : CX p s m args meth c cc own nL ret) {a0 a1 a2 a3 a4 a5 a6 a7 a8 a9 a10 a11 b : Option Value} {t : List (Option Value)} {x : Int32} (hc : c1 a11 = true) (hd : decode cc pc = .ok (.istore 12, 2)) (k : G p l e R s m args below meth c H locs cells slots Q (a0 :: a1 :: a2 :: a3 :: a4 :: a5 :: a6 :: a7 :: a8 :: a9 :: a10 :: a11 :: some (.int x) :: t) (pc + 2) st) : G p l e R s m args below meth c H locs cells slots Q (a0 :: a1 :: a2 :: a3 :: a4 :: a5 :: a6 :: a7 :: a8 :: a9 :: a10 :: a11 :: b :: t) pc (.int x :: st) := by
  intro ls h
  refine lv_istore C.1 C.2.1 hd h (by simp only [List.length_cons]; omega) rfl (fun ls2 h2 => k ls2 (G.sto (by simp only [List.length_cons]) ?_ h2))
  intro j w hw
  match j, hw with
  | 0, hw => exact Or.inr ⟨hw, by simp⟩
  | 1, hw => exact Or.inr ⟨hw, by simp⟩
  | 2, hw => exact Or.inr ⟨hw, by simp⟩
  | 3, hw => exact Or.inr ⟨hw, by simp⟩
  | 4, hw => exact Or.inr ⟨hw, by simp⟩
  | 5, hw => exact Or.inr ⟨hw, by simp⟩
  | 6, hw => exact Or.inr ⟨hw, by simp⟩
  | 7, hw => exact Or.inr ⟨hw, by simp⟩
  | 8, hw => exact Or.inr ⟨hw, by simp⟩
  | 9, hw => exact Or.inr ⟨hw, by simp⟩
  | 10, hw => exact Or.inr ⟨hw, by simp⟩
  | 11, hw =>
    have hw2 : a11 = some w := Option.some.inj hw
    subst hw2
    have hc2 : w.category = 1 := by simpa [c1] using hc
    exact Or.inr ⟨hw, by simp [hc2]⟩
  | 12, hw => exact Or.inl ⟨rfl, (Option.some.inj (Option.some.inj hw)).symm⟩
  | j + 13, hw => exact Or.inr ⟨hw, by first | (simp; done) | (simp; omega)⟩
theorem g_aload12 (C : CX p s m args meth c cc own nL ret) {a0 a1 a2 a3 a4 a5 a6 a7 a8 a9 a10 a11 : Option Value} {t : List (Option Value)} {x : Nat} (hd : decode cc pc = .ok (.aload 12, 2)) (k : G p l e R s m args below meth c H locs cells slots Q (a0 :: a1 :: a2 :: a3 :: a4 :: a5 :: a6 :: a7 :: a8 :: a9 :: a10 :: a11 :: some (.ref x) :: t) (pc + 2) (.ref x :: st)) : G p l e R s m args below meth c H locs cells slots Q (a0 :: a1 :: a2 :: a3 :: a4 :: a5 :: a6 :: a7 :: a8 :: a9 :: a10 :: a11 :: some (.ref x) :: t) pc st := fun ls h => lv_aload C.1 C.2.1 hd (G.load (i := 12) h rfl) (k ls h)
theorem g_astore12 (C : CX p s m args meth c cc own nL ret) {a0 a1 a2 a3 a4 a5 a6 a7 a8 a9 a10 a11 b : Option Value} {t : List (Option Value)} {x : Nat} (hc : c1 a11 = true) (hd : decode cc pc = .ok (.astore 12, 2)) (k : G p l e R s m args below meth c H locs cells slots Q (a0 :: a1 :: a2 :: a3 :: a4 :: a5 :: a6 :: a7 :: a8 :: a9 :: a10 :: a11 :: some (.ref x) :: t) (pc + 2) st) : G p l e R s m args below meth c H locs cells slots Q (a0 :: a1 :: a2 :: a3 :: a4 :: a5 :: a6 :: a7 :: a8 :: a9 :: a10 :: a11 :: b :: t) pc (.ref x :: st) := by
  intro ls h
  refine lv_astore C.1 C.2.1 hd h (by simp only [List.length_cons]; omega) rfl (fun ls2 h2 => k ls2 (G.sto (by simp only [List.length_cons]) ?_ h2))
  intro j w hw
  match j, hw with
  | 0, hw => exact Or.inr ⟨hw, by simp⟩
  | 1, hw => exact Or.inr ⟨hw, by simp⟩
  | 2, hw => exact Or.inr ⟨hw, by simp⟩
  | 3, hw => exact Or.inr ⟨hw, by simp⟩
  | 4, hw => exact Or.inr ⟨hw, by simp⟩
  | 5, hw => exact Or.inr ⟨hw, by simp⟩
  | 6, hw => exact Or.inr ⟨hw, by simp⟩
  | 7, hw => exact Or.inr ⟨hw, by simp⟩
  | 8, hw => exact Or.inr ⟨hw, by simp⟩
  | 9, hw => exact Or.inr ⟨hw, by simp⟩
  | 10, hw => exact Or.inr ⟨hw, by simp⟩
  | 11, hw =>
    have hw2 : a11 = some w := Option.some.inj hw
    subst hw2
    have hc2 : w.category = 1 := by simpa [c1] using hc
    exact Or.inr ⟨hw, by simp [hc2]⟩
  | 12, hw => exact Or.inl ⟨rfl, (Option.some.inj (Option.some.inj hw)).symm⟩
  | j + 13, hw => exact Or.inr ⟨hw, by first | (simp; done) | (simp; omega)⟩
theorem g_iinc12 (C : CX p s m args meth c cc own nL ret) {a0 a1 a2 a3 a4 a5 a6 a7 a8 a9 a10 a11 : Option Value} {t : List (Option Value)} {n : Int} {x : Int32} (v : Int32) (hc : c1 a11 = true) (hd : decode cc pc = .ok (.iinc 12 n, 3)) (hv : x + Int32.ofInt n = v) (k : G p l e R s m args below meth c H locs cells slots Q (a0 :: a1 :: a2 :: a3 :: a4 :: a5 :: a6 :: a7 :: a8 :: a9 :: a10 :: a11 :: some (.int v) :: t) (pc + 3) st) : G p l e R s m args below meth c H locs cells slots Q (a0 :: a1 :: a2 :: a3 :: a4 :: a5 :: a6 :: a7 :: a8 :: a9 :: a10 :: a11 :: some (.int x) :: t) pc st := by
  intro ls h
  obtain ⟨k0, hk0⟩ : ∃ k0 : Nat, (en 0 (a0 :: a1 :: a2 :: a3 :: a4 :: a5 :: a6 :: a7 :: a8 :: a9 :: a10 :: a11 :: some (.int x) :: t))[k0]? = some (12, .int x) := List.mem_iff_getElem?.mp (en_mem.mpr ⟨12, rfl, rfl⟩)
  refine lv_iinc (k := k0) (v := v) C.1 C.2.1 hd h hk0 hv (by simp only [List.length_cons]; omega) rfl (fun ls2 h2 => k ls2 (G.sto (by simp only [List.length_cons]) ?_ h2))
  intro j w hw
  match j, hw with
  | 0, hw => exact Or.inr ⟨hw, by simp⟩
  | 1, hw => exact Or.inr ⟨hw, by simp⟩
  | 2, hw => exact Or.inr ⟨hw, by simp⟩
  | 3, hw => exact Or.inr ⟨hw, by simp⟩
  | 4, hw => exact Or.inr ⟨hw, by simp⟩
  | 5, hw => exact Or.inr ⟨hw, by simp⟩
  | 6, hw => exact Or.inr ⟨hw, by simp⟩
  | 7, hw => exact Or.inr ⟨hw, by simp⟩
  | 8, hw => exact Or.inr ⟨hw, by simp⟩
  | 9, hw => exact Or.inr ⟨hw, by simp⟩
  | 10, hw => exact Or.inr ⟨hw, by simp⟩
  | 11, hw =>
    have hw2 : a11 = some w := Option.some.inj hw
    subst hw2
    have hc2 : w.category = 1 := by simpa [c1] using hc
    exact Or.inr ⟨hw, by simp [hc2]⟩
  | 12, hw => exact Or.inl ⟨rfl, (Option.some.inj (Option.some.inj hw)).symm⟩
  | j + 13, hw => exact Or.inr ⟨hw, by first | (simp; done) | (simp; omega)⟩
theorem g_iload13 (C : CX p s m args meth c cc own nL ret) {a0 a1 a2 a3 a4 a5 a6 a7 a8 a9 a10 a11 a12 : Option Value} {t : List (Option Value)} {x : Int32} (hd : decode cc pc = .ok (.iload 13, 2)) (k : G p l e R s m args below meth c H locs cells slots Q (a0 :: a1 :: a2 :: a3 :: a4 :: a5 :: a6 :: a7 :: a8 :: a9 :: a10 :: a11 :: a12 :: some (.int x) :: t) (pc + 2) (.int x :: st)) : G p l e R s m args below meth c H locs cells slots Q (a0 :: a1 :: a2 :: a3 :: a4 :: a5 :: a6 :: a7 :: a8 :: a9 :: a10 :: a11 :: a12 :: some (.int x) :: t) pc st := fun ls h => lv_iload C.1 C.2.1 hd (G.load (i := 13) h rfl) (k ls h)
theorem g_istore13 (C : CX p s m args meth c cc own nL ret) {a0 a1 a2 a3 a4 a5 a6 a7 a8 a9 a10 a11 a12 b : Option Value} {t : List (Option Value)} {x : Int32} (hc : c1 a12 = true) (hd : decode cc pc = .ok (.istore 13, 2)) (k : G p l e R s m args below meth c H locs cells slots Q (a0 :: a1 :: a2 :: a3 :: a4 :: a5 :: a6 :: a7 :: a8 :: a9 :: a10 :: a11 :: a12 :: some (.int x) :: t) (pc + 2) st) : G p l e R s m args below meth c H locs cells slots Q (a0 :: a1 :: a2 :: a3 :: a4 :: a5 :: a6 :: a7 :: a8 :: a9 :: a10 :: a11 :: a12 :: b :: t) pc (.int x :: st) := by
  intro ls h
  refine lv_istore C.1 C.2.1 hd h (by simp only [List.length_cons]; omega) rfl (fun ls2 h2 => k ls2 (G.sto (by simp only [List.length_cons]) ?_ h2))
  intro j w hw
  match j, hw with
  | 0, hw => exact Or.inr ⟨hw, by simp⟩
  | 1, hw => exact Or.inr ⟨hw, by simp⟩
  | 2, hw => exact Or.inr ⟨hw, by simp⟩
  | 3, hw => exact Or.inr ⟨hw, by simp⟩
  | 4, hw => exact Or.inr ⟨hw, by simp⟩
  | 5, hw => exact Or.inr ⟨hw, by simp⟩
  | 6, hw => exact Or.inr ⟨hw, by simp⟩
  | 7, hw => exact Or.inr ⟨hw, by simp⟩
  | 8, hw => exact Or.inr ⟨hw, by simp⟩
  | 9, hw => exact Or.inr ⟨hw, by simp⟩
  | 10, hw => exact Or.inr ⟨hw, by simp⟩
  | 11, hw => exact Or.inr ⟨hw, by simp⟩
  | 12, hw =>
    have hw2 : a12 = some w := Option.some.inj hw
    subst hw2
    have hc2 : w.category = 1 := by simpa [c1] using hc
    exact Or.inr ⟨hw, by simp [hc2]⟩
  | 13, hw => exact Or.inl ⟨rfl, (Option.some.inj (Option.some.inj hw)).symm⟩
  | j + 14, hw => exact Or.inr ⟨hw, by first | (simp; done) | (simp; omega)⟩
theorem g_aload13 (C : CX p s m args meth c cc own nL ret) {a0 a1 a2 a3 a4 a5 a6 a7 a8 a9 a10 a11 a12 : Option Value} {t : List (Option Value)} {x : Nat} (hd : decode cc pc = .ok (.aload 13, 2)) (k : G p l e R s m args below meth c H locs cells slots Q (a0 :: a1 :: a2 :: a3 :: a4 :: a5 :: a6 :: a7 :: a8 :: a9 :: a10 :: a11 :: a12 :: some (.ref x) :: t) (pc + 2) (.ref x :: st)) : G p l e R s m args below meth c H locs cells slots Q (a0 :: a1 :: a2 :: a3 :: a4 :: a5 :: a6 :: a7 :: a8 :: a9 :: a10 :: a11 :: a12 :: some (.ref x) :: t) pc st := fun ls h => lv_aload C.1 C.2.1 hd (G.load (i := 13) h rfl) (k ls h)
theorem g_astore13 (C : CX p s m args meth c cc own nL ret) {a0 a1 a2 a3 a4 a5 a6 a7 a8 a9 a10 a11 a12 b : Option Value} {t : List (Option Value)} {x : Nat} (hc : c1 a12 = true) (hd : decode cc pc = .ok (.astore 13, 2)) (k : G p l e R s m args below meth c H locs cells slots Q (a0 :: a1 :: a2 :: a3 :: a4 :: a5 :: a6 :: a7 :: a8 :: a9 :: a10 :: a11 :: a12 :: some (.ref x) :: t) (pc + 2) st) : G p l e R s m args below meth c H locs cells slots Q (a0 :: a1 :: a2 :: a3 :: a4 :: a5 :: a6 :: a7 :: a8 :: a9 :: a10 :: a11 :: a12 :: b :: t) pc (.ref x :: st) := by
  intro ls h
  refine lv_astore C.1 C.2.1 hd h (by simp only [List.length_cons]; omega) rfl (fun ls2 h2 => k ls2 (G.sto (by simp only [List.length_cons]) ?_ h2))
  intro j w hw
  match j, hw with
  | 0, hw => exact Or.inr ⟨hw, by simp⟩
  | 1, hw => exact Or.inr ⟨hw, by simp⟩
  | 2, hw => exact Or.inr ⟨hw, by simp⟩
  | 3, hw => exact Or.inr ⟨hw, by simp⟩
  | 4, hw => exact Or.inr ⟨hw, by simp⟩
  | 5, hw => exact Or.inr ⟨hw, by simp⟩
  | 6, hw => exact Or.inr ⟨hw, by simp⟩
  | 7, hw => exact Or.inr ⟨hw, by simp⟩
  | 8, hw => exact Or.inr ⟨hw, by simp⟩
  | 9, hw => exact Or.inr ⟨hw, by simp⟩
  | 10, hw => exact Or.inr ⟨hw, by simp⟩
  | 11, hw => exact Or.inr ⟨hw, by simp⟩
  | 12, hw =>
    have hw2 : a12 = some w := Option.some.inj hw
    subst hw2
    have hc2 : w.category = 1 := by simpa [c1] using hc
    exact Or.inr ⟨hw, by simp [hc2]⟩
  | 13, hw => exact Or.inl ⟨rfl, (Option.some.inj (Option.some.inj hw)).symm⟩
  | j + 14, hw => exact Or.inr ⟨hw, by first | (simp; done) | (simp; omega)⟩
theorem g_iinc13 (C : CX p s m args meth c cc own nL ret) {a0 a1 a2 a3 a4 a5 a6 a7 a8 a9 a10 a11 a12 : Option Value} {t : List (Option Value)} {n : Int} {x : Int32} (v : Int32) (hc : c1 a12 = true) (hd : decode cc pc = .ok (.iinc 13 n, 3)) (hv : x + Int32.ofInt n = v) (k : G p l e R s m args below meth c H locs cells slots Q (a0 :: a1 :: a2 :: a3 :: a4 :: a5 :: a6 :: a7 :: a8 :: a9 :: a10 :: a11 :: a12 :: some (.int v) :: t) (pc + 3) st) : G p l e R s m args below meth c H locs cells slots Q (a0 :: a1 :: a2 :: a3 :: a4 :: a5 :: a6 :: a7 :: a8 :: a9 :: a10 :: a11 :: a12 :: some (.int x) :: t) pc st := by
  intro ls h
  obtain ⟨k0, hk0⟩ : ∃ k0 : Nat, (en 0 (a0 :: a1 :: a2 :: a3 :: a4 :: a5 :: a6 :: a7 :: a8 :: a9 :: a10 :: a11 :: a12 :: some (.int x) :: t))[k0]? = some (13, .int x) := List.mem_iff_getElem?.mp (en_mem.mpr ⟨13, rfl, rfl⟩)
  refine lv_iinc (k := k0) (v := v) C.1 C.2.1 hd h hk0 hv (by simp only [List.length_cons]; omega) rfl (fun ls2 h2 => k ls2 (G.sto (by simp only [List.length_cons]) ?_ h2))
  intro j w hw
  match j, hw with
  | 0, hw => exact Or.inr ⟨hw, by simp⟩
  | 1, hw => exact Or.inr ⟨hw, by simp⟩
  | 2, hw => exact Or.inr ⟨hw, by simp⟩
  | 3, hw => exact Or.inr ⟨hw, by simp⟩
  | 4, hw => exact Or.inr ⟨hw, by simp⟩
  | 5, hw => exact Or.inr ⟨hw, by simp⟩
  | 6, hw => exact Or.inr ⟨hw, by simp⟩
  | 7, hw => exact Or.inr ⟨hw, by simp⟩
  | 8, hw => exact Or.inr ⟨hw, by simp⟩
  | 9, hw => exact Or.inr ⟨hw, by simp⟩
  | 10, hw => exact Or.inr ⟨hw, by simp⟩
  | 11, hw => exact Or.inr ⟨hw, by simp⟩
  | 12, hw =>
    have hw2 : a12 = some w := Option.some.inj hw
    subst hw2
    have hc2 : w.category = 1 := by simpa [c1] using hc
    exact Or.inr ⟨hw, by simp [hc2]⟩
  | 13, hw => exact Or.inl ⟨rfl, (Option.some.inj (Option.some.inj hw)).symm⟩
  | j + 14, hw => exact Or.inr ⟨hw, by first | (simp; done) | (simp; omega)⟩
theorem g_iload14 (C : CX p s m args meth c cc own nL ret) {a0 a1 a2 a3 a4 a5 a6 a7 a8 a9 a10 a11 a12 a13 : Option Value} {t : List (Option Value)} {x : Int32} (hd : decode cc pc = .ok (.iload 14, 2)) (k : G p l e R s m args below meth c H locs cells slots Q (a0 :: a1 :: a2 :: a3 :: a4 :: a5 :: a6 :: a7 :: a8 :: a9 :: a10 :: a11 :: a12 :: a13 :: some (.int x) :: t) (pc + 2) (.int x :: st)) : G p l e R s m args below meth c H locs cells slots Q (a0 :: a1 :: a2 :: a3 :: a4 :: a5 :: a6 :: a7 :: a8 :: a9 :: a10 :: a11 :: a12 :: a13 :: some (.int x) :: t) pc st := fun ls h => lv_iload C.1 C.2.1 hd (G.load (i := 14) h rfl) (k ls h)
theorem g_istore14 (C : CX p s m args meth c cc own nL ret) {a0 a1 a2 a3 a4 a5 a6 a7 a8 a9 a10 a11 a12 a13 b : Option Value} {t : List (Option Value)} {x : Int32} (hc : c1 a13 = true) (hd : decode cc pc = .ok (.istore 14, 2)) (k : G p l e R s m args below meth c H locs cells slots Q (a0 :: a1 :: a2 :: a3 :: a4 :: a5 :: a6 :: a7 :: a8 :: a9 :: a10 :: a11 :: a12 :: a13 :: some (.int x) :: t) (pc + 2) st) : G p l e R s m args below meth c H locs cells slots Q (a0 :: a1 :: a2 :: a3 :: a4 :: a5 :: a6 :: a7 :: a8 :: a9 :: a10 :: a11 :: a12 :: a13 :: b :: t) pc (.int x :: st) := by
  intro ls h
  refine lv_istore C.1 C.2.1 hd h (by simp only [List.length_cons]; omega) rfl (fun ls2 h2 => k ls2 (G.sto (by simp only [List.length_cons]) ?_ h2))
  intro j w hw
  match j, hw with
  | 0, hw => exact Or.inr ⟨hw, by simp⟩
  | 1, hw => exact Or.inr ⟨hw, by simp⟩
  | 2, hw => exact Or.inr ⟨hw, by simp⟩
  | 3, hw => exact Or.inr ⟨hw, by simp⟩
  | 4, hw => exact Or.inr ⟨hw, by simp⟩
  | 5, hw => exact Or.inr ⟨hw, by simp⟩
  | 6, hw => exact Or.inr ⟨hw, by simp⟩
  | 7, hw => exact Or.inr ⟨hw, by simp⟩
  | 8, hw => exact Or.inr ⟨hw, by simp⟩
  | 9, hw => exact Or.inr ⟨hw, by simp⟩
  | 10, hw => exact Or.inr ⟨hw, by simp⟩
  | 11, hw => exact Or.inr ⟨hw, by simp⟩
  | 12, hw => exact Or.inr ⟨hw, by simp⟩
  | 13, hw =>
    have hw2 : a13 = some w := Option.some.inj hw
    subst hw2
    have hc2 : w.category = 1 := by simpa [c1] using hc
    exact Or.inr ⟨hw, by simp [hc2]⟩
  | 14, hw => exact Or.inl ⟨rfl, (Option.some.inj (Option.some.inj hw)).symm⟩
  | j + 15, hw => exact Or.inr ⟨hw, by first | (simp; done) | (simp; omega)⟩
theorem g_aload14 (C : CX p s m args meth c cc own nL ret) {a0 a1 a2 a3 a4 a5 a6 a7 a8 a9 a10 a11 a12 a13 : Option Value} {t : List (Option Value)} {x : Nat} (hd : decode cc pc = .ok (.aload 14, 2)) (k : G p l e R s m args below meth c H locs cells slots Q (a0 :: a1 :: a2 :: a3 :: a4 :: a5 :: a6 :: a7 :: a8 :: a9 :: a10 :: a11 :: a12 :: a13 :: some (.ref x) :: t) (pc + 2) (.ref x :: st)) : G p l e R s m args below meth c H locs cells slots Q (a0 :: a1 :: a2 :: a3 :: a4 :: a5 :: a6 :: a7 :: a8 :: a9 :: a10 :: a11 :: a12 :: a13 :: some (.ref x) :: t) pc st := fun ls h => lv_aload C.1 C.2.1 hd (G.load (i := 14) h rfl) (k ls h)
theorem g_astore14 (C : CX p s m args meth c cc own nL ret) {a0 a1 a2 a3 a4 a5 a6 a7 a8 a9 a10 a11 a12 a13 b : Option Value} {t : List (Option Value)} {x : Nat} (hc : c1 a13 = true) (hd : decode cc pc = .ok (.astore 14, 2)) (k : G p l e R s m args below meth c H locs cells slots Q (a0 :: a1 :: a2 :: a3 :: a4 :: a5 :: a6 :: a7 :: a8 :: a9 :: a10 :: a11 :: a12 :: a13 :: some (.ref x) :: t) (pc + 2) st) : G p l e R s m args below meth c H locs cells slots Q (a0 :: a1 :: a2 :: a3 :: a4 :: a5 :: a6 :: a7 :: a8 :: a9 :: a10 :: a11 :: a12 :: a13 :: b :: t) pc (.ref x :: st) := by
  intro ls h
  refine lv_astore C.1 C.2.1 hd h (by simp only [List.length_cons]; omega) rfl (fun ls2 h2 => k ls2 (G.sto (by simp only [List.length_cons]) ?_ h2))
  intro j w hw
  match j, hw with
  | 0, hw => exact Or.inr ⟨hw, by simp⟩
  | 1, hw => exact Or.inr ⟨hw, by simp⟩
  | 2, hw => exact Or.inr ⟨hw, by simp⟩
  | 3, hw => exact Or.inr ⟨hw, by simp⟩
  | 4, hw => exact Or.inr ⟨hw, by simp⟩
  | 5, hw => exact Or.inr ⟨hw, by simp⟩
  | 6, hw => exact Or.inr ⟨hw, by simp⟩
  | 7, hw => exact Or.inr ⟨hw, by simp⟩
  | 8, hw => exact Or.inr ⟨hw, by simp⟩
  | 9, hw => exact Or.inr ⟨hw, by simp⟩
  | 10, hw => exact Or.inr ⟨hw, by simp⟩
  | 11, hw => exact Or.inr ⟨hw, by simp⟩
  | 12, hw => exact Or.inr ⟨hw, by simp⟩
  | 13, hw =>
    have hw2 : a13 = some w := Option.some.inj hw
    subst hw2
    have hc2 : w.category = 1 := by simpa [c1] using hc
    exact Or.inr ⟨hw, by simp [hc2]⟩
  | 14, hw => exact Or.inl ⟨rfl, (Option.some.inj (Option.some.inj hw)).symm⟩
  | j + 15, hw => exact Or.inr ⟨hw, by first | (simp; done) | (simp; omega)⟩
theorem g_iinc14 (C : CX p s m args meth c cc own nL ret) {a0 a1 a2 a3 a4 a5 a6 a7 a8 a9 a10 a11 a12 a13 : Option Value} {t : List (Option Value)} {n : Int} {x : Int32} (v : Int32) (hc : c1 a13 = true) (hd : decode cc pc = .ok (.iinc 14 n, 3)) (hv : x + Int32.ofInt n = v) (k : G p l e R s m args below meth c H locs cells slots Q (a0 :: a1 :: a2 :: a3 :: a4 :: a5 :: a6 :: a7 :: a8 :: a9 :: a10 :: a11 :: a12 :: a13 :: some (.int v) :: t) (pc + 3) st) : G p l e R s m args below meth c H locs cells slots Q (a0 :: a1 :: a2 :: a3 :: a4 :: a5 :: a6 :: a7 :: a8 :: a9 :: a10 :: a11 :: a12 :: a13 :: some (.int x) :: t) pc st := by
  intro ls h
  obtain ⟨k0, hk0⟩ : ∃ k0 : Nat, (en 0 (a0 :: a1 :: a2 :: a3 :: a4 :: a5 :: a6 :: a7 :: a8 :: a9 :: a10 :: a11 :: a12 :: a13 :: some (.int x) :: t))[k0]? = some (14, .int x) := List.mem_iff_getElem?.mp (en_mem.mpr ⟨14, rfl, rfl⟩)
  refine lv_iinc (k := k0) (v := v) C.1 C.2.1 hd h hk0 hv (by simp only [List.length_cons]; omega) rfl (fun ls2 h2 => k ls2 (G.sto (by simp only [List.length_cons]) ?_ h2))
  intro j w hw
  match j, hw with
  | 0, hw => exact Or.inr ⟨hw, by simp⟩
  | 1, hw => exact Or.inr ⟨hw, by simp⟩
  | 2, hw => exact Or.inr ⟨hw, by simp⟩
  | 3, hw => exact Or.inr ⟨hw, by simp⟩
  | 4, hw => exact Or.inr ⟨hw, by simp⟩
  | 5, hw => exact Or.inr ⟨hw, by simp⟩
  | 6, hw => exact Or.inr ⟨hw, by simp⟩
  | 7, hw => exact Or.inr ⟨hw, by simp⟩
  | 8, hw => exact Or.inr ⟨hw, by simp⟩
  | 9, hw => exact Or.inr ⟨hw, by simp⟩
  | 10, hw => exact Or.inr ⟨hw, by simp⟩
  | 11, hw => exact Or.inr ⟨hw, by simp⟩
  | 12, hw => exact Or.inr ⟨hw, by simp⟩
  | 13, hw =>
    have hw2 : a13 = some w := Option.some.inj hw
    subst hw2
    have hc2 : w.category = 1 := by simpa [c1] using hc
    exact Or.inr ⟨hw, by simp [hc2]⟩
  | 14, hw => exact Or.inl ⟨rfl, (Option.some.inj (Option.some.inj hw)).symm⟩
  | j + 15, hw => exact Or.inr ⟨hw, by first | (simp; done) | (simp; omega)⟩
theorem g_iload15 (C : CX p s m args meth c cc own nL ret) {a0 a1 a2 a3 a4 a5 a6 a7 a8 a9 a10 a11 a12 a13 a14 : Option Value} {t : List (Option Value)} {x : Int32} (hd : decode cc pc = .ok (.iload 15, 2)) (k : G p l e R s m args below meth c H locs cells slots Q (a0 :: a1 :: a2 :: a3 :: a4 :: a5 :: a6 :: a7 :: a8 :: a9 :: a10 :: a11 :: a12 :: a13 :: a14 :: some (.int x) :: t) (pc + 2) (.int x :: st)) : G p l e R s m args below meth c H locs cells slots Q (a0 :: a1 :: a2 :: a3 :: a4 :: a5 :: a6 :: a7 :: a8 :: a9 :: a10 :: a11 :: a12 :: a13 :: a14 :: some (.int x) :: t) pc st := fun ls h => lv_iload C.1 C.2.1 hd (G.load (i := 15) h rfl) (k ls h)
theorem g_istore15 (C : CX p s m args meth c cc own nL ret) {a0 a1 a2 a3 a4 a5 a6 a7 a8 a9 a10 a11 a12 a13 a14 b : Option Value} {t : List (Option Value)} {x : Int32} (hc : c1 a14 = true) (hd : decode cc pc = .ok (.istore 15, 2)) (k : G p l e R s m args below meth c H locs cells slots Q (a0 :: a1 :: a2 :: a3 :: a4 :: a5 :: a6 :: a7 :: a8 :: a9 :: a10 :: a11 :: a12 :: a13 :: a14 :: some (.int x) :: t) (pc + 2) st) : G p l e R s m args below meth c H locs cells slots Q (a0 :: a1 :: a2 :: a3 :: a4 :: a5 :: a6 :: a7 :: a8 :: a9 :: a10 :: a11 :: a12 :: a13 :: a14 :: b :: t) pc (.int x :: st) := by
  intro ls h
  refine lv_istore C.1 C.2.1 hd h (by simp only [List.length_cons]; omega) rfl (fun ls2 h2 => k ls2 (G.sto (by simp only [List.length_cons]) ?_ h2))
  intro j w hw
  match j, hw with
  | 0, hw => exact Or.inr ⟨hw, by simp⟩
  | 1, hw => exact Or.inr ⟨hw, by simp⟩
  | 2, hw => exact Or.inr ⟨hw, by simp⟩
  | 3, hw => exact Or.inr ⟨hw, by simp⟩
  | 4, hw => exact Or.inr ⟨hw, by simp⟩
  | 5, hw => exact Or.inr ⟨hw, by simp⟩
  | 6, hw => exact Or.inr ⟨hw, by simp⟩
  | 7, hw => exact Or.inr ⟨hw, by simp⟩
  | 8, hw => exact Or.inr ⟨hw, by simp⟩
  | 9, hw => exact Or.inr ⟨hw, by simp⟩
  | 10, hw => exact Or.inr ⟨hw, by simp⟩
  | 11, hw => exact Or.inr ⟨hw, by simp⟩
  | 12, hw => exact Or.inr ⟨hw, by simp⟩
  | 13, hw => exact Or.inr ⟨hw, by simp⟩
  | 14, hw =>
    have hw2 : a14 = some w := Option.some.inj hw
    subst hw2
    have hc2 : w.category = 1 := by simpa [c1] using hc
    exact Or.inr ⟨hw, by simp [hc2]⟩
  | 15, hw => exact Or.inl ⟨rfl, (Option.some.inj (Option.some.inj hw)).symm⟩
  | j + 16, hw => exact Or.inr ⟨hw, by first | (simp; done) | (simp; omega)⟩
theorem g_aload15 (C : CX p s m args meth c cc own nL ret) {a0 a1 a2 a3 a4 a5 a6 a7 a8 a9 a10 a11 a12 a13 a14 : Option Value} {t : List (Option Value)} {x : Nat} (hd : decode cc pc = .ok (.aload 15, 2)) (k : G p l e R s m args below meth c H locs cells slots Q (a0 :: a1 :: a2 :: a3 :: a4 :: a5 :: a6 :: a7 :: a8 :: a9 :: a10 :: a11 :: a12 :: a13 :: a14 :: some (.ref x) :: t) (pc + 2) (.ref x :: st)) : G p l e R s m args below meth c H locs cells slots Q (a0 :: a1 :: a2 :: a3 :: a4 :: a5 :: a6 :: a7 :: a8 :: a9 :: a10 :: a11 :: a12 :: a13 :: a14 :: some (.ref x) :: t) pc st := fun ls h => lv_aload C.1 C.2.1 hd (G.load (i := 15) h rfl) (k ls h)
theorem g_astore15 (C : CX p s m args meth c cc own nL ret) {a0 a1 a2 a3 a4 a5 a6 a7 a8 a9 a10 a11 a12 a13 a14 b : Option Value} {t : List (Option Value)} {x : Nat} (hc : c1 a14 = true) (hd : decode cc pc = .ok (.astore 15, 2)) (k : G p l e R s m args below meth c H locs cells slots Q (a0 :: a1 :: a2 :: a3 :: a4 :: a5 :: a6 :: a7 :: a8 :: a9 :: a10 :: a11 :: a12 :: a13 :: a14 :: some (.ref x) :: t) (pc + 2) st) : G p l e R s m args below meth c H locs cells slots Q (a0 :: a1 :: a2 :: a3 :: a4 :: a5 :: a6 :: a7 :: a8 :: a9 :: a10 :: a11 :: a12 :: a13 :: a14 :: b :: t) pc (.ref x :: st) := by
  intro ls h
  refine lv_astore C.1 C.2.1 hd h (by simp only [List.length_cons]; omega) rfl (fun ls2 h2 => k ls2 (G.sto (by simp only [List.length_cons]) ?_ h2))
  intro j w hw
  match j, hw with
  | 0, hw => exact Or.inr ⟨hw, by simp⟩
  | 1, hw => exact Or.inr ⟨hw, by simp⟩
  | 2, hw => exact Or.inr ⟨hw, by simp⟩
  | 3, hw => exact Or.inr ⟨hw, by simp⟩
  | 4, hw => exact Or.inr ⟨hw, by simp⟩
  | 5, hw => exact Or.inr ⟨hw, by simp⟩
  | 6, hw => exact Or.inr ⟨hw, by simp⟩
  | 7, hw => exact Or.inr ⟨hw, by simp⟩
  | 8, hw => exact Or.inr ⟨hw, by simp⟩
  | 9, hw => exact Or.inr ⟨hw, by simp⟩
  | 10, hw => exact Or.inr ⟨hw, by simp⟩
  | 11, hw => exact Or.inr ⟨hw, by simp⟩
  | 12, hw => exact Or.inr ⟨hw, by simp⟩
  | 13, hw => exact Or.inr ⟨hw, by simp⟩
  | 14, hw =>
    have hw2 : a14 = some w := Option.some.inj hw
    subst hw2
    have hc2 : w.category = 1 := by simpa [c1] using hc
    exact Or.inr ⟨hw, by simp [hc2]⟩
  | 15, hw => exact Or.inl ⟨rfl, (Option.some.inj (Option.some.inj hw)).symm⟩
  | j + 16, hw => exact Or.inr ⟨hw, by first | (simp; done) | (simp; omega)⟩
theorem g_iinc15 (C : CX p s m args meth c cc own nL ret) {a0 a1 a2 a3 a4 a5 a6 a7 a8 a9 a10 a11 a12 a13 a14 : Option Value} {t : List (Option Value)} {n : Int} {x : Int32} (v : Int32) (hc : c1 a14 = true) (hd : decode cc pc = .ok (.iinc 15 n, 3)) (hv : x + Int32.ofInt n = v) (k : G p l e R s m args below meth c H locs cells slots Q (a0 :: a1 :: a2 :: a3 :: a4 :: a5 :: a6 :: a7 :: a8 :: a9 :: a10 :: a11 :: a12 :: a13 :: a14 :: some (.int v) :: t) (pc + 3) st) : G p l e R s m args below meth c H locs cells slots Q (a0 :: a1 :: a2 :: a3 :: a4 :: a5 :: a6 :: a7 :: a8 :: a9 :: a10 :: a11 :: a12 :: a13 :: a14 :: some (.int x) :: t) pc st := by
  intro ls h
  obtain ⟨k0, hk0⟩ : ∃ k0 : Nat, (en 0 (a0 :: a1 :: a2 :: a3 :: a4 :: a5 :: a6 :: a7 :: a8 :: a9 :: a10 :: a11 :: a12 :: a13 :: a14 :: some (.int x) :: t))[k0]? = some (15, .int x) := List.mem_iff_getElem?.mp (en_mem.mpr ⟨15, rfl, rfl⟩)
  refine lv_iinc (k := k0) (v := v) C.1 C.2.1 hd h hk0 hv (by simp only [List.length_cons]; omega) rfl (fun ls2 h2 => k ls2 (G.sto (by simp only [List.length_cons]) ?_ h2))
  intro j w hw
  match j, hw with
  | 0, hw => exact Or.inr ⟨hw, by simp⟩
  | 1, hw => exact Or.inr ⟨hw, by simp⟩
  | 2, hw => exact Or.inr ⟨hw, by simp⟩
  | 3, hw => exact Or.inr ⟨hw, by simp⟩
  | 4, hw => exact Or.inr ⟨hw, by simp⟩
  | 5, hw => exact Or.inr ⟨hw, by simp⟩
  | 6, hw => exact Or.inr ⟨hw, by simp⟩
  | 7, hw => exact Or.inr ⟨hw, by simp⟩
  | 8, hw => exact Or.inr ⟨hw, by simp⟩
  | 9, hw => exact Or.inr ⟨hw, by simp⟩
  | 10, hw => exact Or.inr ⟨hw, by simp⟩
  | 11, hw => exact Or.inr ⟨hw, by simp⟩
  | 12, hw => exact Or.inr ⟨hw, by simp⟩
  | 13, hw => exact Or.inr ⟨hw, by simp⟩
  | 14, hw =>
    have hw2 : a14 = some w := Option.some.inj hw
    subst hw2
    have hc2 : w.category = 1 := by simpa [c1] using hc
    exact Or.inr ⟨hw, by simp [hc2]⟩
  | 15, hw => exact Or.inl ⟨rfl, (Option.some.inj (Option.some.inj hw)).symm⟩
  | j + 16, hw => exact Or.inr ⟨hw, by first | (simp; done) | (simp; omega)⟩
theorem g_ishl (C : CX p s m args meth c cc own nL ret) {x y : Int32} (hd : decode cc pc = .ok (.ishl, 1)) (k : G p l e R s m args below meth c H locs cells slots Q vs (pc + 1) (.int (x <<< (y &&& 31)) :: st)) : G p l e R s m args below meth c H locs cells slots Q vs pc (.int y :: .int x :: st) := fun ls h => lv_ishl C.1 C.2.1 hd (k ls h)
theorem g_ishr (C : CX p s m args meth c cc own nL ret) {x y : Int32} (hd : decode cc pc = .ok (.ishr, 1)) (k : G p l e R s m args below meth c H locs cells slots Q vs (pc + 1) (.int (x >>> (y &&& 31)) :: st)) : G p l e R s m args below meth c H locs cells slots Q vs pc (.int y :: .int x :: st) := fun ls h => lv_ishr C.1 C.2.1 hd (k ls h)
theorem g_ior (C : CX p s m args meth c cc own nL ret) {x y : Int32} (hd : decode cc pc = .ok (.ior, 1)) (k : G p l e R s m args below meth c H locs cells slots Q vs (pc + 1) (.int (x ||| y) :: st)) : G p l e R s m args below meth c H locs cells slots Q vs pc (.int y :: .int x :: st) := fun ls h => lv_ior C.1 C.2.1 hd (k ls h)
theorem g_iushr (C : CX p s m args meth c cc own nL ret) {x y : Int32} (v : Int32) (hv : (x.toUInt32 >>> (y.toUInt32 &&& Int32.toUInt32 31)).toInt32 = v) (hd : decode cc pc = .ok (.iushr, 1)) (k : G p l e R s m args below meth c H locs cells slots Q vs (pc + 1) (.int v :: st)) : G p l e R s m args below meth c H locs cells slots Q vs pc (.int y :: .int x :: st) := fun ls h => lv_iushr C.1 C.2.1 hd hv (k ls h)
theorem g_lshr (C : CX p s m args meth c cc own nL ret) {x : Int64} {y : Int32} (hd : decode cc pc = .ok (.lshr, 1)) (k : G p l e R s m args below meth c H locs cells slots Q vs (pc + 1) (.long (x >>> (y.toInt64 &&& 63)) :: st)) : G p l e R s m args below meth c H locs cells slots Q vs pc (.int y :: .long x :: st) := fun ls h => lv_lshr C.1 C.2.1 hd rfl (k ls h)
theorem g_lshl2 (C : CX p s m args meth c cc own nL ret) {x : Int64} {y : Int32} (hd : decode cc pc = .ok (.lshl, 1)) (k : G p l e R s m args below meth c H locs cells slots Q vs (pc + 1) (.long (x <<< (y.toInt64 &&& 63)) :: st)) : G p l e R s m args below meth c H locs cells slots Q vs pc (.int y :: .long x :: st) := fun ls h => lv_lshl C.1 C.2.1 hd rfl (k ls h)
theorem g_ldc (C : CX p s m args meth c cc own nL ret) {index : Nat} (v : Int32) (hw : Cond.constant own index v ∈ WG) (hd : decode cc pc = .ok (.ldc index, 2)) (k : G p l e R s m args below meth c H locs cells slots Q vs (pc + 2) (.int v :: st)) : G p l e R s m args below meth c H locs cells slots Q vs pc st := fun ls h => lv_ldc C.1 C.2.1 C.2.2.2.1 (C.2.2.2.2.1 _ hw) hd (k ls h)
theorem g_topr {v w : Value} (h : v = w) (k : G p l e R s m args below meth c H locs cells slots Q vs pc (w :: st)) : G p l e R s m args below meth c H locs cells slots Q vs pc (v :: st) := h ▸ k
section GH2
variable {D : va_G} {cl : List vw_C} {A : Nat → Prop} {tys : List (ClassId × FieldType)} {ws : va_W} {H0 : Heap} {cI cL cJ : ClassId}
theorem g_laldq (C : CX p s m args meth c cc own nL ret) {a : Nat} (hK : va_K D cl tys s) (hP : va_P D cl ws H) (q0 t0 : Nat) {cA : ClassId} {n : Nat} {f : Nat → Int64} (ha : ws[q0]? = some (a, .inl (cA, n, .inr (.inl f)))) (ht : tys[t0]? = some (cA, .long)) {i : Nat} (hi : i < n) (hn : n < 2147483648) (hd : decode cc pc = .ok (.laload, 1))
    (kk : G p l e R s m args below meth c H locs cells slots Q vs (pc + 1) (.long (f i) :: st)) : G p l e R s m args below meth c H locs cells slots Q vs pc (.int (nI i) :: .ref a :: st) := by
  have e : (nI i).toNatClampNeg = i := nI_clamp (Nat.lt_trans hi hn)
  intro ls h
  refine va_lald C.1 C.2.1 hK hP q0 t0 ha ht (vp_in_nI hi hn) hd ?_
  rw [e]
  exact kk ls h
theorem g_lastq (C : CX p s m args meth c cc own nL ret) {a : Nat} (hK : va_K D cl tys s) (hP : va_P D cl ws H) (hD : va_D A ws) (hS : va_S A H0 H locs) (q0 t0 : Nat) {cA : ClassId} {n : Nat} {f : Nat → Int64} (ha : ws[q0]? = some (a, .inl (cA, n, .inr (.inl f)))) (ht : tys[t0]? = some (cA, .long)) {i : Nat} {x : Int64} (hi : i < n) (hn : n < 2147483648) (hd : decode cc pc = .ok (.lastore, 1))
    (kk : ∀ (H1 : Heap) (locs1 : List Loc), va_P D cl (ws.set q0 (a, .inl (cA, n, .inr (.inl (vp_updL f i x))))) H1 → va_D A (ws.set q0 (a, .inl (cA, n, .inr (.inl (vp_updL f i x))))) → va_S A H0 H1 locs1 → G p l e R s m args below meth c H1 locs1 cells slots Q vs (pc + 1) st) : G p l e R s m args below meth c H locs cells slots Q vs pc (.long x :: .int (nI i) :: .ref a :: st) := by
  have e : (nI i).toNatClampNeg = i := nI_clamp (Nat.lt_trans hi hn)
  intro ls h
  refine va_last C.1 C.2.1 hK hP hD hS q0 t0 ha ht (vp_in_nI hi hn) hd ?_
  rw [e]
  exact fun H1 locs1 h1 h2 h3 => kk H1 locs1 h1 h2 h3 ls h
end GH2
end GA2
