/-! the class's world: its object, the row of saved Ledgers, the buffer; the Ledger now; the reader; six saved Ledgers -/
theorem va_P_mem {D : va_G} {cl : List vw_C} {ws : va_W} {H : Heap} : va_P D cl ws H ↔ ∀ q ∈ ws, va_at D cl q H := by
  constructor
  · intro h q hq
    obtain ⟨i, hi⟩ := List.getElem?_of_mem hq
    exact h i q hi
  · intro h k q hk
    exact h q (List.mem_of_getElem? hk)
theorem va_D_iff {A : Nat → Prop} {ws : va_W} : va_D A ws ↔ ((ws.map Prod.fst).Nodup ∧ ∀ q ∈ ws, A q.1) := by
  constructor
  · intro h
    refine ⟨List.pairwise_iff_getElem.mpr (fun i j hi hj hij e => ?_), fun q hq => ?_⟩
    · rw [List.length_map] at hi hj
      rw [List.getElem_map, List.getElem_map] at e
      have := h.1 i j ws[i] ws[j] (List.getElem?_eq_getElem hi) (List.getElem?_eq_getElem hj) e
      omega
    · obtain ⟨i, hi⟩ := List.getElem?_of_mem hq
      exact h.2 i q hi
  · rintro ⟨h1, h2⟩
    refine ⟨fun i j p q hi hj hpq => ?_, fun k q hk => h2 q (List.mem_of_getElem? hk)⟩
    obtain ⟨li, ei⟩ := List.getElem?_eq_some_iff.mp hi
    obtain ⟨lj, ej⟩ := List.getElem?_eq_some_iff.mp hj
    have hp := List.pairwise_iff_getElem.mp h1
    rcases Nat.lt_trichotomy i j with h | h | h
    · exact absurd (by rw [List.getElem_map, List.getElem_map, ei, ej, hpq]) (hp i j (by rw [List.length_map]; exact li) (by rw [List.length_map]; exact lj) h)
    · exact h
    · exact absurd (by rw [List.getElem_map, List.getElem_map, ei, ej, hpq]) (hp j i (by rw [List.length_map]; exact lj) (by rw [List.length_map]; exact li) h)
theorem P_perm {D : va_G} {cl : List vw_C} {ws ws' : va_W} {H : Heap} (h : ws.Perm ws') (hP : va_P D cl ws H) : va_P D cl ws' H := va_P_mem.mpr (fun q hq => va_P_mem.mp hP q (h.mem_iff.mpr hq))
theorem D_perm {A : Nat → Prop} {ws ws' : va_W} (h : ws.Perm ws') (hD : va_D A ws) : va_D A ws' := by
  obtain ⟨h1, h2⟩ := va_D_iff.mp hD
  exact va_D_iff.mpr ⟨(h.map Prod.fst).nodup_iff.mp h1, fun q hq => h2 q (h.mem_iff.mpr hq)⟩
theorem P_l {D : va_G} {cl : List vw_C} {u v : va_W} {H : Heap} (hP : va_P D cl (u ++ v) H) : va_P D cl u H := va_P_mem.mpr (fun q hq => va_P_mem.mp hP q (List.mem_append_left _ hq))
theorem P_r {D : va_G} {cl : List vw_C} {u v : va_W} {H : Heap} (hP : va_P D cl (u ++ v) H) : va_P D cl v H := va_P_mem.mpr (fun q hq => va_P_mem.mp hP q (List.mem_append_right _ hq))
theorem D_l {A : Nat → Prop} {u v : va_W} (hD : va_D A (u ++ v)) : va_D (fun q => q ∈ u.map Prod.fst) u ∧ ∀ q, q ∈ u.map Prod.fst → A q := by
  obtain ⟨h1, h2⟩ := va_D_iff.mp hD
  rw [List.map_append] at h1
  refine ⟨va_D_iff.mpr ⟨(List.nodup_append.mp h1).1, fun q hq => List.mem_map.mpr ⟨q, hq, rfl⟩⟩, fun q hq => ?_⟩
  obtain ⟨z, hz, rfl⟩ := List.mem_map.mp hq
  exact h2 z (List.mem_append_left _ hz)
/-- one part of a world changed, the rest kept -/
theorem PD_join {D : va_G} {cl : List vw_C} {A : Nat → Prop} {v v' w : va_W} {H H1 : Heap} (hP : va_P D cl (v ++ w) H) (hD : va_D A (v ++ w)) (hv : va_P D cl v' H1) (he : (v'.map Prod.fst).Perm (v.map Prod.fst)) (hk : ∀ q : Nat, q < H.size → ¬ q ∈ v.map Prod.fst → H1[q]? = H[q]?) : va_P D cl (v' ++ w) H1 ∧ va_D A (v' ++ w) := by
  obtain ⟨h1, h2⟩ := va_D_iff.mp hD
  rw [List.map_append] at h1
  obtain ⟨n1, n2, n3⟩ := List.nodup_append.mp h1
  refine ⟨va_P_mem.mpr (fun q hq => ?_), va_D_iff.mpr ⟨?_, fun q hq => ?_⟩⟩
  · rcases List.mem_append.mp hq with hq | hq
    · exact va_P_mem.mp hv q hq
    · have hq2 := va_P_mem.mp hP q (List.mem_append_right _ hq)
      refine hq2.kept (hk q.1 hq2.lt (fun z => ?_))
      exact n3 q.1 z q.1 (List.mem_map.mpr ⟨q, hq, rfl⟩) rfl
  · rw [List.map_append]
    exact (he.append_right _).nodup_iff.mpr h1
  · rcases List.mem_append.mp hq with hq | hq
    · have hz : q.1 ∈ v.map Prod.fst := he.mem_iff.mp (List.mem_map.mpr ⟨q, hq, rfl⟩)
      obtain ⟨z, hz, e⟩ := List.mem_map.mp hz
      rw [← e]
      exact h2 z (List.mem_append_left _ hz)
    · exact h2 q (List.mem_append_right _ hq)
/-- a Ledger: where it lies, its rows, its year, its ground, what is reached -/
abbrev LO : Type := Nat × (Nat → Nat) × Int32 × RW × Int64
abbrev LWo (cI : ClassId) (x : LO) : va_W := LW cI x.1 x.2.1 x.2.2.1 x.2.2.2.1 x.2.2.2.2
def SW (cI : ClassId) (sv : Nat → LO) : va_W := LWo cI (sv 0) ++ (LWo cI (sv 1) ++ (LWo cI (sv 2) ++ (LWo cI (sv 3) ++ (LWo cI (sv 4) ++ LWo cI (sv 5)))))
abbrev svg (sv : Nat → LO) : Nat → Option Nat := fun j => some (sv j).1
abbrev BM (cI cL : ClassId) (o sa ba a e n len : Nat) (g : Nat → Option Nat) (tx : Nat → Int32) : va_W := [(o, .inr (2, [.ref a, .ref sa, .int (nI n), .ref ba, .int (nI len), .ref e])), (sa, .inl (cL, 6, .inr (.inr (.inr (.inr g))))), (ba, .inl (cI, 60, .inl tx))]
abbrev BW (cI cL : ClassId) (o sa ba a e : Nat) (t : Nat → Nat) (n len : Nat) (g : Nat → Option Nat) (tx : Nat → Int32) (y : Int32) (d : RW) (r : Int64) (x : PS) (sv : Nat → LO) : va_W := BM cI cL o sa ba a e n len g tx ++ (LW cI a t y d r ++ (XW e x ++ SW cI sv))
def BDM (dC : Nat → ClassId) (dI : Nat → Nat → Nat) (cI cL cJ : ClassId) (g1 g2 : Nat) (A : Nat → Prop) (o sa ba a e : Nat) (t : Nat → Nat) (n len : Nat) (tx : Nat → Int32) (y : Int32) (d : RW) (r : Int64) (x : PS) (sv : Nat → LO) (U : State) : Prop :=
  va_P (dC, dI) vwCl (BW cI cL o sa ba a e t n len (svg sv) tx y d r x sv) U.heap ∧ va_D A (BW cI cL o sa ba a e t n len (svg sv) tx y d r x sv) ∧ EV dC dI cI cL cJ U ∧ ST g1 g2 A U U.heap ∧ XE A U U.heap
def BP (dC : Nat → ClassId) (dI : Nat → Nat → Nat) (cI cL : ClassId) (A : Nat → Prop) (o sa ba a e : Nat) (t : Nat → Nat) (n len : Nat) (tx : Nat → Int32) (y : Int32) (d : RW) (r : Int64) (x : PS) (sv : Nat → LO) (H : Heap) : Prop :=
  va_P (dC, dI) vwCl (BW cI cL o sa ba a e t n len (svg sv) tx y d r x sv) H ∧ va_D A (BW cI cL o sa ba a e t n len (svg sv) tx y d r x sv)
section WG2
variable {s : State} {H H1 : Heap} {locs : List Loc} {A : Nat → Prop} {dC : Nat → ClassId} {dI : Nat → Nat → Nat} {cI cL cJ : ClassId} {g1 g2 : Nat} {o sa ba a e : Nat} {t : Nat → Nat} {n len : Nat} {g : Nat → Option Nat} {tx : Nat → Int32} {y y' : Int32} {d d' : RW} {r r' : Int64} {x x' : PS} {sv : Nat → LO}
theorem BDM_bl : Bl (BDM dC dI cI cL cJ g1 g2 A o sa ba a e t n len tx y d r x sv) := fun U g mk v h =>
  ⟨h.1, h.2.1, va_K.moved (u := U) (U := U.calling g mk v) (Vm.Alike.refl U.vm) h.2.2.1, h.2.2.2.1.moved (u := U) (U := U.calling g mk v) (Vm.Alike.refl U.vm), XE.bl U g mk v h.2.2.2.2⟩
theorem BDM_at {A0 : Nat → Prop} (hK : EV dC dI cI cL cJ s) (hP : va_P (dC, dI) vwCl (BW cI cL o sa ba a e t n len (svg sv) tx y d r x sv) H) (hD : va_D A (BW cI cL o sa ba a e t n len (svg sv) tx y d r x sv)) (hZ : ST g1 g2 A0 s s.heap) (hX : XE A0 s s.heap) (hS : va_S A0 s.heap H locs) (hA : ∀ q, A q → A0 q) : ∀ U : State, U.heap = H → s.WarmedH U.vm → BDM dC dI cI cL cJ g1 g2 A o sa ba a e t n len tx y d r x sv U := by
  intro U hU hW
  have h1 := hX.at hS hU hW
  subst hU
  exact ⟨hP, hD, va_K.moved hW.alike hK, ((hZ.kept hS.2.1).moved hW.alike).narrow hA, h1.narrow hA⟩
theorem pm_now (cI cL : ClassId) (o sa ba a e n len : Nat) (t : Nat → Nat) (g : Nat → Option Nat) (tx : Nat → Int32) (y : Int32) (d : RW) (r : Int64) (x : PS) (sv : Nat → LO) : (BW cI cL o sa ba a e t n len g tx y d r x sv).Perm (LW cI a t y d r ++ (BM cI cL o sa ba a e n len g tx ++ (XW e x ++ SW cI sv))) := List.perm_append_comm_assoc _ _ _
theorem pm_rdr (cI cL : ClassId) (o sa ba a e n len : Nat) (t : Nat → Nat) (g : Nat → Option Nat) (tx : Nat → Int32) (y : Int32) (d : RW) (r : Int64) (x : PS) (sv : Nat → LO) : (BW cI cL o sa ba a e t n len g tx y d r x sv).Perm (XW e x ++ (BM cI cL o sa ba a e n len g tx ++ (LW cI a t y d r ++ SW cI sv))) :=
  ((List.perm_append_comm_assoc (LW cI a t y d r) (XW e x) (SW cI sv)).append_left _).trans (List.perm_append_comm_assoc _ _ _)
/-! the Ledger now, cut out and put back -/
theorem P_n (hP : va_P (dC, dI) vwCl (BW cI cL o sa ba a e t n len g tx y d r x sv) H) : va_P (dC, dI) vwCl (LW cI a t y d r) H := P_l (P_perm (pm_now ..) hP)
theorem D_n (hD : va_D A (BW cI cL o sa ba a e t n len g tx y d r x sv)) : va_D (fun q => q ∈ LA a t) (LW cI a t y d r) := (D_l (D_perm (pm_now ..) hD)).1
theorem A_n (hD : va_D A (BW cI cL o sa ba a e t n len g tx y d r x sv)) : ∀ q, q ∈ LA a t → A q := (D_l (D_perm (pm_now ..) hD)).2
theorem PD_n (hP : va_P (dC, dI) vwCl (BW cI cL o sa ba a e t n len g tx y d r x sv) H) (hD : va_D A (BW cI cL o sa ba a e t n len g tx y d r x sv)) (hv : va_P (dC, dI) vwCl (LW cI a t y' d' r') H1) (hk : ∀ q : Nat, q < H.size → ¬ q ∈ LA a t → H1[q]? = H[q]?) : va_P (dC, dI) vwCl (BW cI cL o sa ba a e t n len g tx y' d' r' x sv) H1 ∧ va_D A (BW cI cL o sa ba a e t n len g tx y' d' r' x sv) := by
  obtain ⟨h1, h2⟩ := PD_join (P_perm (pm_now ..) hP) (D_perm (pm_now ..) hD) hv (List.Perm.refl _) hk
  exact ⟨P_perm (pm_now ..).symm h1, D_perm (pm_now ..).symm h2⟩
/-! the reader -/
theorem P_x (hP : va_P (dC, dI) vwCl (BW cI cL o sa ba a e t n len g tx y d r x sv) H) : va_P (dC, dI) vwCl (XW e x) H := P_l (P_perm (pm_rdr ..) hP)
theorem D_x (hD : va_D A (BW cI cL o sa ba a e t n len g tx y d r x sv)) : va_D (fun q => q = e) (XW e x) := (D_l (D_perm (pm_rdr ..) hD)).1.weaken (fun k q _ h => by simpa using h)
theorem A_x (hD : va_D A (BW cI cL o sa ba a e t n len g tx y d r x sv)) : ∀ q, q = e → A q := fun q hq => (D_l (D_perm (pm_rdr ..) hD)).2 q (by subst hq; exact List.mem_cons_self)
theorem PD_x (hP : va_P (dC, dI) vwCl (BW cI cL o sa ba a e t n len g tx y d r x sv) H) (hD : va_D A (BW cI cL o sa ba a e t n len g tx y d r x sv)) (hv : va_P (dC, dI) vwCl (XW e x') H1) (hk : ∀ q : Nat, q < H.size → ¬ q = e → H1[q]? = H[q]?) : va_P (dC, dI) vwCl (BW cI cL o sa ba a e t n len g tx y d r x' sv) H1 ∧ va_D A (BW cI cL o sa ba a e t n len g tx y d r x' sv) := by
  obtain ⟨h1, h2⟩ := PD_join (P_perm (pm_rdr ..) hP) (D_perm (pm_rdr ..) hD) hv (List.Perm.refl _) (fun q hq hn => hk q hq (fun z => hn (by subst z; exact List.mem_cons_self)))
  exact ⟨P_perm (pm_rdr ..).symm h1, D_perm (pm_rdr ..).symm h2⟩
/-! the saved ones -/
def sv_set (sv : Nat → LO) (k : Nat) (v : LO) : Nat → LO := fun j => if j = k then v else sv j
def sv_rot (sv : Nat → LO) : Nat → LO := fun j => if j = 5 then sv 0 else sv (j + 1)
abbrev lo_cp (x : LO) (y : Int32) (d : RW) (r : Int64) : LO := (x.1, x.2.1, y, d, r)
def sv_save (sv : Nat → LO) (n : Nat) (y : Int32) (d : RW) (r : Int64) : Nat → LO := if n = 6 then sv_set (sv_rot sv) 5 (lo_cp (sv_rot sv 5) y d r) else sv_set sv n (lo_cp (sv n) y d r)
theorem SW_split (cI : ClassId) (sv : Nat → LO) {k : Nat} (hk : k < 6) : ∃ u w : va_W, ∀ v : LO, (SW cI (sv_set sv k v)).Perm (LWo cI v ++ (u ++ w)) := by
  have pc : ∀ (a b c : va_W), (a ++ (b ++ c)).Perm (b ++ (a ++ c)) := fun a b c => List.perm_append_comm_assoc a b c
  rcases (show k = 0 ∨ k = 1 ∨ k = 2 ∨ k = 3 ∨ k = 4 ∨ k = 5 by omega) with rfl | rfl | rfl | rfl | rfl | rfl
  · exact ⟨LWo cI (sv 1), LWo cI (sv 2) ++ (LWo cI (sv 3) ++ (LWo cI (sv 4) ++ LWo cI (sv 5))), fun v => List.Perm.refl _⟩
  · exact ⟨LWo cI (sv 0), LWo cI (sv 2) ++ (LWo cI (sv 3) ++ (LWo cI (sv 4) ++ LWo cI (sv 5))), fun v => pc _ _ _⟩
  · exact ⟨LWo cI (sv 0), LWo cI (sv 1) ++ (LWo cI (sv 3) ++ (LWo cI (sv 4) ++ LWo cI (sv 5))), fun v => ((pc (LWo cI (sv 1)) (LWo cI v) _).append_left _).trans (pc _ _ _)⟩
  · exact ⟨LWo cI (sv 0), LWo cI (sv 1) ++ (LWo cI (sv 2) ++ (LWo cI (sv 4) ++ LWo cI (sv 5))), fun v => ((((pc (LWo cI (sv 2)) (LWo cI v) _).append_left _).trans (pc _ _ _)).append_left _).trans (pc _ _ _)⟩
  · exact ⟨LWo cI (sv 0), LWo cI (sv 1) ++ (LWo cI (sv 2) ++ (LWo cI (sv 3) ++ LWo cI (sv 5))), fun v => ((((((pc (LWo cI (sv 3)) (LWo cI v) _).append_left _).trans (pc _ _ _)).append_left _).trans (pc _ _ _)).append_left _).trans (pc _ _ _)⟩
  · exact ⟨LWo cI (sv 0), LWo cI (sv 1) ++ (LWo cI (sv 2) ++ (LWo cI (sv 3) ++ LWo cI (sv 4))), fun v => (((((((List.perm_append_comm (l₁ := LWo cI (sv 4)) (l₂ := LWo cI v)).append_left _).trans (pc _ _ _)).append_left _).trans (pc _ _ _)).append_left _).trans (pc _ _ _)).append_left _ |>.trans (pc _ _ _)⟩
theorem sv_set_self (sv : Nat → LO) (k : Nat) : sv_set sv k (sv k) = sv := by
  funext j
  show (if j = k then sv k else sv j) = sv j
  split
  · rename_i h; rw [h]
  · rfl
theorem SW_rot (cI : ClassId) (sv : Nat → LO) : (SW cI sv).Perm (SW cI (sv_rot sv)) := by
  show (LWo cI (sv 0) ++ (LWo cI (sv 1) ++ (LWo cI (sv 2) ++ (LWo cI (sv 3) ++ (LWo cI (sv 4) ++ LWo cI (sv 5)))))).Perm (LWo cI (sv 1) ++ (LWo cI (sv 2) ++ (LWo cI (sv 3) ++ (LWo cI (sv 4) ++ (LWo cI (sv 5) ++ LWo cI (sv 0))))))
  refine (List.perm_append_comm (l₁ := LWo cI (sv 0))).trans ?_
  rw [List.append_assoc, List.append_assoc, List.append_assoc, List.append_assoc]
theorem svg_set (sv : Nat → LO) (k : Nat) (y : Int32) (d : RW) (r : Int64) : svg (sv_set sv k (lo_cp (sv k) y d r)) = svg sv := by
  funext j
  show some (sv_set sv k (lo_cp (sv k) y d r) j).1 = some (sv j).1
  unfold sv_set
  split
  · rename_i h; rw [h]
  · rfl
/-- the saved Ledger k and the Ledger now beside one another, the rest behind -/
theorem pm_two (cI cL : ClassId) (o sa ba a e n len : Nat) (t : Nat → Nat) (g : Nat → Option Nat) (tx : Nat → Int32) (x : PS) (sv : Nat → LO) {k : Nat} (hk : k < 6) : ∃ w : va_W, ∀ (y : Int32) (d : RW) (r : Int64) (v : LO), (BW cI cL o sa ba a e t n len g tx y d r x (sv_set sv k v)).Perm ((LWo cI v ++ LW cI a t y d r) ++ w) := by
  obtain ⟨u, w, h⟩ := SW_split cI sv hk
  refine ⟨BM cI cL o sa ba a e n len g tx ++ (XW e x ++ (u ++ w)), fun y d r v => ?_⟩
  have pc : ∀ (a b c : va_W), (a ++ (b ++ c)).Perm (b ++ (a ++ c)) := fun a b c => List.perm_append_comm_assoc a b c
  refine (pm_now ..).trans ?_
  have h1 : (BM cI cL o sa ba a e n len g tx ++ (XW e x ++ SW cI (sv_set sv k v))).Perm (LWo cI v ++ (BM cI cL o sa ba a e n len g tx ++ (XW e x ++ (u ++ w)))) :=
    ((((h v).append_left _).trans (pc (XW e x) (LWo cI v) (u ++ w))).append_left _).trans (pc _ _ _)
  refine (h1.append_left _).trans ?_
  rw [List.append_assoc]
  exact pc _ _ _
end WG2
theorem cell_extq {cA : ClassId} {n : Nat} {f g : Nat → Option Nat} (h : ∀ j, j < n → f j = g j) : vp_cell cA (n, .inr (.inr (.inr (.inr f)))) = vp_cell cA (n, .inr (.inr (.inr (.inr g)))) := by
  rw [vp_cell_q, vp_cell_q]
  unfold arrV
  congr 1
  congr 1
  funext j
  show va_rf (f j.val) = va_rf (g j.val)
  rw [h j.val j.isLt]
theorem BW_g {dC : Nat → ClassId} {dI : Nat → Nat → Nat} {cI cL : ClassId} {o sa ba a e n len : Nat} {t : Nat → Nat} {g g' : Nat → Option Nat} {tx : Nat → Int32} {y : Int32} {d : RW} {r : Int64} {x : PS} {sv : Nat → LO} {H : Heap} (h : ∀ j, j < 6 → g j = g' j) (hP : va_P (dC, dI) vwCl (BW cI cL o sa ba a e t n len g tx y d r x sv) H) : va_P (dC, dI) vwCl (BW cI cL o sa ba a e t n len g' tx y d r x sv) H := by
  intro k q hk
  match k with
  | 0 => exact hP 0 q hk
  | 1 =>
    cases hk
    have h1 := hP 1 _ rfl
    show H[sa]? = some (vp_cell _ _)
    rw [← cell_extq h]
    exact h1
  | k + 2 => exact hP (k + 2) q hk
section WG3
variable {p : Program} {l : Launch} {e : Env} {R : Room} {s : State} {m : MethodId} {args : Array Value} {below : List Frame} {meth : Method} {c : Code} {H : Heap} {locs : List Loc} {cells slots : Nat} {Q : State → Prop}
variable {cc : ByteArray} {own : String} {nL pc : Nat} {ret : Option FieldType} {vs : List (Option Value)} {st st0 : List Value} {A A0 : Nat → Prop} {D : va_G} {cl : List vw_C} {ws : va_W} {H0 : Heap} {cI cL cJ : ClassId}
theorem g_aldq (C : CX p s m args meth c cc own nL ret) (hK : va_K D cl (tyL cI cL cJ) s) (hP : va_P D cl ws H) (q0 : Nat) {b n : Nat} {f : Nat → Option Nat} (ha : ws[q0]? = some (b, .inl (cL, n, .inr (.inr (.inr (.inr f)))))) {i : Nat} {v : Nat} (hi : i < n) (hn : n < 2147483648) (hv : f i = some v) (hd : decode cc pc = .ok (.aaload, 1))
    (kk : G p l e R s m args below meth c H locs cells slots Q vs (pc + 1) (.ref v :: st)) : G p l e R s m args below meth c H locs cells slots Q vs pc (.int (nI i) :: .ref b :: st) := fun ls h =>
  va_aldq C.1 C.2.1 hK hP q0 1 ha rfl (vp_in_nI hi hn) hd (by rw [nI_clamp (Nat.lt_trans hi hn), hv]; exact kk ls h)
theorem g_astq (C : CX p s m args meth c cc own nL ret) (hK : va_K D cl (tyL cI cL cJ) s) (hP : va_P D cl ws H) (hD : va_D A ws) (hS : va_S A H0 H locs) (q0 : Nat) {b n v : Nat} {f : Nat → Option Nat} {fs : List Value} (ha : ws[q0]? = some (b, .inl (cL, n, .inr (.inr (.inr (.inr f)))))) (hv : (v, .inr (1, fs)) ∈ ws) (hc : cl[1]? = some (RX1, TX1, 12)) {i : Nat} (hi : i < n) (hn : n < 2147483648) (hd : decode cc pc = .ok (.aastore, 1))
    (kk : ∀ (H1 : Heap) (locs1 : List Loc), va_P D cl (ws.set q0 (b, .inl (cL, n, .inr (.inr (.inr (.inr (va_up f i (some v)))))))) H1 → va_D A (ws.set q0 (b, .inl (cL, n, .inr (.inr (.inr (.inr (va_up f i (some v)))))))) → va_S A H0 H1 locs1 → G p l e R s m args below meth c H1 locs1 cells slots Q vs (pc + 1) st) : G p l e R s m args below meth c H locs cells slots Q vs pc (.ref v :: .int (nI i) :: .ref b :: st) := by
  obtain ⟨qk, hqk⟩ := List.getElem?_of_mem hv
  intro ls h
  exact va_astq C.1 C.2.1 hK hP hD hS q0 1 qk 1 ha rfl hqk hc (vp_in_nI hi hn) hd (fun H1 locs1 h1 h2 h3 => by
    rw [nI_clamp (Nat.lt_trans hi hn)] at h1 h2
    exact kk H1 locs1 h1 h2 h3 ls h)
theorem g_dconst1 (C : CX p s m args meth c cc own nL ret) (hd : decode cc pc = .ok (.dconst 1, 1)) (k : G p l e R s m args below meth c H locs cells slots Q vs (pc + 1) (.double 4607182418800017408 :: st)) : G p l e R s m args below meth c H locs cells slots Q vs pc st := fun ls h => lv_dconst1 C.1 C.2.1 hd (k ls h)
theorem g_dsub (C : CX p s m args meth c cc own nL ret) {x y : UInt64} (hne : vf_n64 (FP.dsub x y)) (hd : decode cc pc = .ok (.dsub, 1)) (k : G p l e R s m args below meth c H locs cells slots Q vs (pc + 1) (.double (FP.dsub x y) :: st)) : G p l e R s m args below meth c H locs cells slots Q vs pc (.double y :: .double x :: st) := fun ls h => lv_dsub C.1 C.2.1 hd hne (k ls h)
theorem g_dmul (C : CX p s m args meth c cc own nL ret) {x y : UInt64} (hne : vf_n64 (FP.dmul x y)) (hd : decode cc pc = .ok (.dmul, 1)) (k : G p l e R s m args below meth c H locs cells slots Q vs (pc + 1) (.double (FP.dmul x y) :: st)) : G p l e R s m args below meth c H locs cells slots Q vs pc (.double y :: .double x :: st) := fun ls h => lv_dmul C.1 C.2.1 hd hne (k ls h)
theorem g_d2l (C : CX p s m args meth c cc own nL ret) {x : UInt64} (hd : decode cc pc = .ok (.d2l, 1)) (k : G p l e R s m args below meth c H locs cells slots Q vs (pc + 1) (.long (FP.d2l x) :: st)) : G p l e R s m args below meth c H locs cells slots Q vs pc (.double x :: st) := fun ls h => lv_d2l C.1 C.2.1 hd (k ls h)
end WG3
/-! ranges of arguments -/
theorem rng_iff {v : Int32} {a b : Nat} (ha : a < 2147483648) (hb : b + 1 < 2147483648) : (nI a ≤ v ∧ v ≤ nI b) ↔ (¬ v < nI a ∧ v < nI (b + 1)) := by
  rw [Int32.le_iff_toInt_le, Int32.le_iff_toInt_le, Int32.lt_iff_toInt_lt, Int32.lt_iff_toInt_lt, nI_toInt ha, nI_toInt (by omega), nI_toInt hb]
  omega
def k_d (dep : Int32) : Nat := if ¬ (nI 1 ≤ dep ∧ dep ≤ nI 3) then 1 else 0
def k_q (v : Int32) (b : Nat) : Nat := if ¬ (nI 0 ≤ v ∧ v ≤ nI b) then 1 else 0
theorem k01 {P : Prop} [Decidable P] : ((if ¬ P then 1 else 0 : Nat) ≠ 0 ↔ ¬ P) := by
  by_cases h : P
  · rw [if_neg (fun z => z h)]; exact ⟨fun z => absurd rfl z, fun z => absurd h z⟩
  · rw [if_pos h]; exact ⟨fun _ => h, fun _ => by decide⟩
theorem k00 {P : Prop} [Decidable P] : ((if ¬ P then 1 else 0 : Nat) = 0 ↔ P) := by
  by_cases h : P
  · rw [if_neg (fun z => z h)]; exact ⟨fun _ => h, fun _ => rfl⟩
  · rw [if_pos h]; exact ⟨fun z => absurd z (by decide), fun z => absurd z h⟩
def cl3 (k : Nat) : String := if k = 1 then XIO else if k = 2 then XIA else XIS
def clA (k : Nat) : String := if k = 1 then XIA else XIS
def clS (k : Nat) : String := if k = 1 then XIO else XIS
def clI (k : Nat) : String := if k = 1 then XIO else XIA
