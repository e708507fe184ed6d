/-! the reader of entries: stage, reserves, family, plot, number -/
abbrev PS : Type := Nat × Nat × Nat × Option Nat × Nat
def oN (o : Option Nat) : Int32 := match o with
  | none => -1
  | some b => nI b
abbrev XW (e : Nat) (x : PS) : va_W := [(e, .inr (0, [.int (nI x.1), .int (nI x.2.1), .int (nI x.2.2.1), .int (oN x.2.2.2.1), .int (nI x.2.2.2.2)]))]
def XDM (dC : Nat → ClassId) (dI : Nat → Nat → Nat) (cI cL cJ : ClassId) (e : Nat) (x : PS) (U : State) : Prop :=
  va_P (dC, dI) vwCl (XW e x) U.heap ∧ va_D (fun q => q = e) (XW e x) ∧ EV dC dI cI cL cJ U
section WX
variable {s : State} {H : Heap} {dC : Nat → ClassId} {dI : Nat → Nat → Nat} {cI cL cJ : ClassId}
theorem XDM_bl {e : Nat} {x : PS} : Bl (XDM dC dI cI cL cJ e x) := fun U g mk v h =>
  ⟨h.1, h.2.1, va_K.moved (u := U) (U := U.calling g mk v) (Vm.Alike.refl U.vm) h.2.2⟩
theorem XDM_at {e : Nat} {x : PS} (hK : EV dC dI cI cL cJ s) (hP : va_P (dC, dI) vwCl (XW e x) H) (hD : va_D (fun q => q = e) (XW e x)) : ∀ U : State, U.heap = H → s.WarmedH U.vm → XDM dC dI cI cL cJ e x U := by
  intro U hU hW
  subst hU
  exact ⟨hP, hD, va_K.moved hW.alike hK⟩
end WX
theorem bI_fit (P : Prop) [Decidable P] : fits .boolean (.int (bI P)) = true := by unfold bI; split <;> rfl
theorem nb_z (P : Prop) [Decidable P] : narrow .boolean (.int (nI (if P then 1 else 0))) = .int (nI (if P then 1 else 0)) := by split <;> rfl
theorem nb_f (P : Prop) [Decidable P] : fits .boolean (.int (nI (if P then 1 else 0))) = true := by split <;> rfl
abbrev q_dg (c : Nat) : Prop := 48 ≤ c ∧ c ≤ 57
def q_tL (x : PS) (c : Nat) : Option PS := if c = 98 ∨ c = 114 then some (1, if c = 114 then 1 else 0, x.2.2) else none
def q_tF (x : PS) (c : Nat) : Option PS := if q_dg c then some (2, x.2.1, c - 48, x.2.2.2) else none
def q_tC (x : PS) (c : Nat) : Option PS := if c = 58 then some (3, x.2) else none
def q_lp (pl : Option Nat) (c : Nat) : Nat := match pl with
  | none => c - 48
  | some q => 10 * q + c - 48
def q_tP (x : PS) (c : Nat) : Option PS := if c = 44 ∧ x.2.2.2.1 ≠ none then some (4, x.2) else if ¬ q_dg c ∨ x.2.2.2.1 = some 0 then none else if q_lp x.2.2.2.1 c < 40 then some (x.1, x.2.1, x.2.2.1, some (q_lp x.2.2.2.1 c), x.2.2.2.2) else none
def q_tN (x : PS) (c : Nat) : Option PS := if c = 59 ∧ 0 < x.2.2.2.2 then some (0, 0, 0, none, 0) else if ¬ q_dg c then none else if 1 ≤ 10 * x.2.2.2.2 + c - 48 ∧ 10 * x.2.2.2.2 + c - 48 ≤ (if x.2.1 = 0 then 3 else 50) then some (x.1, x.2.1, x.2.2.1, x.2.2.2.1, 10 * x.2.2.2.2 + c - 48) else none
def q_take (x : PS) (c : Nat) : Option PS := match x.1 with
  | 0 => q_tL x c
  | 1 => q_tF x c
  | 2 => q_tC x c
  | 3 => q_tP x c
  | _ => q_tN x c
/-- a reader's numbers in their bounds -/
def PSok (x : PS) : Prop := x.1 ≤ 4 ∧ x.2.1 ≤ 1 ∧ x.2.2.1 ≤ 9 ∧ (∀ b, x.2.2.2.1 = some b → b < 40) ∧ x.2.2.2.2 ≤ 50
theorem oN_n {o : Option Nat} (h : ∀ b, o = some b → b < 40) : oN o = -1 ↔ o = none := by
  cases o with
  | none => exact ⟨fun _ => rfl, fun _ => rfl⟩
  | some b =>
    refine ⟨fun q => ?_, fun q => by cases q⟩
    have hb := h b rfl
    have h1 : (nI b).toInt = (-1 : Int32).toInt := congrArg Int32.toInt q
    rw [nI_toInt (by omega)] at h1
    exact absurd h1 (by rw [show (-1 : Int32).toInt = -1 from rfl]; omega)
theorem oN_0 {o : Option Nat} (h : ∀ b, o = some b → b < 40) : oN o = 0 ↔ o = some 0 := by
  cases o with
  | none => exact ⟨fun q => absurd q (by decide), fun q => by cases q⟩
  | some b =>
    refine ⟨fun q => ?_, fun q => by cases q; rfl⟩
    have hb := h b rfl
    rw [(nI_z (by omega : b < 2147483648)).mp q]
