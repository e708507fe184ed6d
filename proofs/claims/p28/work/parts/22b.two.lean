/-- two Ledgers beside one another, the first to be changed -/
def LD2 (dC : Nat → ClassId) (dI : Nat → Nat → Nat) (cI cL cJ : ClassId) (a : Nat) (t : Nat → Nat) (y : Int32) (d : RW) (r : Int64) (a2 : Nat) (t2 : Nat → Nat) (y2 : Int32) (d2 : RW) (r2 : Int64) (U : State) : Prop :=
  va_P (dC, dI) vwCl (LW cI a t y d r ++ LW cI a2 t2 y2 d2 r2) U.heap ∧ va_D (fun q => q ∈ LA a t ++ LA a2 t2) (LW cI a t y d r ++ LW cI a2 t2 y2 d2 r2) ∧ EV dC dI cI cL cJ U
theorem LD2_bl {dC : Nat → ClassId} {dI : Nat → Nat → Nat} {cI cL cJ : ClassId} {a : Nat} {t : Nat → Nat} {y : Int32} {d : RW} {r : Int64} {a2 : Nat} {t2 : Nat → Nat} {y2 : Int32} {d2 : RW} {r2 : Int64} : Bl (LD2 dC dI cI cL cJ a t y d r a2 t2 y2 d2 r2) := fun U g mk v h =>
  ⟨h.1, h.2.1, va_K.moved (u := U) (U := U.calling g mk v) (Vm.Alike.refl U.vm) h.2.2⟩
