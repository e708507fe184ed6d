/-! what the answers are: of a ground's rows d 0 .. d 9 (parish, paid, so far, kind, vault, kept for, up to, who, when, fee) and a year -/
def q_cn (P : Nat → Prop) [DecidablePred P] : Nat → Nat
  | 0 => 0
  | n + 1 => q_cn P n + (if P n then 1 else 0)
theorem q_cn_le (P : Nat → Prop) [DecidablePred P] : ∀ n, q_cn P n ≤ n := by
  intro n
  induction n with
  | zero => exact Nat.le_refl 0
  | succ n ih => show q_cn P n + _ ≤ _; split <;> omega
theorem q_cn_t {P : Nat → Prop} [DecidablePred P] {n : Nat} (h : P n) : q_cn P (n + 1) = q_cn P n + 1 := by show q_cn P n + _ = _; rw [if_pos h]
theorem q_cn_f {P : Nat → Prop} [DecidablePred P] {n : Nat} (h : ¬ P n) : q_cn P (n + 1) = q_cn P n := by show q_cn P n + _ = _; rw [if_neg h]; rfl
def q_mx (f : Nat → Int32) : Nat → Int32
  | 0 => nI 0
  | n + 1 => if q_mx f n < f n then f n else q_mx f n
theorem q_min {a b : Nat} (ha : a < 2147483648) (hb : b < 2147483648) : (if nI b < nI a then nI b else nI a) = nI (min a b) := by
  by_cases h : b < a
  · rw [if_pos (nI_lt h ha), Nat.min_eq_right (by omega)]
  · rw [if_neg (nI_nlt (by omega) hb), Nat.min_eq_left (by omega)]
abbrev RW : Type := Nat → Nat → Int32
abbrev q_occ (d : RW) (k : Nat) : Prop := d 7 k ≠ -1
def q_bur (d : RW) (p : Nat) : Nat := q_cn (fun j => d 7 (p * 3 + j) ≠ -1) 3
def q_yr (d : RW) (p : Nat) : Int32 := if d 3 p = nI 0 then nI 30 else if d 3 p = nI 1 then nI 15 else nI 60
def q_eor (d : RW) (k : Nat) : Int32 := d 8 k + q_yr d (k / 3)
abbrev q_rst (d : RW) (y : Int32) (k : Nat) : Prop := d 7 k ≠ -1 ∧ y < q_eor d k
def q_rsn (d : RW) (y : Int32) (p : Nat) : Nat := q_cn (fun j => q_rst d y (p * 3 + j)) 3
abbrev q_kept (d : RW) (y : Int32) (p : Nat) : Prop := d 5 p ≠ -1 ∧ y ≤ d 6 p
def q_hold (d : RW) (y : Int32) (p : Nat) : Int32 :=
  if d 4 p ≠ -1 then d 4 p else if q_kept d y p then d 5 p else if q_rst d y (p * 3 + 0) then d 7 (p * 3 + 0) else if q_rst d y (p * 3 + 1) then d 7 (p * 3 + 1) else if q_rst d y (p * 3 + 2) then d 7 (p * 3 + 2) else -1
abbrev q_oth (x f : Int32) : Prop := x ≠ -1 ∧ x ≠ f
def q_gd (d : RW) (p : Nat) : Nat := if d 4 p ≠ -1 then 3 else if d 3 p = nI 0 then 3 else if d 3 p = nI 1 then 2 else if d 3 p = nI 2 then 1 else 0
theorem q_gd_le (d : RW) (p : Nat) : q_gd d p ≤ 3 := by unfold q_gd; repeat' split
                                                        all_goals omega
def q_free (d : RW) (p : Nat) : Nat := if d 7 (p * 3 + 0) ≠ -1 then 0 else if d 7 (p * 3 + 1) ≠ -1 then 1 else if d 7 (p * 3 + 2) ≠ -1 then 2 else 3
theorem q_free_le (d : RW) (p : Nat) : q_free d p ≤ 3 := by unfold q_free; repeat' split
                                                            all_goals omega
def q_lat (d : RW) (p : Nat) : Int32 := q_mx (fun j => d 8 (p * 3 + j)) 3
def q_vref (d : RW) (y : Int32) (p dep : Nat) : Int32 := if 0 < q_bur d p ∧ y < q_lat d p + nI 2 then nI 6 else if dep ≠ min (q_free d p) (q_gd d p) then nI 7 else nI 0
def q_ref (d : RW) (y : Int32) (rc : Nat → Bool) (f : Int32) (p dep : Nat) : Int32 :=
  if d 3 p = nI 3 then nI 1 else if q_oth (q_hold d y p) f then nI 2 else if q_gd d p < dep then nI 3 else if q_free d p < dep then nI 4 else if rc p = false then nI 5 else if d 4 p ≠ -1 then q_vref d y p dep else nI 0
def q_bit (p : Nat) : Int64 := (1 : Int64) <<< ((nI p).toInt64 &&& 63)
/-- the plots of a row of bits -/
def q_rb (r : Int64) (p : Nat) : Bool := decide (r &&& q_bit p ≠ 0)
def q_pr (d : RW) (f : Nat) (x : Int32) : Int32 := if d 0 f = nI 1 then x else nI 2 * x
def q_fee (d : RW) (y : Int32) (f p dep : Nat) : Int32 := q_pr d f (nI (10 * dep + 20) + (if d 4 p ≠ -1 then nI 30 else nI 0)) - (if d 5 p = nI f ∧ q_kept d y p then nI 5 else nI 0)
def q_lf (d : RW) (y : Int32) (rc : Nat → Bool) (f p : Nat) : Nat → Int32
  | 0 => -1
  | n + 1 => if q_ref d y rc (nI f) p (n + 1) = 0 then (if q_lf d y rc f p n = -1 then q_fee d y f p (n + 1) else if q_fee d y f p (n + 1) < q_lf d y rc f p n then q_fee d y f p (n + 1) else q_lf d y rc f p n) else q_lf d y rc f p n
abbrev q_btr (d : RW) (o : Option Nat) (least own : Int32) (p : Nat) : Prop := o = none ∨ own < least ∨ (own = least ∧ q_bur d p < q_bur d (o.getD 0))
def q_best (d : RW) (y : Int32) (rc : Nat → Bool) (f : Nat) : Nat → Option Nat × Int32
  | 0 => (none, nI 0)
  | n + 1 => if q_lf d y rc f n 3 ≠ -1 ∧ q_btr d (q_best d y rc f n).1 (q_best d y rc f n).2 (q_lf d y rc f n 3) n then (some n, q_lf d y rc f n 3) else q_best d y rc f n
def q_yor (d : RW) (y : Int32) (p : Nat) : Nat → Int32
  | 0 => y
  | n + 1 => if d 7 (p * 3 + n) ≠ -1 then (if q_yor d y p n < q_eor d (p * 3 + n) then q_eor d (p * 3 + n) else q_yor d y p n) else q_yor d y p n
/-- what always holds of a ground -/
def INV (d : RW) : Prop := (∀ p, p < 40 → ∃ k : Nat, k < 4 ∧ d 3 p = nI k) ∧ (∀ k, k < 120 → d 7 k ≠ -1 → d 3 (k / 3) ≠ nI 3) ∧ (∀ p, p < 40 → d 4 p ≠ -1 → d 3 p ≠ nI 3) ∧ (∀ k, k < 120 → d 7 k = -1 → d 8 k = -1 ∧ d 9 k = -1) ∧ (∀ k, k < 120 → d 7 k ≠ -1 → nI 0 ≤ d 8 k) ∧ (∀ k, k < 120 → d 7 k ≠ -1 → ∃ v : Nat, 25 ≤ v ∧ v ≤ 160 ∧ d 9 k = nI v) ∧ d 3 0 = nI 3 ∧ (∀ p, p < 40 → d 4 p ≠ -1 → ∃ f : Nat, f < 10 ∧ d 4 p = nI f)
