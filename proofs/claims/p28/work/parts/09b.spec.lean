def q_sN (g : Nat → Nat) : Nat → Nat
  | 0 => 0
  | n + 1 => q_sN g n + g n
def q_sI (g : Nat → Int32) : Nat → Int32
  | 0 => nI 0
  | n + 1 => q_sI g n + g n
def q_bs (P : Nat → Prop) [DecidablePred P] : Nat → Int64
  | 0 => 0
  | n + 1 => if P n then q_bs P n ||| q_bit n else q_bs P n
theorem q_bs_t {P : Nat → Prop} [DecidablePred P] {n : Nat} (h : P n) : q_bs P (n + 1) = q_bs P n ||| q_bit n := by show (if P n then _ else _) = _; rw [if_pos h]
theorem q_bs_f {P : Nat → Prop} [DecidablePred P] {n : Nat} (h : ¬ P n) : q_bs P (n + 1) = q_bs P n := by show (if P n then _ else _) = _; rw [if_neg h]
def q_opn (d : RW) : Int64 := q_bs (fun p => d 3 p = nI 3 ∨ q_bur d p = 0) 40
def q_soil (d : RW) : Int64 := q_bs (fun p => d 3 p ≠ nI 3) 40
abbrev q_us (x : Int64) (k : Nat) : Int64 := (x.toUInt64 >>> ((nI k).toInt64.toUInt64 &&& Int64.toUInt64 63)).toInt64
abbrev q_sl (x : Int64) (k : Nat) : Int64 := x <<< ((nI k).toInt64 &&& 63)
def q_nb (x : Int64) : Int64 := ((q_sl x 8 ||| q_us x 8) ||| (q_sl (x &&& (-551911719041)) 1 ||| q_us (x &&& (-4311810306)) 1)) &&& 1099511627775
def q_fl (o : Int64) : Nat → Int64
  | 0 => 1 &&& o
  | n + 1 => q_fl o n ||| (q_nb (q_fl o n) &&& o)
def q_rw (d : RW) (blk : Int64) : Int64 := q_nb (q_fl (q_opn d &&& (blk ^^^ (-1))) 40) ||| 1
def q_lw (d : RW) (r : Int64) (p : Nat) : Int64 := ((r &&& (q_rw d (q_bit p) ^^^ (-1))) &&& q_soil d) &&& (q_bit p ^^^ (-1))
def q_b1 (x : Int64) : Int64 := x - (q_us x 1 &&& 6148914691236517205)
def q_b2 (x : Int64) : Int64 := (q_b1 x &&& 3689348814741910323) + (q_us (q_b1 x) 2 &&& 3689348814741910323)
def q_b3 (x : Int64) : Int64 := (q_b2 x + q_us (q_b2 x) 4) &&& 1085102592571150095
def q_b4 (x : Int64) : Int64 := q_b3 x + q_us (q_b3 x) 8
def q_b5 (x : Int64) : Int64 := q_b4 x + q_us (q_b4 x) 16
def q_b6 (x : Int64) : Int64 := q_b5 x + q_us (q_b5 x) 32
def q_bc (x : Int64) : Int32 := (q_b6 x).toInt32 &&& nI 127
def q_bof (d : RW) (f : Nat) : Nat := q_cn (fun k => d 7 k = nI f) 120
def q_phb (d : RW) (y : Int32) (f : Nat) : Nat := q_cn (fun p => q_hold d y p = nI f) 40
def q_vof (d : RW) (f : Nat) : Nat := q_cn (fun p => d 4 p = nI f) 40
def q_allB (d : RW) : Nat := q_sN (fun p => q_bur d p) 40
def q_allR (d : RW) (y : Int32) : Nat := q_sN (fun p => q_rsn d y p) 40
def q_allV (d : RW) : Nat := q_sN (fun f => q_vof d f) 10
def q_last (d : RW) (y : Int32) : Nat := q_cn (fun p => q_kept d y p) 40
def q_allP (d : RW) : Int32 := q_sI (fun f => d 1 f) 10
def q_fs (d : RW) : Nat → Int32
  | 0 => nI 0
  | n + 1 => if d 7 n ≠ -1 then q_fs d n + d 9 n else q_fs d n
def q_mean (d : RW) : UInt64 := if q_allB d = 0 then 0 else FP.ddiv (FP.i2d (q_fs d 120)) (FP.i2d (nI (q_allB d)))
def q_pp (d : RW) (y : Int32) (rc : Nat → Bool) (p : Nat) (what : Nat) : Int32 := match what with
  | 0 => d 3 p
  | 1 => q_hold d y p
  | 2 => nI (q_bur d p)
  | 3 => nI (q_rsn d y p)
  | 4 => d 4 p
  | 5 => d 5 p
  | 6 => d 6 p
  | 7 => if rc p = true then nI 1 else nI 0
  | _ => nI (q_gd d p)
def q_bp (d : RW) (y : Int32) (k : Nat) (what : Nat) : Int32 := if d 7 k = -1 then -1 else match what with
  | 0 => d 7 k
  | 1 => d 8 k
  | 2 => if q_rst d y k then nI 0 else nI 1
  | _ => d 9 k
def q_fp (d : RW) (y : Int32) (f : Nat) (what : Nat) : Int32 := match what with
  | 0 => d 0 f
  | 1 => d 1 f
  | 2 => d 2 f
  | 3 => nI (q_bof d f)
  | 4 => nI (q_phb d y f)
  | _ => nI (q_vof d f)
def q_tot (d : RW) (y : Int32) (r : Int64) (what : Nat) : Int32 := match what with
  | 0 => y
  | 1 => nI (q_allB d)
  | 2 => nI (q_allR d y)
  | 3 => q_bc (q_soil d &&& q_opn d)
  | 4 => q_bc (q_soil d &&& (r ^^^ (-1)))
  | 5 => nI (q_last d y)
  | 6 => nI (q_allV d)
  | _ => q_allP d
theorem q_sN_le (g : Nat → Nat) (b : Nat) (h : ∀ p, g p ≤ b) : ∀ n, q_sN g n ≤ n * b := by
  intro n
  induction n with
  | zero => exact Nat.zero_le _
  | succ n ih => show q_sN g n + g n ≤ (n + 1) * b; rw [Nat.succ_mul]; have := h n; omega
