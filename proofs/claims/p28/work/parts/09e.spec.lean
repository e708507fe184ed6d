theorem q_fr_min {d : RW} {p : Nat} (hv : d 4 p ≠ -1) : (if q_bur d p = 0 then q_gd d p else q_free d p) = min (q_free d p) (q_gd d p) := by
  have hg : q_gd d p = 3 := by unfold q_gd; rw [if_pos hv]
  have hf := q_free_le d p
  split
  · rename_i h
    rw [q_free_bur h, hg]; rfl
  · rw [hg]; omega
def q_fm1 (d : RW) (y : Int32) (f what p : Nat) : Nat := if (what = 4 ∧ q_hold d y p = nI f) ∨ (what = 5 ∧ d 4 p = nI f) then 1 else 0
def q_fm3 (d : RW) (f what p : Nat) : Nat → Nat
  | 0 => 0
  | j + 1 => q_fm3 d f what p j + (if what = 3 ∧ d 7 (p * 3 + j) = nI f then 1 else 0)
def q_fm (d : RW) (y : Int32) (f what : Nat) : Nat → Nat
  | 0 => 0
  | n + 1 => (q_fm d y f what n + q_fm1 d y f what n) + q_fm3 d f what n 3
def q_fpM (d : RW) (y : Int32) (f what : Nat) : Int32 := if what < 3 then q_fp d y f what else nI (q_fm d y f what 40)
def q_ct1 (d : RW) (what : Nat) : Nat → Int32
  | 0 => nI 0
  | f + 1 => q_ct1 d what f + (if what = 7 then d 1 f else nI 0)
def q_i1 (d : RW) (y : Int32) (what p : Nat) : Nat := if what = 1 then q_bur d p else if what = 2 then q_rsn d y p else 0
def q_i2 (d : RW) (rc : Nat → Bool) (what p : Nat) : Nat := if (what = 3 ∧ d 3 p ≠ nI 3 ∧ q_bur d p = 0) ∨ (what = 4 ∧ d 3 p ≠ nI 3 ∧ rc p = false) then 1 else 0
def q_i3 (d : RW) (y : Int32) (what p : Nat) : Nat := if (what = 5 ∧ q_kept d y p) ∨ (what = 6 ∧ d 4 p ≠ -1) then 1 else 0
def q_ct2 (d : RW) (y : Int32) (rc : Nat → Bool) (what : Nat) : Nat → Int32
  | 0 => q_ct1 d what 10
  | n + 1 => ((q_ct2 d y rc what n + nI (q_i1 d y what n)) + nI (q_i2 d rc what n)) + nI (q_i3 d y what n)
def q_ctM (d : RW) (now y sv : Int32) (rc : Nat → Bool) (what : Nat) : Int32 := if what = 0 then y else if what = 8 then sv else q_ct2 d now rc what 40
/-- the price at the last depth from 3 on that is not refused, of n depths -/
def q_ow (d : RW) (y : Int32) (rc : Nat → Bool) (f p : Nat) : Nat → Int32
  | 0 => -1
  | n + 1 => if q_ref d y rc (nI f) p (3 - n) = 0 then q_fee d y f p (3 - n) else q_ow d y rc f p n
def q_bestM (d : RW) (y : Int32) (rc : Nat → Bool) (f : Nat) : Nat → Option Nat × Int32
  | 0 => (none, nI 0)
  | n + 1 => if q_ow d y rc f n 3 ≠ -1 ∧ q_btr d (q_bestM d y rc f n).1 (q_bestM d y rc f n).2 (q_ow d y rc f n 3) n then (some n, q_ow d y rc f n 3) else q_bestM d y rc f n
theorem q_dn {n : Nat} (h : n < 3) : nI (3 - n) + Int32.ofInt (-1) = nI (3 - (n + 1)) := by
  rcases (show n = 0 ∨ n = 1 ∨ n = 2 by omega) with rfl | rfl | rfl <;> decide
def q_fsM (d : RW) : Nat → Int32
  | 0 => nI 0
  | n + 1 => q_fsM d n + (if d 7 n = -1 then nI 0 else d 9 n)
def q_nM (d : RW) (n : Nat) : Nat := q_cn (fun k => d 7 k ≠ -1) n
def q_meanM (d : RW) : UInt64 := if q_nM d 120 = 0 then 0 else FP.ddiv (FP.i2d (q_fsM d 120)) (FP.i2d (nI (q_nM d 120)))
def q_yoM (d : RW) (y : Int32) (p : Nat) : Nat → Int32
  | 0 => y
  | n + 1 => if d 7 (p * 3 + n) ≠ -1 ∧ q_yoM d y p n < d 8 (p * 3 + n) + q_yr d p then d 8 (p * 3 + n) + q_yr d p else q_yoM d y p n
