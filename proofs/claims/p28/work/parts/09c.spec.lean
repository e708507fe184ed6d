/-- the rows d with one place changed -/
def q_up (d : RW) (j k : Nat) (v : Int32) : RW := fun i => if i = j then upd (d j) k v else d i
def q_addB (d : RW) (y : Int32) (f p dep : Nat) : RW :=
  q_up (q_up (q_up (q_up (q_up d 7 (p * 3 + (dep - 1)) (nI f)) 8 (p * 3 + (dep - 1)) y) 9 (p * 3 + (dep - 1)) (q_fee d y f p dep)) 2 f (d 2 f + nI 1)) 1 f (d 1 f + q_fee d y f p dep)
def q_rm (d : RW) (p : Nat) : Nat → RW
  | 0 => d
  | j + 1 => q_up (q_up (q_up (q_rm d p j) 7 (p * 3 + j) (-1)) 8 (p * 3 + j) (-1)) 9 (p * 3 + j) (-1)
def q_chg (d : RW) (f : Nat) (x : Int32) : RW := q_up d 1 f (d 1 f + q_pr d f x)
def q_addR (d : RW) (y : Int32) (f p n : Nat) : RW := q_chg (q_up (q_up d 5 p (nI f)) 6 p ((if d 5 p = nI f ∧ q_kept d y p then d 6 p else y) + nI n)) f (nI (2 * n))
def q_addV (d : RW) (f p : Nat) : RW := q_chg (q_up (q_up (q_up d 4 p (nI f)) 5 p (-1)) 6 p (-1)) f (nI 100)
