/-- a new ground's rows -/
def q_d0 : RW := fun j x => match j with
  | 0 => nI 1
  | 1 => 0
  | 2 => 0
  | 3 => if x = 0 then nI 3 else nI 0
  | 4 => -1
  | 5 => -1
  | 6 => -1
  | 7 => -1
  | 8 => -1
  | 9 => -1
  | _ => 0
/-- a new ground's rows while they are filled -/
def q_ini (a b c : Nat) : RW := fun j x => match j with
  | 0 => if x < a then nI 1 else 0
  | 4 => if x < b then -1 else 0
  | 5 => if x < b then -1 else 0
  | 6 => if x < b then -1 else 0
  | 7 => if x < c then -1 else 0
  | 8 => if x < c then -1 else 0
  | 9 => if x < c then -1 else 0
  | _ => 0
theorem q_fill (k : Nat) (v : Int32) : upd (fun x => if x < k then v else 0) k v = (fun x => if x < k + 1 then v else 0) := by
  funext x
  show (if x = k then v else if x < k then v else 0) = if x < k + 1 then v else 0
  by_cases h : x = k
  · rw [if_pos h, if_pos (by omega)]
  · rw [if_neg h]
    by_cases h2 : x < k
    · rw [if_pos h2, if_pos (by omega)]
    · rw [if_neg h2, if_neg (by omega)]
theorem q_ini_a (a b c : Nat) : q_s1 (q_ini a b c) 0 (upd (q_ini a b c 0) a (nI 1)) = q_ini (a + 1) b c := by
  funext j
  by_cases h : j = 0
  · subst h; exact q_fill a (nI 1)
  · rw [show q_s1 (q_ini a b c) 0 (upd (q_ini a b c 0) a (nI 1)) j = q_ini a b c j from if_neg h]
    funext x
    unfold q_ini
    split <;> first | exact absurd rfl h | rfl
theorem q_ini_b (a b c : Nat) : q_s1 (q_s1 (q_s1 (q_s1 (q_ini a b c) 3 (upd (q_ini a b c 3) b (nI 0))) 4 (upd (q_ini a b c 4) b (-1))) 5 (upd (q_ini a b c 5) b (-1))) 6 (upd (q_ini a b c 6) b (-1)) = q_ini a (b + 1) c := by
  funext j
  match j with
  | 0 => rfl
  | 1 => rfl
  | 2 => rfl
  | 3 =>
    funext x
    show (if x = b then nI 0 else 0) = 0
    split <;> rfl
  | 4 => exact q_fill b (-1)
  | 5 => exact q_fill b (-1)
  | 6 => exact q_fill b (-1)
  | 7 => rfl
  | 8 => rfl
  | 9 => rfl
  | n + 10 => rfl
theorem q_ini_c (a b c : Nat) : q_s1 (q_s1 (q_s1 (q_ini a b c) 7 (upd (q_ini a b c 7) c (-1))) 8 (upd (q_ini a b c 8) c (-1))) 9 (upd (q_ini a b c 9) c (-1)) = q_ini a b (c + 1) := by
  funext j
  match j with
  | 0 => rfl
  | 1 => rfl
  | 2 => rfl
  | 3 => rfl
  | 4 => rfl
  | 5 => rfl
  | 6 => rfl
  | 7 => exact q_fill c (-1)
  | 8 => exact q_fill c (-1)
  | 9 => exact q_fill c (-1)
  | n + 10 => rfl
def q_len (j : Nat) : Nat := if j < 3 then 10 else if j < 7 then 40 else 120
theorem LW_ext {D : va_G} {cI : ClassId} {a : Nat} {t : Nat → Nat} {y : Int32} {d d' : RW} {r : Int64} {H : Heap} (hP : va_P D vwCl (LW cI a t y d r) H) (h : ∀ j, j < 10 → ∀ x, x < q_len j → d j x = d' j x) : va_P D vwCl (LW cI a t y d' r) H :=
  (((((((((hP.exi 1 (d' 0) rfl (h 0 (by decide))).exi 2 (d' 1) rfl (h 1 (by decide))).exi 3 (d' 2) rfl (h 2 (by decide))).exi 4 (d' 3) rfl (h 3 (by decide))).exi 5 (d' 4) rfl (h 4 (by decide))).exi 6 (d' 5) rfl (h 5 (by decide))).exi 7 (d' 6) rfl (h 6 (by decide))).exi 8 (d' 7) rfl (h 7 (by decide))).exi 9 (d' 8) rfl (h 8 (by decide))).exi 10 (d' 9) rfl (h 9 (by decide))
theorem q_ini_d0 : ∀ j, j < 10 → ∀ x, x < q_len j → q_s1 (q_ini 10 40 120) 3 (upd (q_ini 10 40 120 3) 0 (nI 3)) j x = q_d0 j x := by
  intro j hj x hx
  rcases (show j = 0 ∨ j = 1 ∨ j = 2 ∨ j = 3 ∨ j = 4 ∨ j = 5 ∨ j = 6 ∨ j = 7 ∨ j = 8 ∨ j = 9 by omega) with rfl | rfl | rfl | rfl | rfl | rfl | rfl | rfl | rfl | rfl
  · exact if_pos hx
  · rfl
  · rfl
  · show (if x = 0 then nI 3 else 0) = if x = 0 then nI 3 else nI 0
    split <;> rfl
  · exact if_pos hx
  · exact if_pos hx
  · exact if_pos hx
  · exact if_pos hx
  · exact if_pos hx
  · exact if_pos hx
