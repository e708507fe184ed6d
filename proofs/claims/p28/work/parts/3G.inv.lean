/-! the row z changed, read as the ground changed; what always holds stays -/
section NZ
variable {z z' : Nat → Int32} {k0 : Nat} {v : Int32}
theorem nzr0 (h : ∀ k, k < 10 → z' (520 + k) = z (520 + k)) : q_nz z' 0 = q_nz z 0 := by
  funext k
  show (if k < 10 then z' (520 + k) else nI 1) = (if k < 10 then z (520 + k) else nI 1)
  by_cases hk : k < 10
  · rw [if_pos hk, if_pos hk, h k hk]
  · rw [if_neg hk, if_neg hk]
theorem nzh0 (h : k0 < 10) (hv : z' (520 + k0) = v) (ho : ∀ k, k < 10 → k ≠ k0 → z' (520 + k) = z (520 + k)) : q_nz z' 0 = upd (q_nz z 0) k0 v := by
  funext k
  show (if k < 10 then z' (520 + k) else nI 1) = (if k = k0 then v else (if k < 10 then z (520 + k) else nI 1))
  by_cases e : k = k0
  · subst e; rw [if_pos h, if_pos rfl, hv]
  · rw [if_neg e]
    by_cases hk : k < 10
    · rw [if_pos hk, if_pos hk, ho k hk e]
    · rw [if_neg hk, if_neg hk]
theorem nzr1 (h : ∀ k, k < 10 → z' (530 + k) = z (530 + k)) : q_nz z' 1 = q_nz z 1 := by
  funext k
  show (if k < 10 then z' (530 + k) else 0) = (if k < 10 then z (530 + k) else 0)
  by_cases hk : k < 10
  · rw [if_pos hk, if_pos hk, h k hk]
  · rw [if_neg hk, if_neg hk]
theorem nzh1 (h : k0 < 10) (hv : z' (530 + k0) = v) (ho : ∀ k, k < 10 → k ≠ k0 → z' (530 + k) = z (530 + k)) : q_nz z' 1 = upd (q_nz z 1) k0 v := by
  funext k
  show (if k < 10 then z' (530 + k) else 0) = (if k = k0 then v else (if k < 10 then z (530 + k) else 0))
  by_cases e : k = k0
  · subst e; rw [if_pos h, if_pos rfl, hv]
  · rw [if_neg e]
    by_cases hk : k < 10
    · rw [if_pos hk, if_pos hk, ho k hk e]
    · rw [if_neg hk, if_neg hk]
theorem nzr2 (h : ∀ k, k < 10 → z' (540 + k) = z (540 + k)) : q_nz z' 2 = q_nz z 2 := by
  funext k
  show (if k < 10 then z' (540 + k) else 0) = (if k < 10 then z (540 + k) else 0)
  by_cases hk : k < 10
  · rw [if_pos hk, if_pos hk, h k hk]
  · rw [if_neg hk, if_neg hk]
theorem nzh2 (h : k0 < 10) (hv : z' (540 + k0) = v) (ho : ∀ k, k < 10 → k ≠ k0 → z' (540 + k) = z (540 + k)) : q_nz z' 2 = upd (q_nz z 2) k0 v := by
  funext k
  show (if k < 10 then z' (540 + k) else 0) = (if k = k0 then v else (if k < 10 then z (540 + k) else 0))
  by_cases e : k = k0
  · subst e; rw [if_pos h, if_pos rfl, hv]
  · rw [if_neg e]
    by_cases hk : k < 10
    · rw [if_pos hk, if_pos hk, ho k hk e]
    · rw [if_neg hk, if_neg hk]
theorem nzr3 (h : ∀ k, k < 40 → z' k = z k) : q_nz z' 3 = q_nz z 3 := by
  funext k
  show (if k < 40 then z' k else nI 0) = (if k < 40 then z k else nI 0)
  by_cases hk : k < 40
  · rw [if_pos hk, if_pos hk, h k hk]
  · rw [if_neg hk, if_neg hk]
theorem nzh3 (h : k0 < 40) (hv : z' k0 = v) (ho : ∀ k, k < 40 → k ≠ k0 → z' k = z k) : q_nz z' 3 = upd (q_nz z 3) k0 v := by
  funext k
  show (if k < 40 then z' k else nI 0) = (if k = k0 then v else (if k < 40 then z k else nI 0))
  by_cases e : k = k0
  · subst e; rw [if_pos h, if_pos rfl, hv]
  · rw [if_neg e]
    by_cases hk : k < 40
    · rw [if_pos hk, if_pos hk, ho k hk e]
    · rw [if_neg hk, if_neg hk]
theorem nzr4 (h : ∀ k, k < 40 → z' (40 + k) = z (40 + k)) : q_nz z' 4 = q_nz z 4 := by
  funext k
  show (if k < 40 then z' (40 + k) else -1) = (if k < 40 then z (40 + k) else -1)
  by_cases hk : k < 40
  · rw [if_pos hk, if_pos hk, h k hk]
  · rw [if_neg hk, if_neg hk]
theorem nzh4 (h : k0 < 40) (hv : z' (40 + k0) = v) (ho : ∀ k, k < 40 → k ≠ k0 → z' (40 + k) = z (40 + k)) : q_nz z' 4 = upd (q_nz z 4) k0 v := by
  funext k
  show (if k < 40 then z' (40 + k) else -1) = (if k = k0 then v else (if k < 40 then z (40 + k) else -1))
  by_cases e : k = k0
  · subst e; rw [if_pos h, if_pos rfl, hv]
  · rw [if_neg e]
    by_cases hk : k < 40
    · rw [if_pos hk, if_pos hk, ho k hk e]
    · rw [if_neg hk, if_neg hk]
theorem nzr5 (h : ∀ k, k < 40 → z' (80 + k) = z (80 + k)) : q_nz z' 5 = q_nz z 5 := by
  funext k
  show (if k < 40 then z' (80 + k) else -1) = (if k < 40 then z (80 + k) else -1)
  by_cases hk : k < 40
  · rw [if_pos hk, if_pos hk, h k hk]
  · rw [if_neg hk, if_neg hk]
theorem nzh5 (h : k0 < 40) (hv : z' (80 + k0) = v) (ho : ∀ k, k < 40 → k ≠ k0 → z' (80 + k) = z (80 + k)) : q_nz z' 5 = upd (q_nz z 5) k0 v := by
  funext k
  show (if k < 40 then z' (80 + k) else -1) = (if k = k0 then v else (if k < 40 then z (80 + k) else -1))
  by_cases e : k = k0
  · subst e; rw [if_pos h, if_pos rfl, hv]
  · rw [if_neg e]
    by_cases hk : k < 40
    · rw [if_pos hk, if_pos hk, ho k hk e]
    · rw [if_neg hk, if_neg hk]
theorem nzr6 (h : ∀ k, k < 40 → z' (120 + k) = z (120 + k)) : q_nz z' 6 = q_nz z 6 := by
  funext k
  show (if k < 40 then z' (120 + k) else -1) = (if k < 40 then z (120 + k) else -1)
  by_cases hk : k < 40
  · rw [if_pos hk, if_pos hk, h k hk]
  · rw [if_neg hk, if_neg hk]
theorem nzh6 (h : k0 < 40) (hv : z' (120 + k0) = v) (ho : ∀ k, k < 40 → k ≠ k0 → z' (120 + k) = z (120 + k)) : q_nz z' 6 = upd (q_nz z 6) k0 v := by
  funext k
  show (if k < 40 then z' (120 + k) else -1) = (if k = k0 then v else (if k < 40 then z (120 + k) else -1))
  by_cases e : k = k0
  · subst e; rw [if_pos h, if_pos rfl, hv]
  · rw [if_neg e]
    by_cases hk : k < 40
    · rw [if_pos hk, if_pos hk, ho k hk e]
    · rw [if_neg hk, if_neg hk]
theorem nzr7 (h : ∀ k, k < 120 → z' (160 + k) = z (160 + k)) : q_nz z' 7 = q_nz z 7 := by
  funext k
  show (if k < 120 then z' (160 + k) else -1) = (if k < 120 then z (160 + k) else -1)
  by_cases hk : k < 120
  · rw [if_pos hk, if_pos hk, h k hk]
  · rw [if_neg hk, if_neg hk]
theorem nzh7 (h : k0 < 120) (hv : z' (160 + k0) = v) (ho : ∀ k, k < 120 → k ≠ k0 → z' (160 + k) = z (160 + k)) : q_nz z' 7 = upd (q_nz z 7) k0 v := by
  funext k
  show (if k < 120 then z' (160 + k) else -1) = (if k = k0 then v else (if k < 120 then z (160 + k) else -1))
  by_cases e : k = k0
  · subst e; rw [if_pos h, if_pos rfl, hv]
  · rw [if_neg e]
    by_cases hk : k < 120
    · rw [if_pos hk, if_pos hk, ho k hk e]
    · rw [if_neg hk, if_neg hk]
theorem nzr8 (h7 : ∀ k, k < 120 → z' (160 + k) = z (160 + k)) (h : ∀ k, k < 120 → z' (280 + k) = z (280 + k)) : q_nz z' 8 = q_nz z 8 := by
  funext k
  show (if k < 120 ∧ z' (160 + k) ≠ -1 then z' (280 + k) else -1) = (if k < 120 ∧ z (160 + k) ≠ -1 then z (280 + k) else -1)
  by_cases hk : k < 120
  · rw [h7 k hk, h k hk]
  · rw [if_neg (fun q => hk q.1), if_neg (fun q => hk q.1)]
theorem nzh8 (h : k0 < 120) (h7 : z' (160 + k0) ≠ -1) (hv : z' (280 + k0) = v) (h7o : ∀ k, k < 120 → k ≠ k0 → z' (160 + k) = z (160 + k)) (ho : ∀ k, k < 120 → k ≠ k0 → z' (280 + k) = z (280 + k)) : q_nz z' 8 = upd (q_nz z 8) k0 (v) := by
  funext k
  show (if k < 120 ∧ z' (160 + k) ≠ -1 then z' (280 + k) else -1) = (if k = k0 then (v) else (if k < 120 ∧ z (160 + k) ≠ -1 then z (280 + k) else -1))
  by_cases e : k = k0
  · subst e; rw [if_pos ⟨h, h7⟩, if_pos rfl, hv]
  · rw [if_neg e]
    by_cases hk : k < 120
    · rw [h7o k hk e, ho k hk e]
    · rw [if_neg (fun q => hk q.1), if_neg (fun q => hk q.1)]
theorem nzc8 (h : k0 < 120) (h7 : z' (160 + k0) = -1) (h7o : ∀ k, k < 120 → k ≠ k0 → z' (160 + k) = z (160 + k)) (ho : ∀ k, k < 120 → k ≠ k0 → z' (280 + k) = z (280 + k)) : q_nz z' 8 = upd (q_nz z 8) k0 (-1) := by
  funext k
  show (if k < 120 ∧ z' (160 + k) ≠ -1 then z' (280 + k) else -1) = (if k = k0 then (-1) else (if k < 120 ∧ z (160 + k) ≠ -1 then z (280 + k) else -1))
  by_cases e : k = k0
  · subst e; rw [if_neg (fun q => q.2 h7), if_pos rfl]
  · rw [if_neg e]
    by_cases hk : k < 120
    · rw [h7o k hk e, ho k hk e]
    · rw [if_neg (fun q => hk q.1), if_neg (fun q => hk q.1)]
theorem nzr9 (h7 : ∀ k, k < 120 → z' (160 + k) = z (160 + k)) (h : ∀ k, k < 120 → z' (400 + k) = z (400 + k)) : q_nz z' 9 = q_nz z 9 := by
  funext k
  show (if k < 120 ∧ z' (160 + k) ≠ -1 then z' (400 + k) else -1) = (if k < 120 ∧ z (160 + k) ≠ -1 then z (400 + k) else -1)
  by_cases hk : k < 120
  · rw [h7 k hk, h k hk]
  · rw [if_neg (fun q => hk q.1), if_neg (fun q => hk q.1)]
theorem nzh9 (h : k0 < 120) (h7 : z' (160 + k0) ≠ -1) (hv : z' (400 + k0) = v) (h7o : ∀ k, k < 120 → k ≠ k0 → z' (160 + k) = z (160 + k)) (ho : ∀ k, k < 120 → k ≠ k0 → z' (400 + k) = z (400 + k)) : q_nz z' 9 = upd (q_nz z 9) k0 (v) := by
  funext k
  show (if k < 120 ∧ z' (160 + k) ≠ -1 then z' (400 + k) else -1) = (if k = k0 then (v) else (if k < 120 ∧ z (160 + k) ≠ -1 then z (400 + k) else -1))
  by_cases e : k = k0
  · subst e; rw [if_pos ⟨h, h7⟩, if_pos rfl, hv]
  · rw [if_neg e]
    by_cases hk : k < 120
    · rw [h7o k hk e, ho k hk e]
    · rw [if_neg (fun q => hk q.1), if_neg (fun q => hk q.1)]
theorem nzc9 (h : k0 < 120) (h7 : z' (160 + k0) = -1) (h7o : ∀ k, k < 120 → k ≠ k0 → z' (160 + k) = z (160 + k)) (ho : ∀ k, k < 120 → k ≠ k0 → z' (400 + k) = z (400 + k)) : q_nz z' 9 = upd (q_nz z 9) k0 (-1) := by
  funext k
  show (if k < 120 ∧ z' (160 + k) ≠ -1 then z' (400 + k) else -1) = (if k = k0 then (-1) else (if k < 120 ∧ z (160 + k) ≠ -1 then z (400 + k) else -1))
  by_cases e : k = k0
  · subst e; rw [if_neg (fun q => q.2 h7), if_pos rfl]
  · rw [if_neg e]
    by_cases hk : k < 120
    · rw [h7o k hk e, ho k hk e]
    · rw [if_neg (fun q => hk q.1), if_neg (fun q => hk q.1)]
theorem rw_ext {d d' : RW} (h0 : d 0 = d' 0) (h1 : d 1 = d' 1) (h2 : d 2 = d' 2) (h3 : d 3 = d' 3) (h4 : d 4 = d' 4) (h5 : d 5 = d' 5) (h6 : d 6 = d' 6) (h7 : d 7 = d' 7) (h8 : d 8 = d' 8) (h9 : d 9 = d' 9) (hx : ∀ j, d (j + 10) = d' (j + 10)) : d = d' := by
  funext j
  match j with
  | 0 => exact h0
  | 1 => exact h1
  | 2 => exact h2
  | 3 => exact h3
  | 4 => exact h4
  | 5 => exact h5
  | 6 => exact h6
  | 7 => exact h7
  | 8 => exact h8
  | 9 => exact h9
  | j + 10 => exact hx j
theorem q_up_x (d : RW) {j : Nat} (hj : j < 10) (k : Nat) (v : Int32) (i : Nat) : q_up d j k v (i + 10) = d (i + 10) := if_neg (by omega)
theorem q_up_at (d : RW) (j k : Nat) (v : Int32) : q_up d j k v j = upd (d j) k v := if_pos rfl
theorem q_up_ne (d : RW) {j i : Nat} (h : i ≠ j) (k : Nat) (v : Int32) : q_up d j k v i = d i := if_neg h
theorem q_up_comm (d : RW) {i j : Nat} (h : i ≠ j) (k1 k2 : Nat) (v1 v2 : Int32) : q_up (q_up d i k1 v1) j k2 v2 = q_up (q_up d j k2 v2) i k1 v1 := by
  funext x
  by_cases e1 : x = i
  · subst e1; rw [q_up_ne _ h, q_up_at, q_up_at, q_up_ne _ h]
  · by_cases e2 : x = j
    · subst e2; rw [q_up_at, q_up_ne _ e1, q_up_ne _ e1, q_up_at]
    · rw [q_up_ne _ e2, q_up_ne _ e1, q_up_ne _ e1, q_up_ne _ e2]
theorem upd_ne {f : Nat → Int32} {k j : Nat} {v : Int32} (h : j ≠ k) : upd f k v j = f j := if_neg h
theorem nz_kind (hb : k0 < 40) : q_nz (upd z (k0) v) = q_up (q_nz z) 3 k0 v := by
  refine rw_ext ?_ ?_ ?_ ?_ ?_ ?_ ?_ ?_ ?_ ?_ (fun j => ?_)
  · rw [q_up_ne _ (by decide)]
    exact nzr0 (fun k hk => upd_ne (by omega))
  · rw [q_up_ne _ (by decide)]
    exact nzr1 (fun k hk => upd_ne (by omega))
  · rw [q_up_ne _ (by decide)]
    exact nzr2 (fun k hk => upd_ne (by omega))
  · rw [q_up_at]
    exact nzh3 hb upd_at (fun k hk e => upd_ne (by omega))
  · rw [q_up_ne _ (by decide)]
    exact nzr4 (fun k hk => upd_ne (by omega))
  · rw [q_up_ne _ (by decide)]
    exact nzr5 (fun k hk => upd_ne (by omega))
  · rw [q_up_ne _ (by decide)]
    exact nzr6 (fun k hk => upd_ne (by omega))
  · rw [q_up_ne _ (by decide)]
    exact nzr7 (fun k hk => upd_ne (by omega))
  · rw [q_up_ne _ (by decide)]
    exact nzr8 (fun k hk => upd_ne (by omega)) (fun k hk => upd_ne (by omega))
  · rw [q_up_ne _ (by decide)]
    exact nzr9 (fun k hk => upd_ne (by omega)) (fun k hk => upd_ne (by omega))
  · rw [q_up_x _ (by decide)]
    rfl
theorem nz_par (hb : k0 < 10) : q_nz (upd z (520 + k0) v) = q_up (q_nz z) 0 k0 v := by
  refine rw_ext ?_ ?_ ?_ ?_ ?_ ?_ ?_ ?_ ?_ ?_ (fun j => ?_)
  · rw [q_up_at]
    exact nzh0 hb upd_at (fun k hk e => upd_ne (by omega))
  · rw [q_up_ne _ (by decide)]
    exact nzr1 (fun k hk => upd_ne (by omega))
  · rw [q_up_ne _ (by decide)]
    exact nzr2 (fun k hk => upd_ne (by omega))
  · rw [q_up_ne _ (by decide)]
    exact nzr3 (fun k hk => upd_ne (by omega))
  · rw [q_up_ne _ (by decide)]
    exact nzr4 (fun k hk => upd_ne (by omega))
  · rw [q_up_ne _ (by decide)]
    exact nzr5 (fun k hk => upd_ne (by omega))
  · rw [q_up_ne _ (by decide)]
    exact nzr6 (fun k hk => upd_ne (by omega))
  · rw [q_up_ne _ (by decide)]
    exact nzr7 (fun k hk => upd_ne (by omega))
  · rw [q_up_ne _ (by decide)]
    exact nzr8 (fun k hk => upd_ne (by omega)) (fun k hk => upd_ne (by omega))
  · rw [q_up_ne _ (by decide)]
    exact nzr9 (fun k hk => upd_ne (by omega)) (fun k hk => upd_ne (by omega))
  · rw [q_up_x _ (by decide)]
    rfl
theorem nz_paid (hb : k0 < 10) : q_nz (upd z (530 + k0) v) = q_up (q_nz z) 1 k0 v := by
  refine rw_ext ?_ ?_ ?_ ?_ ?_ ?_ ?_ ?_ ?_ ?_ (fun j => ?_)
  · rw [q_up_ne _ (by decide)]
    exact nzr0 (fun k hk => upd_ne (by omega))
  · rw [q_up_at]
    exact nzh1 hb upd_at (fun k hk e => upd_ne (by omega))
  · rw [q_up_ne _ (by decide)]
    exact nzr2 (fun k hk => upd_ne (by omega))
  · rw [q_up_ne _ (by decide)]
    exact nzr3 (fun k hk => upd_ne (by omega))
  · rw [q_up_ne _ (by decide)]
    exact nzr4 (fun k hk => upd_ne (by omega))
  · rw [q_up_ne _ (by decide)]
    exact nzr5 (fun k hk => upd_ne (by omega))
  · rw [q_up_ne _ (by decide)]
    exact nzr6 (fun k hk => upd_ne (by omega))
  · rw [q_up_ne _ (by decide)]
    exact nzr7 (fun k hk => upd_ne (by omega))
  · rw [q_up_ne _ (by decide)]
    exact nzr8 (fun k hk => upd_ne (by omega)) (fun k hk => upd_ne (by omega))
  · rw [q_up_ne _ (by decide)]
    exact nzr9 (fun k hk => upd_ne (by omega)) (fun k hk => upd_ne (by omega))
  · rw [q_up_x _ (by decide)]
    rfl
theorem nz_sofar (hb : k0 < 10) : q_nz (upd z (540 + k0) v) = q_up (q_nz z) 2 k0 v := by
  refine rw_ext ?_ ?_ ?_ ?_ ?_ ?_ ?_ ?_ ?_ ?_ (fun j => ?_)
  · rw [q_up_ne _ (by decide)]
    exact nzr0 (fun k hk => upd_ne (by omega))
  · rw [q_up_ne _ (by decide)]
    exact nzr1 (fun k hk => upd_ne (by omega))
  · rw [q_up_at]
    exact nzh2 hb upd_at (fun k hk e => upd_ne (by omega))
  · rw [q_up_ne _ (by decide)]
    exact nzr3 (fun k hk => upd_ne (by omega))
  · rw [q_up_ne _ (by decide)]
    exact nzr4 (fun k hk => upd_ne (by omega))
  · rw [q_up_ne _ (by decide)]
    exact nzr5 (fun k hk => upd_ne (by omega))
  · rw [q_up_ne _ (by decide)]
    exact nzr6 (fun k hk => upd_ne (by omega))
  · rw [q_up_ne _ (by decide)]
    exact nzr7 (fun k hk => upd_ne (by omega))
  · rw [q_up_ne _ (by decide)]
    exact nzr8 (fun k hk => upd_ne (by omega)) (fun k hk => upd_ne (by omega))
  · rw [q_up_ne _ (by decide)]
    exact nzr9 (fun k hk => upd_ne (by omega)) (fun k hk => upd_ne (by omega))
  · rw [q_up_x _ (by decide)]
    rfl
theorem nz_vau (hb : k0 < 40) : q_nz (upd z (40 + k0) v) = q_up (q_nz z) 4 k0 v := by
  refine rw_ext ?_ ?_ ?_ ?_ ?_ ?_ ?_ ?_ ?_ ?_ (fun j => ?_)
  · rw [q_up_ne _ (by decide)]
    exact nzr0 (fun k hk => upd_ne (by omega))
  · rw [q_up_ne _ (by decide)]
    exact nzr1 (fun k hk => upd_ne (by omega))
  · rw [q_up_ne _ (by decide)]
    exact nzr2 (fun k hk => upd_ne (by omega))
  · rw [q_up_ne _ (by decide)]
    exact nzr3 (fun k hk => upd_ne (by omega))
  · rw [q_up_at]
    exact nzh4 hb upd_at (fun k hk e => upd_ne (by omega))
  · rw [q_up_ne _ (by decide)]
    exact nzr5 (fun k hk => upd_ne (by omega))
  · rw [q_up_ne _ (by decide)]
    exact nzr6 (fun k hk => upd_ne (by omega))
  · rw [q_up_ne _ (by decide)]
    exact nzr7 (fun k hk => upd_ne (by omega))
  · rw [q_up_ne _ (by decide)]
    exact nzr8 (fun k hk => upd_ne (by omega)) (fun k hk => upd_ne (by omega))
  · rw [q_up_ne _ (by decide)]
    exact nzr9 (fun k hk => upd_ne (by omega)) (fun k hk => upd_ne (by omega))
  · rw [q_up_x _ (by decide)]
    rfl
theorem nz_for (hb : k0 < 40) : q_nz (upd z (80 + k0) v) = q_up (q_nz z) 5 k0 v := by
  refine rw_ext ?_ ?_ ?_ ?_ ?_ ?_ ?_ ?_ ?_ ?_ (fun j => ?_)
  · rw [q_up_ne _ (by decide)]
    exact nzr0 (fun k hk => upd_ne (by omega))
  · rw [q_up_ne _ (by decide)]
    exact nzr1 (fun k hk => upd_ne (by omega))
  · rw [q_up_ne _ (by decide)]
    exact nzr2 (fun k hk => upd_ne (by omega))
  · rw [q_up_ne _ (by decide)]
    exact nzr3 (fun k hk => upd_ne (by omega))
  · rw [q_up_ne _ (by decide)]
    exact nzr4 (fun k hk => upd_ne (by omega))
  · rw [q_up_at]
    exact nzh5 hb upd_at (fun k hk e => upd_ne (by omega))
  · rw [q_up_ne _ (by decide)]
    exact nzr6 (fun k hk => upd_ne (by omega))
  · rw [q_up_ne _ (by decide)]
    exact nzr7 (fun k hk => upd_ne (by omega))
  · rw [q_up_ne _ (by decide)]
    exact nzr8 (fun k hk => upd_ne (by omega)) (fun k hk => upd_ne (by omega))
  · rw [q_up_ne _ (by decide)]
    exact nzr9 (fun k hk => upd_ne (by omega)) (fun k hk => upd_ne (by omega))
  · rw [q_up_x _ (by decide)]
    rfl
theorem nz_upto (hb : k0 < 40) : q_nz (upd z (120 + k0) v) = q_up (q_nz z) 6 k0 v := by
  refine rw_ext ?_ ?_ ?_ ?_ ?_ ?_ ?_ ?_ ?_ ?_ (fun j => ?_)
  · rw [q_up_ne _ (by decide)]
    exact nzr0 (fun k hk => upd_ne (by omega))
  · rw [q_up_ne _ (by decide)]
    exact nzr1 (fun k hk => upd_ne (by omega))
  · rw [q_up_ne _ (by decide)]
    exact nzr2 (fun k hk => upd_ne (by omega))
  · rw [q_up_ne _ (by decide)]
    exact nzr3 (fun k hk => upd_ne (by omega))
  · rw [q_up_ne _ (by decide)]
    exact nzr4 (fun k hk => upd_ne (by omega))
  · rw [q_up_ne _ (by decide)]
    exact nzr5 (fun k hk => upd_ne (by omega))
  · rw [q_up_at]
    exact nzh6 hb upd_at (fun k hk e => upd_ne (by omega))
  · rw [q_up_ne _ (by decide)]
    exact nzr7 (fun k hk => upd_ne (by omega))
  · rw [q_up_ne _ (by decide)]
    exact nzr8 (fun k hk => upd_ne (by omega)) (fun k hk => upd_ne (by omega))
  · rw [q_up_ne _ (by decide)]
    exact nzr9 (fun k hk => upd_ne (by omega)) (fun k hk => upd_ne (by omega))
  · rw [q_up_x _ (by decide)]
    rfl
theorem q_zb_v {fee : Int32} {f k : Nat} (hf : f < 10) (hk : k < 120) (x : Nat) : q_zb z fee f k x = if x = 540 + f then z (540 + f) + nI 1 else if x = 530 + f then z (530 + f) + fee else if x = 400 + k then fee else if x = 280 + k then z 550 else if x = 160 + k then nI f else z x := by
  have e1 : q_z3 z fee f k (530 + f) = z (530 + f) := (if_neg (by omega)).trans ((if_neg (by omega)).trans (if_neg (by omega)))
  have e2 : q_zp (q_z3 z fee f k) fee f (540 + f) = z (540 + f) := (if_neg (by omega)).trans ((if_neg (by omega)).trans ((if_neg (by omega)).trans (if_neg (by omega))))
  unfold q_zb
  rw [e2]
  unfold q_zp
  rw [e1]
  rfl
theorem nI_ne1 {n : Nat} (h : n < 2147483648) : nI n ≠ -1 := by
  intro q
  have h1 : (nI n).toInt = (-1 : Int32).toInt := congrArg Int32.toInt q
  rw [nI_toInt h] at h1
  exact absurd h1 (by rw [show (-1 : Int32).toInt = -1 from rfl]; omega)
/-- a burial -/
theorem nz_addB {y : Int32} {f p dep : Nat} (hf : f < 10) (hp : p < 40) (hd1 : 1 ≤ dep) (hd3 : dep ≤ 3) (hy : z 550 = y) : q_nz (q_zb z (q_fee (q_nz z) y f p dep) f (3 * p + dep - 1)) = q_addB (q_nz z) y f p dep := by
  have hK : p * 3 + (dep - 1) < 120 := by omega
  rw [show 3 * p + dep - 1 = p * 3 + (dep - 1) by omega]
  have e1 : q_nz z 1 f = z (530 + f) := if_pos hf
  have e2 : q_nz z 2 f = z (540 + f) := if_pos hf
  subst hy
  unfold q_addB
  rw [e1, e2]
  generalize q_fee (q_nz z) (z 550) f p dep = fee
  refine rw_ext ?_ ?_ ?_ ?_ ?_ ?_ ?_ ?_ ?_ ?_ (fun j => ?_)
  · rw [q_up_ne _ (by decide), q_up_ne _ (by decide), q_up_ne _ (by decide), q_up_ne _ (by decide), q_up_ne _ (by decide)]
    exact nzr0 (fun k hk => by rw [q_zb_v hf hK, if_neg (by omega), if_neg (by omega), if_neg (by omega), if_neg (by omega), if_neg (by omega)])
  · rw [q_up_at, q_up_ne _ (by decide), q_up_ne _ (by decide), q_up_ne _ (by decide), q_up_ne _ (by decide)]
    exact nzh1 (v := z (530 + f) + fee) hf (by rw [q_zb_v hf hK, if_neg (by omega), if_pos rfl]) (fun k hk e => by rw [q_zb_v hf hK, if_neg (by omega), if_neg (by omega), if_neg (by omega), if_neg (by omega), if_neg (by omega)])
  · rw [q_up_ne _ (by decide), q_up_at, q_up_ne _ (by decide), q_up_ne _ (by decide), q_up_ne _ (by decide)]
    exact nzh2 (v := z (540 + f) + nI 1) hf (by rw [q_zb_v hf hK, if_pos rfl]) (fun k hk e => by rw [q_zb_v hf hK, if_neg (by omega), if_neg (by omega), if_neg (by omega), if_neg (by omega), if_neg (by omega)])
  · rw [q_up_ne _ (by decide), q_up_ne _ (by decide), q_up_ne _ (by decide), q_up_ne _ (by decide), q_up_ne _ (by decide)]
    exact nzr3 (fun k hk => by rw [q_zb_v hf hK, if_neg (by omega), if_neg (by omega), if_neg (by omega), if_neg (by omega), if_neg (by omega)])
  · rw [q_up_ne _ (by decide), q_up_ne _ (by decide), q_up_ne _ (by decide), q_up_ne _ (by decide), q_up_ne _ (by decide)]
    exact nzr4 (fun k hk => by rw [q_zb_v hf hK, if_neg (by omega), if_neg (by omega), if_neg (by omega), if_neg (by omega), if_neg (by omega)])
  · rw [q_up_ne _ (by decide), q_up_ne _ (by decide), q_up_ne _ (by decide), q_up_ne _ (by decide), q_up_ne _ (by decide)]
    exact nzr5 (fun k hk => by rw [q_zb_v hf hK, if_neg (by omega), if_neg (by omega), if_neg (by omega), if_neg (by omega), if_neg (by omega)])
  · rw [q_up_ne _ (by decide), q_up_ne _ (by decide), q_up_ne _ (by decide), q_up_ne _ (by decide), q_up_ne _ (by decide)]
    exact nzr6 (fun k hk => by rw [q_zb_v hf hK, if_neg (by omega), if_neg (by omega), if_neg (by omega), if_neg (by omega), if_neg (by omega)])
  · rw [q_up_ne _ (by decide), q_up_ne _ (by decide), q_up_ne _ (by decide), q_up_ne _ (by decide), q_up_at]
    exact nzh7 hK (by rw [q_zb_v hf hK, if_neg (by omega), if_neg (by omega), if_neg (by omega), if_neg (by omega), if_pos rfl]) (fun k hk e => by rw [q_zb_v hf hK, if_neg (by omega), if_neg (by omega), if_neg (by omega), if_neg (by omega), if_neg (by omega)])
  · rw [q_up_ne _ (by decide), q_up_ne _ (by decide), q_up_ne _ (by decide), q_up_at, q_up_ne _ (by decide)]
    exact nzh8 hK (by rw [q_zb_v hf hK, if_neg (by omega), if_neg (by omega), if_neg (by omega), if_neg (by omega), if_pos rfl]; exact nI_ne1 (by omega)) (by rw [q_zb_v hf hK, if_neg (by omega), if_neg (by omega), if_neg (by omega), if_pos rfl]) (fun k hk e => by rw [q_zb_v hf hK, if_neg (by omega), if_neg (by omega), if_neg (by omega), if_neg (by omega), if_neg (by omega)]) (fun k hk e => by rw [q_zb_v hf hK, if_neg (by omega), if_neg (by omega), if_neg (by omega), if_neg (by omega), if_neg (by omega)])
  · rw [q_up_ne _ (by decide), q_up_ne _ (by decide), q_up_at, q_up_ne _ (by decide), q_up_ne _ (by decide)]
    exact nzh9 hK (by rw [q_zb_v hf hK, if_neg (by omega), if_neg (by omega), if_neg (by omega), if_neg (by omega), if_pos rfl]; exact nI_ne1 (by omega)) (by rw [q_zb_v hf hK, if_neg (by omega), if_neg (by omega), if_pos rfl]) (fun k hk e => by rw [q_zb_v hf hK, if_neg (by omega), if_neg (by omega), if_neg (by omega), if_neg (by omega), if_neg (by omega)]) (fun k hk e => by rw [q_zb_v hf hK, if_neg (by omega), if_neg (by omega), if_neg (by omega), if_neg (by omega), if_neg (by omega)])
  · rw [q_up_x _ (by decide), q_up_x _ (by decide), q_up_x _ (by decide), q_up_x _ (by decide), q_up_x _ (by decide)]
    rfl
theorem zb_y {fee : Int32} {f k : Nat} (hf : f < 10) (hk : k < 120) : q_zb z fee f k 550 = z 550 := by
  rw [q_zb_v hf hk, if_neg (by omega), if_neg (by omega), if_neg (by omega), if_neg (by omega), if_neg (by omega)]
/-- a reservation -/
theorem nz_addR {y : Int32} {f p n : Nat} (hf : f < 10) (hp : p < 40) (hn : n ≤ 50) (hy : z 550 = y) (h4 : q_nz z 4 p = -1) (ho : ¬ q_oth (q_hold (q_nz z) y p) (nI f)) : q_nz (q_zrs z y f p n) = q_addR (q_nz z) y f p n ∧ q_zcr (q_zr2 z (q_zup z y p n) f p) f n = q_pr (q_nz z) f (nI (2 * n)) := by
  have hk : q_kept (q_nz z) y p → q_nz z 5 p = nI f := by
    intro hk
    have h1 : q_hold (q_nz z) y p = q_nz z 5 p := by unfold q_hold; rw [if_neg (fun q => q h4), if_pos hk]
    rw [h1] at ho
    exact Classical.byContradiction (fun q => ho ⟨hk.1, q⟩)
  have hu : q_zup z y p n = (if q_nz z 5 p = nI f ∧ q_kept (q_nz z) y p then q_nz z 6 p else y) + nI n := by
    unfold q_zup
    by_cases c : q_kept (q_nz z) y p
    · rw [if_pos c, if_pos ⟨hk c, c⟩]
    · rw [if_neg c, if_neg (fun q => c q.2), hy]
  have e2 : q_nz (q_zr2 z (q_zup z y p n) f p) = q_up (q_up (q_nz z) 5 p (nI f)) 6 p (q_zup z y p n) := by
    unfold q_zr2
    rw [nz_for hp, nz_upto hp]
    exact q_up_comm _ (by decide) _ _ _ _
  have e3 : q_zcr (q_zr2 z (q_zup z y p n) f p) f n = q_pr (q_nz z) f (nI (2 * n)) := by
    unfold q_zcr q_pr
    rw [e2]
    rw [q_up_ne _ (by decide), q_up_ne _ (by decide)]
    rw [pk_mul, show 2 * (2 * n) = 4 * n by omega]
  refine ⟨?_, e3⟩
  unfold q_zrs q_zp
  rw [nz_paid hf, e2, e3]
  have e4 : q_zr2 z (q_zup z y p n) f p (530 + f) = q_nz z 1 f := by
    refine Eq.trans ?_ (zr1 (z := z) hf rfl)
    exact (if_neg (by omega)).trans (if_neg (by omega))
  rw [e4, hu]
  unfold q_addR q_chg q_pr
  rw [q_up_ne _ (show (1 : Nat) ≠ 6 by decide), q_up_ne _ (show (1 : Nat) ≠ 5 by decide), q_up_ne _ (show (0 : Nat) ≠ 6 by decide), q_up_ne _ (show (0 : Nat) ≠ 5 by decide)]
theorem zrs_y {y : Int32} {f p n : Nat} (hf : f < 10) (hp : p < 40) : q_zrs z y f p n 550 = z 550 := (if_neg (by omega)).trans ((if_neg (by omega)).trans (if_neg (by omega)))
/-- a vault -/
theorem nz_addV {f p : Nat} (hf : f < 10) (hp : p < 40) : q_nz (q_zp (q_zv3 z f p) (q_zvc (q_zv3 z f p) f) f) = q_addV (q_nz z) f p ∧ q_zvc (q_zv3 z f p) f = q_pr (q_nz z) f (nI 100) := by
  have e2 : q_nz (q_zv3 z f p) = q_up (q_up (q_up (q_nz z) 4 p (nI f)) 5 p (-1)) 6 p (-1) := by
    unfold q_zv3
    rw [nz_upto hp, nz_for hp, nz_vau hp]
  have e3 : q_zvc (q_zv3 z f p) f = q_pr (q_nz z) f (nI 100) := by
    unfold q_zvc q_pr
    rw [e2]
    rw [q_up_ne _ (by decide), q_up_ne _ (by decide), q_up_ne _ (by decide)]
    rw [pk_mul]
  refine ⟨?_, e3⟩
  unfold q_zp
  rw [nz_paid hf, e2, e3]
  have e4 : q_zv3 z f p (530 + f) = q_nz z 1 f := by
    refine Eq.trans ?_ (zr1 (z := z) hf rfl)
    exact (if_neg (by omega)).trans ((if_neg (by omega)).trans (if_neg (by omega)))
  rw [e4]
  unfold q_addV q_chg q_pr
  rw [q_up_ne _ (show (1 : Nat) ≠ 6 by decide), q_up_ne _ (show (1 : Nat) ≠ 5 by decide), q_up_ne _ (show (1 : Nat) ≠ 4 by decide), q_up_ne _ (show (0 : Nat) ≠ 6 by decide), q_up_ne _ (show (0 : Nat) ≠ 5 by decide), q_up_ne _ (show (0 : Nat) ≠ 4 by decide)]
theorem zv_y {f p : Nat} {c : Int32} (hf : f < 10) (hp : p < 40) : q_zp (q_zv3 z f p) c f 550 = z 550 := (if_neg (by omega)).trans ((if_neg (by omega)).trans ((if_neg (by omega)).trans (if_neg (by omega))))
theorem q_zc_v {p j : Nat} (hp : p < 40) (hj : j < 3) (x : Nat) : q_zc z p (j + 1) x = if x = 400 + (p * 3 + j) then nI 0 else if x = 280 + (p * 3 + j) then nI 0 else if x = 160 + (p * 3 + j) then -1 else q_zc z p j x := by
  rw [show p * 3 + j = 3 * p + j by omega]
  rfl
/-- a cleared plot -/
theorem nz_rm {p : Nat} (hp : p < 40) : ∀ j, j ≤ 3 → q_nz (q_zc z p j) = q_rm (q_nz z) p j := by
  intro j
  induction j with
  | zero => intro _; rfl
  | succ j ih =>
    intro hj
    have hj : j < 3 := hj
    have hK : p * 3 + j < 120 := by omega
    unfold q_rm
    rw [← ih (by omega)]
    refine rw_ext ?_ ?_ ?_ ?_ ?_ ?_ ?_ ?_ ?_ ?_ (fun j => ?_)
    · rw [q_up_ne _ (by decide), q_up_ne _ (by decide), q_up_ne _ (by decide)]
      exact nzr0 (fun k hk => by rw [q_zc_v hp hj, if_neg (by omega), if_neg (by omega), if_neg (by omega)])
    · rw [q_up_ne _ (by decide), q_up_ne _ (by decide), q_up_ne _ (by decide)]
      exact nzr1 (fun k hk => by rw [q_zc_v hp hj, if_neg (by omega), if_neg (by omega), if_neg (by omega)])
    · rw [q_up_ne _ (by decide), q_up_ne _ (by decide), q_up_ne _ (by decide)]
      exact nzr2 (fun k hk => by rw [q_zc_v hp hj, if_neg (by omega), if_neg (by omega), if_neg (by omega)])
    · rw [q_up_ne _ (by decide), q_up_ne _ (by decide), q_up_ne _ (by decide)]
      exact nzr3 (fun k hk => by rw [q_zc_v hp hj, if_neg (by omega), if_neg (by omega), if_neg (by omega)])
    · rw [q_up_ne _ (by decide), q_up_ne _ (by decide), q_up_ne _ (by decide)]
      exact nzr4 (fun k hk => by rw [q_zc_v hp hj, if_neg (by omega), if_neg (by omega), if_neg (by omega)])
    · rw [q_up_ne _ (by decide), q_up_ne _ (by decide), q_up_ne _ (by decide)]
      exact nzr5 (fun k hk => by rw [q_zc_v hp hj, if_neg (by omega), if_neg (by omega), if_neg (by omega)])
    · rw [q_up_ne _ (by decide), q_up_ne _ (by decide), q_up_ne _ (by decide)]
      exact nzr6 (fun k hk => by rw [q_zc_v hp hj, if_neg (by omega), if_neg (by omega), if_neg (by omega)])
    · rw [q_up_ne _ (by decide), q_up_ne _ (by decide), q_up_at]
      exact nzh7 hK (by rw [q_zc_v hp hj, if_neg (by omega), if_neg (by omega), if_pos rfl]) (fun k hk e => by rw [q_zc_v hp hj, if_neg (by omega), if_neg (by omega), if_neg (by omega)])
    · rw [q_up_ne _ (by decide), q_up_at, q_up_ne _ (by decide)]
      exact nzc8 hK (by rw [q_zc_v hp hj, if_neg (by omega), if_neg (by omega), if_pos rfl]) (fun k hk e => by rw [q_zc_v hp hj, if_neg (by omega), if_neg (by omega), if_neg (by omega)]) (fun k hk e => by rw [q_zc_v hp hj, if_neg (by omega), if_neg (by omega), if_neg (by omega)])
    · rw [q_up_at, q_up_ne _ (by decide), q_up_ne _ (by decide)]
      exact nzc9 hK (by rw [q_zc_v hp hj, if_neg (by omega), if_neg (by omega), if_pos rfl]) (fun k hk e => by rw [q_zc_v hp hj, if_neg (by omega), if_neg (by omega), if_neg (by omega)]) (fun k hk e => by rw [q_zc_v hp hj, if_neg (by omega), if_neg (by omega), if_neg (by omega)])
    · rw [q_up_x _ (by decide), q_up_x _ (by decide), q_up_x _ (by decide)]
      rfl
theorem zc_y {p : Nat} (hp : p < 40) : ∀ j, j ≤ 3 → q_zc z p j 550 = z 550 := by
  intro j
  induction j with
  | zero => intro _; rfl
  | succ j ih =>
    intro hj
    rw [q_zc_v hp (by omega), if_neg (by omega), if_neg (by omega), if_neg (by omega)]
    exact ih (by omega)
end NZ
/-! what always holds, kept -/
theorem INV_kind {d : RW} {p k : Nat} (h : INV d) (hp : 1 ≤ p) (hp4 : p < 40) (hk : k ≤ 3) (hb : q_bur d p = 0) (hv : d 4 p = -1) : INV (q_up d 3 p (nI k)) := by
  obtain ⟨h1, h2, h3, h4, h5, h6, h7, h8⟩ := h
  have hr : ∀ q, q ≠ p → q_up d 3 p (nI k) 3 q = d 3 q := fun q hq => by rw [q_up_at]; exact upd_ne hq
  have e0 : ∀ j, j < 3 → d 7 (p * 3 + j) = -1 := by
    intro j hj
    apply Classical.byContradiction
    intro hn
    have h3 : (((0 + (if d 7 (p * 3 + 0) ≠ -1 then 1 else 0)) + (if d 7 (p * 3 + 1) ≠ -1 then 1 else 0)) + (if d 7 (p * 3 + 2) ≠ -1 then 1 else 0) : Nat) = 0 := hb
    rcases (show j = 0 ∨ j = 1 ∨ j = 2 by omega) with rfl | rfl | rfl <;> rw [if_pos hn] at h3 <;> omega
  have b4 : q_up d 3 p (nI k) 4 = d 4 := q_up_ne _ (by decide) _ _
  have b7 : q_up d 3 p (nI k) 7 = d 7 := q_up_ne _ (by decide) _ _
  have b8 : q_up d 3 p (nI k) 8 = d 8 := q_up_ne _ (by decide) _ _
  have b9 : q_up d 3 p (nI k) 9 = d 9 := q_up_ne _ (by decide) _ _
  unfold INV
  rw [b4, b7, b8, b9]
  refine ⟨fun q hq => ?_, fun j hj ho => ?_, fun q hq ho => ?_, h4, h5, h6, ?_, h8⟩
  · by_cases e : q = p
    · subst e; exact ⟨k, by omega, by rw [q_up_at]; exact upd_at⟩
    · rw [hr q e]; exact h1 q hq
  · by_cases e : j / 3 = p
    · exact absurd (show d 7 j = -1 by have := e0 (j % 3) (Nat.mod_lt _ (by decide)); rw [show p * 3 + j % 3 = j by omega] at this; exact this) ho
    · rw [hr _ e]; exact h2 j hj ho
  · by_cases e : q = p
    · subst e; exact absurd hv ho
    · rw [hr q e]; exact h3 q hq ho
  · rw [hr 0 (by omega)]; exact h7
theorem q_fee_rng {d : RW} {y : Int32} {f p dep : Nat} (hd1 : 1 ≤ dep) (hd3 : dep ≤ 3) : ∃ v : Nat, 25 ≤ v ∧ v ≤ 160 ∧ q_fee d y f p dep = nI v := by
  unfold q_fee q_pr
  by_cases c1 : d 4 p ≠ -1 <;> by_cases c2 : d 0 f = nI 1 <;> by_cases c3 : d 5 p = nI f ∧ q_kept d y p
  · rw [if_pos c1, if_pos c2, if_pos c3, nI_add, pk_sub (by omega)]; exact ⟨_, by omega, by omega, rfl⟩
  · rw [if_pos c1, if_pos c2, if_neg c3, nI_add, pk_sub (by omega)]; exact ⟨_, by omega, by omega, rfl⟩
  · rw [if_pos c1, if_neg c2, if_pos c3, nI_add, pk_mul, pk_sub (by omega)]; exact ⟨_, by omega, by omega, rfl⟩
  · rw [if_pos c1, if_neg c2, if_neg c3, nI_add, pk_mul, pk_sub (by omega)]; exact ⟨_, by omega, by omega, rfl⟩
  · rw [if_neg c1, if_pos c2, if_pos c3, nI_add, pk_sub (by omega)]; exact ⟨_, by omega, by omega, rfl⟩
  · rw [if_neg c1, if_pos c2, if_neg c3, nI_add, pk_sub (by omega)]; exact ⟨_, by omega, by omega, rfl⟩
  · rw [if_neg c1, if_neg c2, if_pos c3, nI_add, pk_mul, pk_sub (by omega)]; exact ⟨_, by omega, by omega, rfl⟩
  · rw [if_neg c1, if_neg c2, if_neg c3, nI_add, pk_mul, pk_sub (by omega)]; exact ⟨_, by omega, by omega, rfl⟩
theorem INV_addB {d : RW} {y : Int32} {f p dep : Nat} (h : INV d) (hy : nI 0 ≤ y) (hf : f < 10) (hp : p < 40) (hd1 : 1 ≤ dep) (hd3 : dep ≤ 3) (hr : d 3 p ≠ nI 3) : INV (q_addB d y f p dep) := by
  obtain ⟨h1, h2, h3, h4, h5, h6, h7, h8⟩ := h
  have a3 : q_addB d y f p dep 3 = d 3 := by unfold q_addB; rw [q_up_ne _ (by decide), q_up_ne _ (by decide), q_up_ne _ (by decide), q_up_ne _ (by decide), q_up_ne _ (by decide)]
  have a4 : q_addB d y f p dep 4 = d 4 := by unfold q_addB; rw [q_up_ne _ (by decide), q_up_ne _ (by decide), q_up_ne _ (by decide), q_up_ne _ (by decide), q_up_ne _ (by decide)]
  have a7 : q_addB d y f p dep 7 = upd (d 7) (p * 3 + (dep - 1)) (nI f) := by unfold q_addB; rw [q_up_ne _ (by decide), q_up_ne _ (by decide), q_up_ne _ (by decide), q_up_ne _ (by decide), q_up_at]
  have a8 : q_addB d y f p dep 8 = upd (d 8) (p * 3 + (dep - 1)) y := by unfold q_addB; rw [q_up_ne _ (by decide), q_up_ne _ (by decide), q_up_ne _ (by decide), q_up_at, q_up_ne _ (by decide)]
  have a9 : q_addB d y f p dep 9 = upd (d 9) (p * 3 + (dep - 1)) (q_fee d y f p dep) := by unfold q_addB; rw [q_up_ne _ (by decide), q_up_ne _ (by decide), q_up_at, q_up_ne _ (by decide), q_up_ne _ (by decide)]
  unfold INV
  rw [a3, a4, a7, a8, a9]
  refine ⟨h1, fun k hk ho => ?_, h3, fun k hk ho => ?_, fun k hk ho => ?_, fun k hk ho => ?_, h7, h8⟩
  · by_cases e : k = p * 3 + (dep - 1)
    · rw [show k / 3 = p by omega]; exact hr
    · rw [upd_ne e] at ho; exact h2 k hk ho
  · by_cases e : k = p * 3 + (dep - 1)
    · rw [e, upd_at] at ho; exact absurd ho (nI_ne1 (by omega))
    · rw [upd_ne e] at ho; rw [upd_ne e, upd_ne e]; exact h4 k hk ho
  · by_cases e : k = p * 3 + (dep - 1)
    · rw [e, upd_at]; exact hy
    · rw [upd_ne e] at ho; rw [upd_ne e]; exact h5 k hk ho
  · by_cases e : k = p * 3 + (dep - 1)
    · rw [e, upd_at]; exact q_fee_rng hd1 hd3
    · rw [upd_ne e] at ho; rw [upd_ne e]; exact h6 k hk ho
theorem INV_cong {d d' : RW} (h : INV d) (a3 : d' 3 = d 3) (a4 : d' 4 = d 4) (a7 : d' 7 = d 7) (a8 : d' 8 = d 8) (a9 : d' 9 = d 9) : INV d' := by
  unfold INV
  rw [a3, a4, a7, a8, a9]
  exact h
theorem INV_addR {d : RW} {y : Int32} {f p n : Nat} (h : INV d) : INV (q_addR d y f p n) := by
  unfold q_addR q_chg
  refine INV_cong h ?_ ?_ ?_ ?_ ?_ <;> rw [q_up_ne _ (by decide), q_up_ne _ (by decide), q_up_ne _ (by decide)]
theorem INV_addV {d : RW} {f p : Nat} (h : INV d) (hf : f < 10) (hr : d 3 p ≠ nI 3) : INV (q_addV d f p) := by
  obtain ⟨h1, h2, h3, h4, h5, h6, h7, h8⟩ := h
  have a4 : q_addV d f p 4 = upd (d 4) p (nI f) := by unfold q_addV q_chg; rw [q_up_ne _ (by decide), q_up_ne _ (by decide), q_up_ne _ (by decide), q_up_at]
  have a3 : q_addV d f p 3 = d 3 := by unfold q_addV q_chg; rw [q_up_ne _ (by decide), q_up_ne _ (by decide), q_up_ne _ (by decide), q_up_ne _ (by decide)]
  have a7 : q_addV d f p 7 = d 7 := by unfold q_addV q_chg; rw [q_up_ne _ (by decide), q_up_ne _ (by decide), q_up_ne _ (by decide), q_up_ne _ (by decide)]
  have a8 : q_addV d f p 8 = d 8 := by unfold q_addV q_chg; rw [q_up_ne _ (by decide), q_up_ne _ (by decide), q_up_ne _ (by decide), q_up_ne _ (by decide)]
  have a9 : q_addV d f p 9 = d 9 := by unfold q_addV q_chg; rw [q_up_ne _ (by decide), q_up_ne _ (by decide), q_up_ne _ (by decide), q_up_ne _ (by decide)]
  unfold INV
  rw [a3, a4, a7, a8, a9]
  refine ⟨h1, h2, fun q hq ho => ?_, h4, h5, h6, h7, fun q hq ho => ?_⟩
  · by_cases e : q = p
    · subst e; exact hr
    · rw [upd_ne e] at ho; exact h3 q hq ho
  · by_cases e : q = p
    · subst e; exact ⟨f, hf, upd_at⟩
    · rw [upd_ne e] at ho ⊢; exact h8 q hq ho
theorem INV_par {d : RW} {f : Nat} {v : Int32} (h : INV d) : INV (q_up d 0 f v) := by
  refine INV_cong h ?_ ?_ ?_ ?_ ?_ <;> rw [q_up_ne _ (by decide)]
theorem INV_rm1 {d : RW} {k0 : Nat} (h : INV d) : INV (q_up (q_up (q_up d 7 k0 (-1)) 8 k0 (-1)) 9 k0 (-1)) := by
  obtain ⟨h1, h2, h3, h4, h5, h6, h7, h8⟩ := h
  have a7 : q_up (q_up (q_up d 7 k0 (-1)) 8 k0 (-1)) 9 k0 (-1) 7 = upd (d 7) k0 (-1) := by rw [q_up_ne _ (by decide), q_up_ne _ (by decide), q_up_at]
  have a8 : q_up (q_up (q_up d 7 k0 (-1)) 8 k0 (-1)) 9 k0 (-1) 8 = upd (d 8) k0 (-1) := by rw [q_up_ne _ (by decide), q_up_at, q_up_ne _ (by decide)]
  have a9 : q_up (q_up (q_up d 7 k0 (-1)) 8 k0 (-1)) 9 k0 (-1) 9 = upd (d 9) k0 (-1) := by rw [q_up_at, q_up_ne _ (by decide), q_up_ne _ (by decide)]
  have a3 : q_up (q_up (q_up d 7 k0 (-1)) 8 k0 (-1)) 9 k0 (-1) 3 = d 3 := by rw [q_up_ne _ (by decide), q_up_ne _ (by decide), q_up_ne _ (by decide)]
  have a4 : q_up (q_up (q_up d 7 k0 (-1)) 8 k0 (-1)) 9 k0 (-1) 4 = d 4 := by rw [q_up_ne _ (by decide), q_up_ne _ (by decide), q_up_ne _ (by decide)]
  unfold INV
  rw [a3, a4, a7, a8, a9]
  refine ⟨h1, fun k hk ho => ?_, h3, fun k hk ho => ?_, fun k hk ho => ?_, fun k hk ho => ?_, h7, h8⟩
  · by_cases e : k = k0
    · rw [e, upd_at] at ho; exact absurd rfl ho
    · rw [upd_ne e] at ho; exact h2 k hk ho
  · by_cases e : k = k0
    · rw [e, upd_at, upd_at]; exact ⟨rfl, rfl⟩
    · rw [upd_ne e] at ho; rw [upd_ne e, upd_ne e]; exact h4 k hk ho
  · by_cases e : k = k0
    · rw [e, upd_at] at ho; exact absurd rfl ho
    · rw [upd_ne e] at ho; rw [upd_ne e]; exact h5 k hk ho
  · by_cases e : k = k0
    · rw [e, upd_at] at ho; exact absurd rfl ho
    · rw [upd_ne e] at ho; rw [upd_ne e]; exact h6 k hk ho
theorem INV_rm {d : RW} {p : Nat} (h : INV d) : ∀ j, INV (q_rm d p j) := by
  intro j
  induction j with
  | zero => exact h
  | succ j ih => exact INV_rm1 ih
/-! a list's entries carried out -/
noncomputable def q_ldE (d : RW) (y : Int32) (e : QE) : Option RW :=
  if e.1 = 0 then (if q_ref d y (q_rc d) (nI e.2.1) e.2.2.1 e.2.2.2 = nI 0 then some (q_addB d y e.2.1 e.2.2.1 e.2.2.2) else none)
  else (if d 3 e.2.2.1 ≠ nI 3 ∧ d 4 e.2.2.1 = -1 ∧ ¬ q_oth (q_hold d y e.2.2.1) (nI e.2.1) then some (q_addR d y e.2.1 e.2.2.1 e.2.2.2) else none)
noncomputable def q_ldn (d : RW) (y : Int32) (L : List QE) : Nat → Option RW
  | 0 => some d
  | n + 1 => match q_ldn d y L n with
    | none => none
    | some d' => match L[n]? with
      | none => none
      | some e => q_ldE d' y e
noncomputable def q_ldc (d : RW) (y : Int32) (L : List QE) : Nat → Nat
  | 0 => 0
  | n + 1 => if (q_ldn d y L (n + 1)).isSome then n + 1 else q_ldc d y L n
theorem q_ldn_s {d d' : RW} {y : Int32} {L : List QE} {n : Nat} {e : QE} (h : q_ldn d y L n = some d') (he : L[n]? = some e) : q_ldn d y L (n + 1) = q_ldE d' y e := by
  show (match q_ldn d y L n with | none => none | some d' => (match L[n]? with | none => none | some e => q_ldE d' y e)) = _
  rw [h]
  show (match L[n]? with | none => none | some e => q_ldE d' y e) = _
  rw [he]
theorem q_ldn_none {d : RW} {y : Int32} {L : List QE} {k : Nat} (h : q_ldn d y L k = none) : ∀ n, k ≤ n → q_ldn d y L n = none := by
  intro n
  induction n with
  | zero => intro hk; obtain rfl : k = 0 := by omega
            exact h
  | succ n ih =>
    intro hk
    by_cases e : k = n + 1
    · subst e; exact h
    · show (match q_ldn d y L n with | none => none | some d' => _) = none
      rw [ih (by omega)]
theorem q_ldc_some {d d' : RW} {y : Int32} {L : List QE} {k : Nat} (h : q_ldn d y L k = some d') : q_ldc d y L k = k := by
  cases k with
  | zero => rfl
  | succ k => exact if_pos (by rw [h]; rfl)
theorem q_ldc_none {d d' : RW} {y : Int32} {L : List QE} {k : Nat} (h : q_ldn d y L k = some d') (h1 : q_ldn d y L (k + 1) = none) : ∀ n, k ≤ n → q_ldc d y L n = k := by
  intro n
  induction n with
  | zero => intro hk; obtain rfl : k = 0 := by omega
            rfl
  | succ n ih =>
    intro hk
    by_cases e : k = n + 1
    · subst e; exact q_ldc_some h
    · show (if (q_ldn d y L (n + 1)).isSome then n + 1 else q_ldc d y L n) = k
      rw [q_ldn_none h1 (n + 1) (by omega), if_neg (by simp)]
      exact ih (by omega)
/-- how many entries are carried out, and the ground then -/
noncomputable def q_ldk (d : RW) (y : Int32) (L : List QE) : Nat := q_ldc d y L L.length
noncomputable def q_ldd (d : RW) (y : Int32) (L : List QE) : RW := (q_ldn d y L (q_ldk d y L)).getD d
theorem q_ld_end {d d' : RW} {y : Int32} {L : List QE} {k : Nat} (hk : k ≤ L.length) (h : q_ldn d y L k = some d') (h1 : k = L.length ∨ q_ldn d y L (k + 1) = none) : q_ldk d y L = k ∧ q_ldd d y L = d' := by
  have e : q_ldk d y L = k := by
    unfold q_ldk
    rcases h1 with h1 | h1
    · rw [← h1]; exact q_ldc_some h
    · exact q_ldc_none h h1 _ hk
  refine ⟨e, ?_⟩
  unfold q_ldd
  rw [e, h]
  rfl
theorem q_ref_kind {d : RW} {y : Int32} {rc : Nat → Bool} {f : Int32} {p dep : Nat} (h : q_ref d y rc f p dep = nI 0) : d 3 p ≠ nI 3 := by
  intro q
  unfold q_ref at h
  rw [if_pos q] at h
  exact absurd h (by decide)
