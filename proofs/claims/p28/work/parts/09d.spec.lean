/-- the reference's one row z, read as the rows of a ground -/
def q_nz (z : Nat → Int32) : RW := fun j k => match j with
  | 0 => if k < 10 then z (520 + k) else nI 1
  | 1 => if k < 10 then z (530 + k) else 0
  | 2 => if k < 10 then z (540 + k) else 0
  | 3 => if k < 40 then z k else nI 0
  | 4 => if k < 40 then z (40 + k) else -1
  | 5 => if k < 40 then z (80 + k) else -1
  | 6 => if k < 40 then z (120 + k) else -1
  | 7 => if k < 120 then z (160 + k) else -1
  | 8 => if k < 120 ∧ z (160 + k) ≠ -1 then z (280 + k) else -1
  | 9 => if k < 120 ∧ z (160 + k) ≠ -1 then z (400 + k) else -1
  | _ => 0
section ZR
variable {z : Nat → Int32} {k x : Nat}
theorem zr0 (hk : k < 10) (hx : x = 520 + k) : z x = q_nz z 0 k := by subst hx; exact (if_pos hk).symm
theorem zr1 (hk : k < 10) (hx : x = 530 + k) : z x = q_nz z 1 k := by subst hx; exact (if_pos hk).symm
theorem zr2 (hk : k < 10) (hx : x = 540 + k) : z x = q_nz z 2 k := by subst hx; exact (if_pos hk).symm
theorem zr3 (hk : k < 40) (hx : x = k) : z x = q_nz z 3 k := by subst hx; exact (if_pos hk).symm
theorem zr4 (hk : k < 40) (hx : x = 40 + k) : z x = q_nz z 4 k := by subst hx; exact (if_pos hk).symm
theorem zr5 (hk : k < 40) (hx : x = 80 + k) : z x = q_nz z 5 k := by subst hx; exact (if_pos hk).symm
theorem zr6 (hk : k < 40) (hx : x = 120 + k) : z x = q_nz z 6 k := by subst hx; exact (if_pos hk).symm
theorem zr7 (hk : k < 120) (hx : x = 160 + k) : z x = q_nz z 7 k := by subst hx; exact (if_pos hk).symm
theorem zr8 (hk : k < 120) (hx : x = 280 + k) (hg : q_nz z 7 k ≠ -1) : z x = q_nz z 8 k := by subst hx; exact (if_pos ⟨hk, by rw [zr7 (z := z) hk rfl]; exact hg⟩).symm
theorem zr9 (hk : k < 120) (hx : x = 400 + k) (hg : q_nz z 7 k ≠ -1) : z x = q_nz z 9 k := by subst hx; exact (if_pos ⟨hk, by rw [zr7 (z := z) hk rfl]; exact hg⟩).symm
end ZR
section WZ
variable {p : Program} {l : Launch} {e : Env} {R : Room} {s : State} {m : MethodId} {args : Array Value} {below : List Frame} {meth : Method} {c : Code} {H : Heap} {locs : List Loc} {cells slots : Nat} {Q : State → Prop}
variable {cc : ByteArray} {own : String} {nL pc : Nat} {ret : Option FieldType} {vs : List (Option Value)} {st : List Value}
variable {dC : Nat → ClassId} {dI : Nat → Nat → Nat} {cI cL cJ : ClassId}
theorem g_zal (C : CX p s m args meth c cc own nL ret) {o : Nat} {t : Nat → Nat} {A : RW} {i : Nat → Int32} {h : Int64} (hK : EV dC dI cI cL cJ s) (hP : va_P (dC, dI) vwCl (MW cI o t A i h) H) {x : Nat} {v : Int32} (hx : x < 551) (hv : A 0 x = v) (hd : decode cc pc = .ok (.iaload, 1))
    (kk : G p l e R s m args below meth c H locs cells slots Q vs (pc + 1) (.int v :: st)) : G p l e R s m args below meth c H locs cells slots Q vs pc (.int (nI x) :: .ref (t 0) :: st) := by
  subst hv
  exact g_iald C hK hP 1 0 rfl rfl hx (by decide) hd kk
end WZ
def q_bsd (p side : Nat) : Option Nat := match side with
  | 0 => if p < 8 then none else some (p - 8)
  | 1 => if p % 8 = 7 then none else some (p + 1)
  | 2 => if 31 < p then none else some (p + 8)
  | _ => if p % 8 = 0 then none else some (p - 1)
theorem q_bsd_lt {p side q : Nat} (hp : p < 40) (h : q_bsd p side = some q) : q < 40 := by
  unfold q_bsd at h
  split at h <;> split at h <;> first | (cases h; done) | (cases h; omega)
def q_w1 (w : Nat → Int32) (o : Option Nat) : Bool := match o with
  | none => false
  | some q => decide (w q = nI 1)
def q_wn (w : Nat → Int32) (p : Nat) : Nat → Bool
  | 0 => decide (p = 0)
  | n + 1 => q_wn w p n || q_w1 w (q_bsd p n)
def q_wr (w : Nat → Int32) (p : Nat) : Bool := q_wn w p 4
def q_lm (d : RW) (p : Nat) : Nat → Int32
  | 0 => -1
  | n + 1 => if d 7 (p * 3 + n) ≠ -1 ∧ q_lm d p n < d 8 (p * 3 + n) then d 8 (p * 3 + n) else q_lm d p n
theorem q_free_bur {d : RW} {p : Nat} : q_bur d p = 0 → q_free d p = 3 := by
  intro h
  have h0 : ∀ j, j < 3 → d 7 (p * 3 + j) = -1 := by
    intro j hj
    apply Classical.byContradiction
    intro hn
    have h3 : q_cn (fun j => d 7 (p * 3 + j) ≠ -1) 3 = 0 := h
    have e1 : q_cn (fun j => d 7 (p * 3 + j) ≠ -1) 3 = (((0 + (if d 7 (p * 3 + 0) ≠ -1 then 1 else 0)) + (if d 7 (p * 3 + 1) ≠ -1 then 1 else 0)) + (if d 7 (p * 3 + 2) ≠ -1 then 1 else 0) : Nat) := rfl
    rw [e1] at h3
    rcases (show j = 0 ∨ j = 1 ∨ j = 2 by omega) with rfl | rfl | rfl <;> rw [if_pos hn] at h3 <;> omega
  unfold q_free
  rw [if_neg (fun z => z (h0 0 (by omega))), if_neg (fun z => z (h0 1 (by omega))), if_neg (fun z => z (h0 2 (by omega)))]
theorem q_lm_lat {d : RW} {p : Nat} (hki : INV d) (hp : p < 40) (h : 0 < q_bur d p) : q_lm d p 3 = q_lat d p := by
  have key : ∀ n, n ≤ 3 → (q_cn (fun j => d 7 (p * 3 + j) ≠ -1) n = 0 ∧ q_lm d p n = -1 ∧ q_mx (fun j => d 8 (p * 3 + j)) n = nI 0) ∨ (q_lm d p n = q_mx (fun j => d 8 (p * 3 + j)) n ∧ nI 0 ≤ q_lm d p n) := by
    intro n
    induction n with
    | zero => intro _; exact Or.inl ⟨rfl, rfl, rfl⟩
    | succ n ih =>
      intro hn
      have hk : p * 3 + n < 120 := by omega
      by_cases ho : d 7 (p * 3 + n) = -1
      · have e8 : d 8 (p * 3 + n) = -1 := (hki.2.2.2.1 _ hk ho).1
        have a1 : q_lm d p (n + 1) = q_lm d p n := if_neg (fun z => z.1 ho)
        have a2 : ∀ v, nI 0 ≤ v → (if v < d 8 (p * 3 + n) then d 8 (p * 3 + n) else v) = v := by
          intro v hv
          refine if_neg (fun z => ?_)
          rw [e8, Int32.lt_iff_toInt_lt] at z
          rw [Int32.le_iff_toInt_le] at hv
          have : (nI 0).toInt = 0 := by decide
          have : (-1 : Int32).toInt = -1 := by decide
          omega
        rcases ih (by omega) with ⟨i1, i2, i3⟩ | ⟨i1, i2⟩
        · refine Or.inl ⟨by rw [q_cn_f (P := fun j => d 7 (p * 3 + j) ≠ -1) (fun z => z ho)]; exact i1, by rw [a1]; exact i2, ?_⟩
          show (if q_mx (fun j => d 8 (p * 3 + j)) n < d 8 (p * 3 + n) then d 8 (p * 3 + n) else q_mx (fun j => d 8 (p * 3 + j)) n) = nI 0
          rw [i3]
          exact a2 _ (by decide)
        · refine Or.inr ⟨?_, by rw [a1]; exact i2⟩
          show q_lm d p (n + 1) = (if q_mx (fun j => d 8 (p * 3 + j)) n < d 8 (p * 3 + n) then d 8 (p * 3 + n) else q_mx (fun j => d 8 (p * 3 + j)) n)
          rw [a1, ← i1]
          exact (a2 _ i2).symm
      · have h8 : nI 0 ≤ d 8 (p * 3 + n) := hki.2.2.2.2.1 _ hk ho
        rcases ih (by omega) with ⟨i1, i2, i3⟩ | ⟨i1, i2⟩
        · have a1 : q_lm d p (n + 1) = d 8 (p * 3 + n) := by
            refine if_pos ⟨ho, ?_⟩
            rw [i2, Int32.lt_iff_toInt_lt]
            rw [Int32.le_iff_toInt_le] at h8
            have : (nI 0).toInt = 0 := by decide
            have : (-1 : Int32).toInt = -1 := by decide
            omega
          refine Or.inr ⟨?_, by rw [a1]; exact h8⟩
          rw [a1]
          show d 8 (p * 3 + n) = (if q_mx (fun j => d 8 (p * 3 + j)) n < d 8 (p * 3 + n) then d 8 (p * 3 + n) else q_mx (fun j => d 8 (p * 3 + j)) n)
          rw [i3]
          split
          · rfl
          · rename_i hq
            exact Int32.le_antisymm (Int32.not_lt.mp hq) h8
        · by_cases hl : q_lm d p n < d 8 (p * 3 + n)
          · have a1 : q_lm d p (n + 1) = d 8 (p * 3 + n) := if_pos ⟨ho, hl⟩
            refine Or.inr ⟨?_, by rw [a1]; exact h8⟩
            rw [a1]
            show _ = (if q_mx (fun j => d 8 (p * 3 + j)) n < d 8 (p * 3 + n) then d 8 (p * 3 + n) else q_mx (fun j => d 8 (p * 3 + j)) n)
            rw [← i1, if_pos hl]
          · have a1 : q_lm d p (n + 1) = q_lm d p n := if_neg (fun z => hl z.2)
            refine Or.inr ⟨?_, by rw [a1]; exact i2⟩
            rw [a1]
            show _ = (if q_mx (fun j => d 8 (p * 3 + j)) n < d 8 (p * 3 + n) then d 8 (p * 3 + n) else q_mx (fun j => d 8 (p * 3 + j)) n)
            rw [← i1, if_neg hl]
  rcases key 3 (by omega) with ⟨h1, -, -⟩ | ⟨h1, -⟩
  · have h2 : q_bur d p = 0 := h1
    omega
  · exact h1
/-- a counter that runs down below 0 -/
def nJ (j : Nat) : Int32 := match j with
  | 0 => -1
  | k + 1 => nI k
theorem nJ_neg (j : Nat) : True := trivial
theorem nJ_zero {j : Nat} (hj : j < 2147483648) (h : nJ j < 0) : j = 0 := by
  cases j with
  | zero => rfl
  | succ k => exact absurd h (by show ¬ nI k < 0; exact nI_pos (by omega))
theorem nJ_dec (j : Nat) (hj : j < 2147483648) : nI j + Int32.ofInt (-1) = nJ j := by
  cases j with
  | zero => decide
  | succ k => exact pk_m1 k
/-- the highest place in use among the depths from 3 - n on, 4 where there is none -/
def q_hi (d : RW) (p : Nat) (j : Nat) : Nat := if j ≤ 0 ∧ d 7 (p * 3 + 0) ≠ -1 then 1 else if j ≤ 1 ∧ d 7 (p * 3 + 1) ≠ -1 then 2 else if j ≤ 2 ∧ d 7 (p * 3 + 2) ≠ -1 then 3 else 4
theorem q_hi_free (d : RW) (p : Nat) : q_hi d p 0 = q_free d p + 1 := by
  unfold q_hi q_free
  by_cases h0 : d 7 (p * 3) = -1
  · by_cases h1 : d 7 (p * 3 + 1) = -1
    · by_cases h2 : d 7 (p * 3 + 2) = -1
      · simp [h0, h1, h2]
      · simp [h0, h1, h2]
    · simp [h0, h1]
  · simp [h0]
theorem q_hi_s (d : RW) (p j : Nat) (hj : j < 3) : q_hi d p j = if d 7 (p * 3 + j) = -1 then q_hi d p (j + 1) else j + 1 := by
  rcases (show j = 0 ∨ j = 1 ∨ j = 2 by omega) with rfl | rfl | rfl
  · unfold q_hi; by_cases h0 : d 7 (p * 3) = -1 <;> simp [h0]
  · unfold q_hi; by_cases h0 : d 7 (p * 3 + 1) = -1 <;> simp [h0]
  · unfold q_hi; by_cases h0 : d 7 (p * 3 + 2) = -1 <;> simp [h0]
