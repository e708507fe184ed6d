/-! what the class's Ledger answers is what the reference answers -/
theorem q_fee_mono {d : RW} {y : Int32} {f p a b : Nat} (h1 : 1 ≤ a) (hab : a ≤ b) (hb : b ≤ 3) : ¬ q_fee d y f p b < q_fee d y f p a := by
  unfold q_fee q_pr
  by_cases c1 : d 4 p ≠ -1 <;> by_cases c2 : d 0 f = nI 1 <;> by_cases c3 : d 5 p = nI f ∧ q_kept d y p
  · rw [if_pos c1, if_pos c2, if_pos c2, if_pos c3, nI_add, nI_add, pk_sub (by omega), pk_sub (by omega)]; exact nI_nlt (by omega) (by omega)
  · rw [if_pos c1, if_pos c2, if_pos c2, if_neg c3, nI_add, nI_add, pk_sub (by omega), pk_sub (by omega)]; exact nI_nlt (by omega) (by omega)
  · rw [if_pos c1, if_neg c2, if_neg c2, if_pos c3, nI_add, nI_add, pk_mul, pk_mul, pk_sub (by omega), pk_sub (by omega)]; exact nI_nlt (by omega) (by omega)
  · rw [if_pos c1, if_neg c2, if_neg c2, if_neg c3, nI_add, nI_add, pk_mul, pk_mul, pk_sub (by omega), pk_sub (by omega)]; exact nI_nlt (by omega) (by omega)
  · rw [if_neg c1, if_pos c2, if_pos c2, if_pos c3, nI_add, nI_add, pk_sub (by omega), pk_sub (by omega)]; exact nI_nlt (by omega) (by omega)
  · rw [if_neg c1, if_pos c2, if_pos c2, if_neg c3, nI_add, nI_add, pk_sub (by omega), pk_sub (by omega)]; exact nI_nlt (by omega) (by omega)
  · rw [if_neg c1, if_neg c2, if_neg c2, if_pos c3, nI_add, nI_add, pk_mul, pk_mul, pk_sub (by omega), pk_sub (by omega)]; exact nI_nlt (by omega) (by omega)
  · rw [if_neg c1, if_neg c2, if_neg c2, if_neg c3, nI_add, nI_add, pk_mul, pk_mul, pk_sub (by omega), pk_sub (by omega)]; exact nI_nlt (by omega) (by omega)
theorem q_fee_ne {d : RW} {y : Int32} {f p a : Nat} (h1 : 1 ≤ a) (h3 : a ≤ 3) : q_fee d y f p a ≠ -1 := by
  obtain ⟨v, h1, h2, h3⟩ := q_fee_rng (d := d) (y := y) (f := f) (p := p) h1 h3
  rw [h3]; exact nI_ne1 (by omega)
theorem q_lf_ow {d : RW} {y : Int32} {rc : Nat → Bool} {f p : Nat} : q_lf d y rc f p 3 = q_ow d y rc f p 3 := by
  have m12 := q_fee_mono (d := d) (y := y) (f := f) (p := p) (a := 1) (b := 2) (by decide) (by decide) (by decide)
  have m13 := q_fee_mono (d := d) (y := y) (f := f) (p := p) (a := 1) (b := 3) (by decide) (by decide) (by decide)
  have m23 := q_fee_mono (d := d) (y := y) (f := f) (p := p) (a := 2) (b := 3) (by decide) (by decide) (by decide)
  have n1 := q_fee_ne (d := d) (y := y) (f := f) (p := p) (a := 1) (by decide) (by decide)
  have n2 := q_fee_ne (d := d) (y := y) (f := f) (p := p) (a := 2) (by decide) (by decide)
  have e1 : q_lf d y rc f p 1 = if q_ref d y rc (nI f) p 1 = 0 then q_fee d y f p 1 else -1 := by
    show (if q_ref d y rc (nI f) p 1 = 0 then (if (-1 : Int32) = -1 then q_fee d y f p 1 else _) else (-1 : Int32)) = _
    rw [if_pos rfl]
  have e2 : q_lf d y rc f p 2 = if q_ref d y rc (nI f) p 2 = 0 then (if q_lf d y rc f p 1 = -1 then q_fee d y f p 2 else if q_fee d y f p 2 < q_lf d y rc f p 1 then q_fee d y f p 2 else q_lf d y rc f p 1) else q_lf d y rc f p 1 := rfl
  have e3 : q_lf d y rc f p 3 = if q_ref d y rc (nI f) p 3 = 0 then (if q_lf d y rc f p 2 = -1 then q_fee d y f p 3 else if q_fee d y f p 3 < q_lf d y rc f p 2 then q_fee d y f p 3 else q_lf d y rc f p 2) else q_lf d y rc f p 2 := rfl
  have eo : q_ow d y rc f p 3 = if q_ref d y rc (nI f) p 1 = 0 then q_fee d y f p 1 else if q_ref d y rc (nI f) p 2 = 0 then q_fee d y f p 2 else if q_ref d y rc (nI f) p 3 = 0 then q_fee d y f p 3 else -1 := rfl
  rw [eo, e3, e2, e1]
  by_cases r1 : q_ref d y rc (nI f) p 1 = 0
  · rw [if_pos r1, if_neg n1, if_neg m12]
    have e : (if q_ref d y rc (nI f) p 2 = 0 then q_fee d y f p 1 else q_fee d y f p 1) = q_fee d y f p 1 := by split <;> rfl
    rw [e, if_neg n1, if_neg m13]
    split <;> rfl
  · rw [if_neg r1, if_neg r1, if_pos (rfl : (-1 : Int32) = -1)]
    by_cases r2 : q_ref d y rc (nI f) p 2 = 0
    · rw [if_pos r2, if_neg n2, if_neg m23, if_pos r2]
      split <;> rfl
    · rw [if_neg r2, if_neg r2, if_pos (rfl : (-1 : Int32) = -1)]
theorem q_best_M {d : RW} {y : Int32} {rc : Nat → Bool} {f : Nat} : ∀ n, q_best d y rc f n = q_bestM d y rc f n := by
  intro n
  induction n with
  | zero => rfl
  | succ n ih => unfold q_best q_bestM; rw [ih, q_lf_ow]
theorem q_lf_rc {d : RW} {y : Int32} {rc rc2 : Nat → Bool} {f p : Nat} (h : rc p = rc2 p) : ∀ n, q_lf d y rc f p n = q_lf d y rc2 f p n := by
  intro n
  induction n with
  | zero => rfl
  | succ n ih => unfold q_lf; rw [ih, q_ref_rc h]
theorem q_fm_3 {d : RW} {y : Int32} {f : Nat} : ∀ n, q_fm d y f 3 n = q_cn (fun k => d 7 k = nI f) (n * 3) := by
  intro n
  induction n with
  | zero => rfl
  | succ n ih =>
    have e1 : q_fm1 d y f 3 n = 0 := if_neg (by rintro (h | h) <;> exact absurd h.1 (by decide))
    have e3 : q_fm3 d f 3 n 3 = ((0 + (if d 7 (n * 3) = nI f then 1 else 0)) + (if d 7 (n * 3 + 1) = nI f then 1 else 0)) + (if d 7 (n * 3 + 2) = nI f then 1 else 0) := by
      have g : ∀ k, (if (3 : Nat) = 3 ∧ d 7 k = nI f then (1 : Nat) else 0) = if d 7 k = nI f then 1 else 0 := fun k => by
        by_cases c : d 7 k = nI f
        · rw [if_pos ⟨rfl, c⟩, if_pos c]
        · rw [if_neg (fun z => c z.2), if_neg c]
      show ((0 + (if (3 : Nat) = 3 ∧ d 7 (n * 3 + 0) = nI f then 1 else 0)) + (if (3 : Nat) = 3 ∧ d 7 (n * 3 + 1) = nI f then 1 else 0)) + (if (3 : Nat) = 3 ∧ d 7 (n * 3 + 2) = nI f then 1 else 0) = _
      rw [g, g, g]
      rfl
    have ec : q_cn (fun k => d 7 k = nI f) (n * 3 + 3) = ((q_cn (fun k => d 7 k = nI f) (n * 3) + (if d 7 (n * 3) = nI f then 1 else 0)) + (if d 7 (n * 3 + 1) = nI f then 1 else 0)) + (if d 7 (n * 3 + 2) = nI f then 1 else 0) := rfl
    show (q_fm d y f 3 n + q_fm1 d y f 3 n) + q_fm3 d f 3 n 3 = _
    rw [ih, e1, e3, show (n + 1) * 3 = n * 3 + 3 by omega, ec, Nat.add_zero]
    omega
theorem q_fm3_0 {d : RW} {f what p : Nat} (h : what ≠ 3) : ∀ j, q_fm3 d f what p j = 0 := by
  intro j
  induction j with
  | zero => rfl
  | succ j ih => show q_fm3 d f what p j + _ = 0; rw [ih, if_neg (fun z => h z.1)]
theorem q_fm_4 {d : RW} {y : Int32} {f : Nat} : ∀ n, q_fm d y f 4 n = q_cn (fun p => q_hold d y p = nI f) n := by
  intro n
  induction n with
  | zero => rfl
  | succ n ih =>
    show (q_fm d y f 4 n + q_fm1 d y f 4 n) + q_fm3 d f 4 n 3 = q_cn _ n + _
    rw [ih, q_fm3_0 (by decide)]
    unfold q_fm1
    by_cases c : q_hold d y n = nI f
    · rw [if_pos (Or.inl ⟨rfl, c⟩), if_pos c]
    · rw [if_neg (by rintro (z | z); exact c z.2; exact absurd z.1 (by decide)), if_neg c]
theorem q_fm_5 {d : RW} {y : Int32} {f : Nat} : ∀ n, q_fm d y f 5 n = q_cn (fun p => d 4 p = nI f) n := by
  intro n
  induction n with
  | zero => rfl
  | succ n ih =>
    show (q_fm d y f 5 n + q_fm1 d y f 5 n) + q_fm3 d f 5 n 3 = q_cn _ n + _
    rw [ih, q_fm3_0 (by decide)]
    unfold q_fm1
    by_cases c : d 4 n = nI f
    · rw [if_pos (Or.inr ⟨rfl, c⟩), if_pos c]
    · rw [if_neg (by rintro (z | z); exact absurd z.1 (by decide); exact c z.2), if_neg c]
theorem q_fp_M {d : RW} {y : Int32} {f what : Nat} (hw : what ≤ 5) : q_fp d y f what = q_fpM d y f what := by
  unfold q_fpM
  rcases (show what = 0 ∨ what = 1 ∨ what = 2 ∨ what = 3 ∨ what = 4 ∨ what = 5 by omega) with rfl | rfl | rfl | rfl | rfl | rfl
  · exact (if_pos (by decide)).symm
  · exact (if_pos (by decide)).symm
  · exact (if_pos (by decide)).symm
  · rw [if_neg (by decide), q_fm_3]; rfl
  · rw [if_neg (by decide), q_fm_4]; rfl
  · rw [if_neg (by decide), q_fm_5]; rfl
theorem q_yor_M {d : RW} {y : Int32} {p : Nat} : ∀ n, n ≤ 3 → q_yor d y p n = q_yoM d y p n := by
  intro n
  induction n with
  | zero => intro _; rfl
  | succ n ih =>
    intro hn
    unfold q_yor q_yoM
    rw [ih (by omega)]
    have e : q_eor d (p * 3 + n) = d 8 (p * 3 + n) + q_yr d p := by unfold q_eor; rw [show (p * 3 + n) / 3 = p by omega]
    rw [e]
    by_cases c : d 7 (p * 3 + n) ≠ -1
    · rw [if_pos c]
      by_cases c2 : q_yoM d y p n < d 8 (p * 3 + n) + q_yr d p
      · rw [if_pos c2, if_pos ⟨c, c2⟩]
      · rw [if_neg c2, if_neg (fun z => c2 z.2)]
    · rw [if_neg c, if_neg (fun z => c z.1)]
/-! numbers of the whole ground -/
theorem q_ct1_0 {d : RW} {what : Nat} (h : what ≠ 7) : ∀ n, q_ct1 d what n = nI 0 := by
  intro n
  induction n with
  | zero => rfl
  | succ n ih => show q_ct1 d what n + _ = _; rw [ih, if_neg h]; rfl
theorem q_ct1_7 {d : RW} : ∀ n, q_ct1 d 7 n = q_sI (fun f => d 1 f) n := by
  intro n
  induction n with
  | zero => rfl
  | succ n ih => show q_ct1 d 7 n + _ = _ + _; rw [ih, if_pos rfl]
theorem q_ct2_N {d : RW} {y : Int32} {rc : Nat → Bool} {what : Nat} {g : Nat → Nat} (h7 : what ≠ 7) (hg : ∀ p, p < 40 → g p = q_i1 d y what p + q_i2 d rc what p + q_i3 d y what p) : ∀ n, n ≤ 40 → q_ct2 d y rc what n = nI (q_sN g n) := by
  intro n
  induction n with
  | zero => intro _; exact q_ct1_0 h7 10
  | succ n ih =>
    intro hn
    show ((q_ct2 d y rc what n + nI (q_i1 d y what n)) + nI (q_i2 d rc what n)) + nI (q_i3 d y what n) = nI (q_sN g n + g n)
    rw [ih (by omega), nI_add, nI_add, nI_add, hg n (by omega)]
    congr 1
    omega
theorem q_sN_cn {P : Nat → Prop} [DecidablePred P] {g : Nat → Nat} : ∀ n, (∀ p, p < n → g p = if P p then 1 else 0) → q_sN g n = q_cn P n := by
  intro n
  induction n with
  | zero => intro _; rfl
  | succ n ih => intro h; show q_sN g n + g n = q_cn P n + _; rw [ih (fun p hp => h p (by omega)), h n (by omega)]
theorem q_i1_0 {d : RW} {y : Int32} {what p : Nat} (h1 : what ≠ 1) (h2 : what ≠ 2) : q_i1 d y what p = 0 := by unfold q_i1; rw [if_neg h1, if_neg h2]
theorem q_i2_0 {d : RW} {rc : Nat → Bool} {what p : Nat} (h1 : what ≠ 3) (h2 : what ≠ 4) : q_i2 d rc what p = 0 := by unfold q_i2; exact if_neg (fun z => z.elim (fun z => h1 z.1) (fun z => h2 z.1))
theorem q_i3_0 {d : RW} {y : Int32} {what p : Nat} (h1 : what ≠ 5) (h2 : what ≠ 6) : q_i3 d y what p = 0 := by unfold q_i3; exact if_neg (fun z => z.elim (fun z => h1 z.1) (fun z => h2 z.1))
/-- so many of the plots have their bit in x -/
theorem q_bc_P {x : Int64} {P : Nat → Prop} [DecidablePred P] (h : ∀ p, p < 64 → (tb x p = true ↔ (p < 40 ∧ P p))) : q_bc x = nI (q_cn P 40) := by
  rw [q_bc_cn (fun i hi => by
    by_cases h4 : i < 64
    · cases hb : tb x i with
      | true => exact absurd ((h i h4).mp hb).1 (by omega)
      | false => rfl
    · exact tb_big (by omega))]
  exact congrArg nI (q_cn_congr 40 (fun k hk => ⟨fun z => ((h k (by omega)).mp z).2, fun z => (h k (by omega)).mpr ⟨hk, z⟩⟩))
theorem q_swap (R : Nat → Nat → Prop) [∀ a, DecidablePred (R a)] (S : Nat → Prop) [DecidablePred S] (n : Nat) : ∀ m, (∀ p, p < m → (q_sN (fun f => if R f p then 1 else 0) n = if S p then 1 else 0)) → q_sN (fun f => q_cn (R f) m) n = q_cn S m := by
  intro m
  induction m with
  | zero =>
    intro _
    have : ∀ n, q_sN (fun f => q_cn (R f) 0) n = 0 := by
      intro n
      induction n with
      | zero => rfl
      | succ n ih => show q_sN _ n + 0 = 0; rw [ih]
    exact this n
  | succ m ih =>
    intro h
    have hs : ∀ n, q_sN (fun f => q_cn (R f) (m + 1)) n = q_sN (fun f => q_cn (R f) m) n + q_sN (fun f => if R f m then 1 else 0) n := by
      intro n
      induction n with
      | zero => rfl
      | succ n ih2 =>
        show q_sN (fun f => q_cn (R f) (m + 1)) n + (q_cn (R n) m + (if R n m then 1 else 0)) = (q_sN (fun f => q_cn (R f) m) n + q_cn (R n) m) + (q_sN (fun f => if R f m then 1 else 0) n + (if R n m then 1 else 0))
        rw [ih2]; omega
    rw [hs n, ih (fun p hp => h p (by omega)), h m (by omega)]
    rfl
theorem q_one {v : Int32} : ∀ n, n ≤ 10 → q_sN (fun f => if v = nI f then 1 else 0) n = if (∃ f, f < n ∧ v = nI f) then 1 else 0 := by
  intro n
  induction n with
  | zero => intro _; exact (if_neg (fun ⟨f, hf, _⟩ => absurd hf (Nat.not_lt_zero f))).symm
  | succ n ih =>
    intro hn
    show q_sN _ n + (if v = nI n then 1 else 0) = _
    rw [ih (by omega)]
    by_cases c : v = nI n
    · rw [if_pos c, if_pos (⟨n, by omega, c⟩ : ∃ f, f < n + 1 ∧ v = nI f), if_neg]
      rintro ⟨f, hf, h⟩
      have := (nI_eq (by omega) (by omega)).mp (h.symm.trans c)
      omega
    · rw [if_neg c]
      by_cases c2 : ∃ f, f < n ∧ v = nI f
      · rw [if_pos c2, if_pos]
        obtain ⟨f, hf, h⟩ := c2
        exact ⟨f, by omega, h⟩
      · rw [if_neg c2, if_neg]
        rintro ⟨f, hf, h⟩
        by_cases e : f = n
        · subst e; exact c h
        · exact c2 ⟨f, by omega, h⟩
theorem q_allV_cn {d : RW} (h : INV d) : q_allV d = q_cn (fun p => d 4 p ≠ -1) 40 := by
  refine q_swap (fun f p => d 4 p = nI f) (fun p => d 4 p ≠ -1) 10 40 (fun p hp => ?_)
  rw [q_one 10 (Nat.le_refl _)]
  by_cases c : d 4 p = -1
  · refine Eq.trans (if_neg ?_) (if_neg (show ¬ (d 4 p ≠ -1) from fun z => z c)).symm
    rintro ⟨f, hf, h2⟩
    exact nI_ne1 (by omega) (h2.symm.trans c)
  · exact Eq.trans (if_pos (h.2.2.2.2.2.2.2 p hp c)) (if_pos (show d 4 p ≠ -1 from c)).symm
theorem q_tot_M {d : RW} {y sv : Int32} {what : Nat} (hi : INV d) (hw : what ≤ 7) : q_tot d y (q_rw d 0) what = q_ctM d y y sv (q_rc d) what := by
  unfold q_ctM
  rcases (show what = 0 ∨ what = 1 ∨ what = 2 ∨ what = 3 ∨ what = 4 ∨ what = 5 ∨ what = 6 ∨ what = 7 by omega) with rfl | rfl | rfl | rfl | rfl | rfl | rfl | rfl
  · exact (if_pos rfl).symm
  · rw [if_neg (by decide), if_neg (by decide), q_ct2_N (g := fun p => q_bur d p) (by decide) (fun p _ => by rw [q_i2_0 (by decide) (by decide), q_i3_0 (by decide) (by decide)]; rfl) 40 (Nat.le_refl _)]
    rfl
  · rw [if_neg (by decide), if_neg (by decide), q_ct2_N (g := fun p => q_rsn d y p) (by decide) (fun p _ => by rw [q_i2_0 (by decide) (by decide), q_i3_0 (by decide) (by decide)]; rfl) 40 (Nat.le_refl _)]
    rfl
  · rw [if_neg (by decide), if_neg (by decide), q_ct2_N (g := fun p => if d 3 p ≠ nI 3 ∧ q_bur d p = 0 then 1 else 0) (by decide) (fun p _ => by
      rw [q_i1_0 (by decide) (by decide), q_i3_0 (by decide) (by decide)]
      show _ = 0 + (if ((3 : Nat) = 3 ∧ d 3 p ≠ nI 3 ∧ q_bur d p = 0) ∨ ((3 : Nat) = 4 ∧ d 3 p ≠ nI 3 ∧ q_rc d p = false) then 1 else 0) + 0
      by_cases c : d 3 p ≠ nI 3 ∧ q_bur d p = 0
      · rw [if_pos c, if_pos (Or.inl ⟨rfl, c.1, c.2⟩)]
      · rw [if_neg c, if_neg (by rintro (z | z); exact c z.2; exact absurd z.1 (by decide))]) 40 (Nat.le_refl _), q_sN_cn (P := fun p => d 3 p ≠ nI 3 ∧ q_bur d p = 0) 40 (fun p _ => rfl)]
    refine q_bc_P (fun p hp => ?_)
    rw [tb_and, tb_soil d hp, tb_opn d hp, Bool.and_eq_true, decide_eq_true_eq, decide_eq_true_eq]
    exact ⟨fun z => ⟨z.1.1, z.1.2, z.2.2.elim (fun e => absurd e z.1.2) id⟩, fun z => ⟨⟨z.1, z.2.1⟩, z.1, Or.inr z.2.2⟩⟩
  · rw [if_neg (by decide), if_neg (by decide), q_ct2_N (g := fun p => if d 3 p ≠ nI 3 ∧ q_rc d p = false then 1 else 0) (by decide) (fun p _ => by
      rw [q_i1_0 (by decide) (by decide), q_i3_0 (by decide) (by decide)]
      show _ = 0 + (if ((4 : Nat) = 3 ∧ d 3 p ≠ nI 3 ∧ q_bur d p = 0) ∨ ((4 : Nat) = 4 ∧ d 3 p ≠ nI 3 ∧ q_rc d p = false) then 1 else 0) + 0
      by_cases c : d 3 p ≠ nI 3 ∧ q_rc d p = false
      · rw [if_pos c, if_pos (Or.inr ⟨rfl, c.1, c.2⟩)]
      · rw [if_neg c, if_neg (by rintro (z | z); exact absurd z.1 (by decide); exact c z.2)]) 40 (Nat.le_refl _), q_sN_cn (P := fun p => d 3 p ≠ nI 3 ∧ q_rc d p = false) 40 (fun p _ => rfl)]
    refine q_bc_P (fun p hp => ?_)
    rw [tb_and, tb_soil d hp, tb_not _ hp, Bool.and_eq_true, decide_eq_true_eq]
    constructor
    · rintro ⟨⟨z1, z2⟩, z3⟩
      have e := q_rb_rc d z1
      rw [q_rb_tb _ hp] at e
      rw [e] at z3
      exact ⟨z1, z2, by cases hq : q_rc d p with | true => rw [hq] at z3; cases z3 | false => rfl⟩
    · rintro ⟨z1, z2, z3⟩
      have e := q_rb_rc d z1
      rw [q_rb_tb _ hp] at e
      exact ⟨⟨z1, z2⟩, by rw [e, z3]; rfl⟩
  · rw [if_neg (by decide), if_neg (by decide), q_ct2_N (g := fun p => if q_kept d y p then 1 else 0) (by decide) (fun p _ => by
      rw [q_i1_0 (by decide) (by decide), q_i2_0 (by decide) (by decide)]
      show _ = 0 + 0 + (if ((5 : Nat) = 5 ∧ q_kept d y p) ∨ ((5 : Nat) = 6 ∧ d 4 p ≠ -1) then 1 else 0)
      by_cases c : q_kept d y p
      · rw [if_pos c, if_pos (Or.inl ⟨rfl, c⟩)]
      · rw [if_neg c, if_neg (by rintro (z | z); exact c z.2; exact absurd z.1 (by decide))]) 40 (Nat.le_refl _), q_sN_cn (P := fun p => q_kept d y p) 40 (fun p _ => rfl)]
    rfl
  · rw [if_neg (by decide), if_neg (by decide), q_ct2_N (g := fun p => if d 4 p ≠ -1 then 1 else 0) (by decide) (fun p _ => by
      rw [q_i1_0 (by decide) (by decide), q_i2_0 (by decide) (by decide)]
      show _ = 0 + 0 + (if ((6 : Nat) = 5 ∧ q_kept d y p) ∨ ((6 : Nat) = 6 ∧ d 4 p ≠ -1) then 1 else 0)
      by_cases c : d 4 p ≠ -1
      · rw [if_pos c, if_pos (Or.inr ⟨rfl, c⟩)]
      · rw [if_neg c, if_neg (by rintro (z | z); exact absurd z.1 (by decide); exact c z.2)]) 40 (Nat.le_refl _), q_sN_cn (P := fun p => d 4 p ≠ -1) 40 (fun p _ => rfl), ← q_allV_cn hi]
    rfl
  · rw [if_neg (by decide), if_neg (by decide)]
    have key : ∀ n, q_ct2 d y (q_rc d) 7 n = q_ct1 d 7 10 := by
      intro n
      induction n with
      | zero => rfl
      | succ n ih =>
        show ((q_ct2 d y (q_rc d) 7 n + nI (q_i1 d y 7 n)) + nI (q_i2 d (q_rc d) 7 n)) + nI (q_i3 d y 7 n) = _
        rw [ih, q_i1_0 (by decide) (by decide), q_i2_0 (by decide) (by decide), q_i3_0 (by decide) (by decide), show nI 0 = 0 from rfl, Int32.add_zero, Int32.add_zero, Int32.add_zero]
    rw [key, q_ct1_7]
    rfl
/-! what a plot cuts off -/
theorem q_rn_mono2 {op op' : Nat → Prop} (h : ∀ q, op q → op' q) : ∀ n p, q_rn op n p → q_rn op' n p := by
  intro n
  induction n with
  | zero => intro p z; exact ⟨z.1, h 0 z.2⟩
  | succ n ih =>
    intro p z
    rcases z with z | ⟨z1, s, q, z2, z3, z4⟩
    · exact Or.inl (ih p z)
    · exact Or.inr ⟨h p z1, s, q, z2, z3, ih q z4⟩
theorem q_rcb_rc {d : RW} {m p : Nat} (hp : p < 40) (h : q_rcb d (nI m) p = true) : q_rc d p = true := by
  unfold q_rcb at h
  unfold q_rc
  have h1 := @of_decide_eq_true _ (Classical.propDecidable _) h
  refine @decide_eq_true _ (Classical.propDecidable _) ?_
  rcases h1 with z | ⟨s, q, z1, z2, z3⟩
  · exact Or.inl z
  · refine Or.inr ⟨s, q, z1, z2, ?_⟩
    have key : ∀ n q, q < 40 → q_rn (q_op d (nI m)) n q → q_rn (q_op d (-1)) n q := by
      intro n
      induction n with
      | zero => intro q hq w; exact ⟨w.1, nI_ne1 (by omega), w.2.2⟩
      | succ n ih =>
        intro q hq w
        rcases w with w | ⟨w1, s, r, w2, w3, w4⟩
        · exact Or.inl (ih q hq w)
        · exact Or.inr ⟨⟨nI_ne1 (by omega), w1.2⟩, s, r, w2, w3, ih r (q_bsd_lt hq w3) w4⟩
    exact key 40 q (q_bsd_lt hp z2) z3
theorem q_cn_diff {P Q S : Nat → Prop} [DecidablePred P] [DecidablePred Q] [DecidablePred S] : ∀ n, (∀ k, k < n → (Q k → P k) ∧ (S k ↔ (P k ∧ ¬ Q k))) → q_cn P n = q_cn Q n + q_cn S n := by
  intro n
  induction n with
  | zero => intro _; rfl
  | succ n ih =>
    intro h
    obtain ⟨h1, h2⟩ := h n (by omega)
    show q_cn P n + _ = (q_cn Q n + _) + (q_cn S n + _)
    rw [ih (fun k hk => h k (by omega))]
    by_cases cq : Q n
    · rw [if_pos (h1 cq), if_pos cq, if_neg (fun z => (h2.mp z).2 cq)]; omega
    · by_cases cp : P n
      · rw [if_pos cp, if_neg cq, if_pos (h2.mpr ⟨cp, cq⟩)]; omega
      · rw [if_neg cp, if_neg cq, if_neg (fun z => cp (h2.mp z).1)]; omega
theorem q_cut_M {d : RW} {m : Nat} (hm : m < 40) : q_bc (q_lw d (q_rw d 0) m) = nI (q_cu d (q_rc d) m) - nI (q_cu d (q_rcb d (nI m)) m) := by
  have hd := q_cn_diff (P := fun p => q_cuP d (q_rc d) m p) (Q := fun p => q_cuP d (q_rcb d (nI m)) m p) (S := fun p => p ≠ m ∧ d 3 p ≠ nI 3 ∧ q_rc d p = true ∧ q_rcb d (nI m) p = false) 40 (fun k hk => ⟨fun z => ⟨z.1, z.2.1, q_rcb_rc hk z.2.2⟩, by
    constructor
    · rintro ⟨z1, z2, z3, z4⟩
      exact ⟨⟨z1, z2, z3⟩, fun w => by have := w.2.2; rw [z4] at this; cases this⟩
    · rintro ⟨⟨z1, z2, z3⟩, z4⟩
      refine ⟨z1, z2, z3, ?_⟩
      cases hb : q_rcb d (nI m) k with
      | true => exact absurd ⟨z1, z2, hb⟩ z4
      | false => rfl⟩)
  have hb : q_bc (q_lw d (q_rw d 0) m) = nI (q_cn (fun p => p ≠ m ∧ d 3 p ≠ nI 3 ∧ q_rc d p = true ∧ q_rcb d (nI m) p = false) 40) := by
    refine q_bc_P (fun p hp => ?_)
    unfold q_lw
    rw [tb_and, tb_and, tb_and, tb_not _ hp, tb_not _ hp, tb_soil d hp, tb_bit (by omega) hp]
    by_cases h4 : p < 40
    · have e1 := q_rb_rc d h4
      have e2 := q_rb_rcb d hm h4
      rw [q_rb_tb _ hp] at e1 e2
      rw [e1, e2]
      cases q_rc d p <;> cases q_rcb d (nI m) p <;> simp [h4, and_comm]
    · simp [h4]
  rw [hb]
  unfold q_cu
  rw [hd, pk_sub (Nat.le_add_right _ _), Nat.add_sub_cancel_left]
/-! the mean fee's numbers -/
theorem q_allB_nM {d : RW} : q_allB d = q_nM d 120 := by
  have key : ∀ n, q_sN (fun p => q_bur d p) n = q_cn (fun k => d 7 k ≠ -1) (n * 3) := by
    intro n
    induction n with
    | zero => rfl
    | succ n ih =>
      have e3 : q_bur d n = ((0 + (if d 7 (n * 3 + 0) ≠ -1 then 1 else 0)) + (if d 7 (n * 3 + 1) ≠ -1 then 1 else 0)) + (if d 7 (n * 3 + 2) ≠ -1 then 1 else 0) := rfl
      have ec : q_cn (fun k => d 7 k ≠ -1) (n * 3 + 3) = ((q_cn (fun k => d 7 k ≠ -1) (n * 3) + (if d 7 (n * 3) ≠ -1 then 1 else 0)) + (if d 7 (n * 3 + 1) ≠ -1 then 1 else 0)) + (if d 7 (n * 3 + 2) ≠ -1 then 1 else 0) := rfl
      show q_sN (fun p => q_bur d p) n + q_bur d n = _
      rw [ih, e3, show (n + 1) * 3 = n * 3 + 3 by omega, ec, Nat.add_zero]
      omega
  exact key 40
theorem q_fs_M {d : RW} : ∀ n, q_fs d n = q_fsM d n := by
  intro n
  induction n with
  | zero => rfl
  | succ n ih =>
    show (if d 7 n ≠ -1 then q_fs d n + d 9 n else q_fs d n) = q_fsM d n + (if d 7 n = -1 then nI 0 else d 9 n)
    rw [ih]
    by_cases c : d 7 n = -1
    · rw [if_neg (fun z => z c), if_pos c, show nI 0 = 0 from rfl, Int32.add_zero]
    · rw [if_pos c, if_neg c]
theorem q_mean_M {d : RW} : q_mean d = q_meanM d := by
  unfold q_mean q_meanM
  rw [q_allB_nM, q_fs_M]
theorem q_fsM_rng {d : RW} (h : INV d) : ∀ n, n ≤ 120 → ∃ s : Nat, q_fsM d n = nI s ∧ 25 * q_nM d n ≤ s ∧ s ≤ 160 * q_nM d n := by
  intro n
  induction n with
  | zero => intro _; exact ⟨0, rfl, Nat.le_refl _, Nat.le_refl _⟩
  | succ n ih =>
    intro hn
    obtain ⟨s, h1, h2, h3⟩ := ih (by omega)
    show ∃ s : Nat, q_fsM d n + (if d 7 n = -1 then nI 0 else d 9 n) = nI s ∧ 25 * (q_nM d n + (if d 7 n ≠ -1 then 1 else 0)) ≤ s ∧ s ≤ 160 * (q_nM d n + (if d 7 n ≠ -1 then 1 else 0))
    by_cases c : d 7 n = -1
    · rw [if_pos c, if_neg (fun z => z c)]
      exact ⟨s, by rw [h1, nI_add]; rfl, h2, h3⟩
    · rw [if_neg c, if_pos c]
      obtain ⟨v, v1, v2, v3⟩ := h.2.2.2.2.2.1 n (by omega) c
      exact ⟨s + v, by rw [h1, v3, nI_add], by omega, by omega⟩
