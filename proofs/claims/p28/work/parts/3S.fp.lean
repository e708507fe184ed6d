/-! doubles: the mean fee is a normal number from 1.0 on; halving it, taking 1.0 off and its low bits -/
def FPN (x : UInt64) (c : Nat) (q : Int) : Prop := FP.Core.val64 x = .fin false c q ∧ 4503599627370496 ≤ c ∧ c < 9007199254740992 ∧ -52 ≤ q ∧ q ≤ 900
theorem fpk_p : 2 ^ FP.Core.b64.p = 9007199254740992 := by decide +kernel
theorem fpk_t : FP.Core.b64.tails = 4503599627370496 := by decide +kernel
theorem fpk_lo : FP.Core.b64.qmin = -1074 := by decide +kernel
theorem fpk_hi : FP.Core.b64.qmax = 971 := by decide +kernel
theorem fpk_e : FP.Core.b64.exps = 2048 := by decide +kernel
theorem fp_fits {c : Nat} {q : Int} (h1 : 4503599627370496 ≤ c) (h2 : c < 9007199254740992) (h3 : -1074 ≤ q) (h4 : q ≤ 971) : FP.Core.fits FP.Core.b64 (.fin false c q) :=
  ⟨by rw [fpk_p]; exact h2, by rw [fpk_lo]; exact h3, by rw [fpk_hi]; exact h4, Or.inr (by rw [fpk_t]; exact h1)⟩
theorem fpv_1 : FP.Core.val64 4607182418800017408 = .fin false 4503599627370496 (-52) := by decide +kernel
theorem fpv_2 : FP.Core.val64 4611686018427387904 = .fin false 4503599627370496 (-51) := by decide +kernel
theorem fpv_c : FP.Core.val64 4841369599423283200 = .fin false 4503599627370496 0 := by decide +kernel
theorem fp_half {x : UInt64} {c : Nat} {q : Int} (h : FPN x c q) (hq : -51 ≤ q) : FPN (FP.ddiv x 4611686018427387904) c (q - 1) := by
  obtain ⟨h0, h1, h2, h3, h4⟩ := h
  refine ⟨?_, h1, h2, by omega, by omega⟩
  refine (FP.Core.val64_ddiv x 4611686018427387904).trans ?_
  rw [h0, fpv_2]
  show (if (4503599627370496 : Nat) = 0 then (if c = 0 then FP.Core.Datum.nan else FP.Core.Datum.inf (false != false)) else FP.Core.roundRatio FP.Core.b64 (false != false) c 4503599627370496 (q - (-51))) = _
  rw [if_neg (by decide)]
  refine FP.Core.roundRatio_exact FP.Core.good_b64 (by decide) (fp_fits h1 h2 (by omega) (by omega)) ?_
  rw [show (q - (-51) - (q - 1)).toNat = 52 by omega, show (q - 1 - (q - (-51))).toNat = 0 by omega]
  omega
theorem fp_dcmp (x y : UInt64) : FP.dcmp x y = FP.Core.order (FP.Core.val64 x) (FP.Core.val64 y) := rfl
theorem fp_order (c d : Nat) (q r : Int) : FP.Core.order (.fin false c q) (.fin false d r) = some (compare ((c * 2 ^ (q - min q r).toNat : Nat) : Int) ((d * 2 ^ (r - min q r).toNat : Nat) : Int)) := rfl
theorem fp_lt2 {x : UInt64} {c : Nat} {q : Int} (h : FPN x c q) : (Op.cmpValue (FP.dcmp x 4611686018427387904) CmpOp.l < 0) ↔ q = -52 := by
  obtain ⟨h0, h1, h2, h3, h4⟩ := h
  rw [fp_dcmp, h0, fpv_2, fp_order]
  by_cases e : q = -52
  · subst e
    have hlt : ((c * 2 ^ ((-52 : Int) - min (-52) (-51)).toNat : Nat) : Int) < ((4503599627370496 * 2 ^ ((-51 : Int) - min (-52) (-51)).toNat : Nat) : Int) := by
      rw [show ((-52 : Int) - min (-52) (-51)).toNat = 0 by decide, show ((-51 : Int) - min (-52) (-51)).toNat = 1 by decide]
      omega
    rw [Int.compare_eq_lt.mpr hlt]
    exact ⟨fun _ => rfl, fun _ => by decide⟩
  · have hge : ((4503599627370496 * 2 ^ ((-51 : Int) - min q (-51)).toNat : Nat) : Int) ≤ ((c * 2 ^ (q - min q (-51)).toNat : Nat) : Int) := by
      rw [show min q (-51) = -51 by omega, show ((-51 : Int) - (-51)).toNat = 0 by decide, Nat.pow_zero, Nat.mul_one]
      have hp : 1 ≤ 2 ^ (q - (-51)).toNat := Nat.one_le_two_pow
      have := Nat.mul_le_mul h1 hp
      omega
    refine ⟨fun z => ?_, fun z => absurd z e⟩
    exfalso
    cases hc : compare ((c * 2 ^ (q - min q (-51)).toNat : Nat) : Int) ((4503599627370496 * 2 ^ ((-51 : Int) - min q (-51)).toNat : Nat) : Int) with
    | lt => have := Int.compare_eq_lt.mp hc; omega
    | eq => rw [hc] at z; exact absurd z (by decide)
    | gt => rw [hc] at z; exact absurd z (by decide)
theorem fp_ge1 {x : UInt64} {c : Nat} {q : Int} (h : FPN x c q) : ¬ (Op.cmpValue (FP.dcmp x 4607182418800017408) CmpOp.g < 0) := by
  obtain ⟨h0, h1, h2, h3, h4⟩ := h
  rw [fp_dcmp, h0, fpv_1, fp_order]
  have hge : ((4503599627370496 * 2 ^ ((-52 : Int) - min q (-52)).toNat : Nat) : Int) ≤ ((c * 2 ^ (q - min q (-52)).toNat : Nat) : Int) := by
    rw [show min q (-52) = -52 by omega, show ((-52 : Int) - (-52)).toNat = 0 by decide, Nat.pow_zero, Nat.mul_one]
    have hp : 1 ≤ 2 ^ (q - (-52)).toNat := Nat.one_le_two_pow
    have := Nat.mul_le_mul h1 hp
    omega
  intro z
  cases hc : compare ((c * 2 ^ (q - min q (-52)).toNat : Nat) : Int) ((4503599627370496 * 2 ^ ((-52 : Int) - min q (-52)).toNat : Nat) : Int) with
  | lt => have := Int.compare_eq_lt.mp hc; omega
  | eq => rw [hc] at z; exact absurd z (by decide)
  | gt => rw [hc] at z; exact absurd z (by decide)
theorem fp_self {x : UInt64} {s : Bool} {c : Nat} {q : Int} (h : FP.Core.val64 x = .fin s c q) : ¬ q_nan x := by
  unfold q_nan
  rw [fp_dcmp, h]
  have : FP.Core.order (.fin s c q) (.fin s c q) = some .eq := by
    show some (compare _ _) = _
    rw [Int.compare_eq_eq.mpr rfl]
  rw [this]
  decide
theorem fp_nn {x : UInt64} {s : Bool} {c : Nat} {q : Int} (h : FP.Core.val64 x = .fin s c q) : vf_n64 x := by
  have hE : FP.Core.fieldE FP.Core.b64 x.toNat ≠ 2047 := by
    intro e
    have h2 : FP.Core.decode FP.Core.b64 x.toNat = .fin s c q := h
    unfold FP.Core.decode at h2
    rw [if_pos (show FP.Core.fieldE FP.Core.b64 x.toNat = FP.Core.b64.exps - 1 by rw [e, fpk_e])] at h2
    split at h2 <;> cases h2
  have hE2 : x.toNat / 4503599627370496 % 2048 ≠ 2047 := by
    have e : FP.Core.fieldE FP.Core.b64 x.toNat = x.toNat / 4503599627370496 % 2048 := by
      unfold FP.Core.fieldE; rw [fpk_t, fpk_e]
    rw [← e]; exact hE
  show x &&& 0x7fffffffffffffff ≤ 0x7ff0000000000000
  rw [UInt64.le_iff_toNat_le, UInt64.toNat_and, show (0x7fffffffffffffff : UInt64).toNat = 2 ^ 63 - 1 from rfl, Nat.and_two_pow_sub_one_eq_mod, show (0x7ff0000000000000 : UInt64).toNat = 9218868437227405312 from rfl]
  have := x.toNat_lt
  omega
theorem fp_rep {T : Nat} (hT : T < 4503599627370496) (e : Int) (he : -52 ≤ e) (he2 : e ≤ 0) : ∃ (c : Nat) (q : Int) (j : Nat), FP.Core.fits FP.Core.b64 (.fin false c q) ∧ c = T * 2 ^ j ∧ (0 < T → q = e - j ∧ j ≤ 52) ∧ (T = 0 → q = -1074) := by
  rcases Nat.eq_zero_or_pos T with h | h
  · subst h
    refine ⟨0, -1074, 0, ⟨by decide +kernel, by rw [fpk_lo]; decide, by rw [fpk_hi]; decide, Or.inl (by rw [fpk_lo])⟩, by rw [Nat.zero_mul], fun z => absurd z (Nat.lt_irrefl 0), fun _ => rfl⟩
  · have hl1 : 2 ^ T.log2 ≤ T := Nat.log2_self_le (by omega)
    have hl2 : T < 2 ^ (T.log2 + 1) := Nat.lt_log2_self
    have hl3 : T.log2 < 52 := (Nat.log2_lt (by omega)).mpr hT
    refine ⟨T * 2 ^ (52 - T.log2), e - (52 - T.log2 : Nat), 52 - T.log2, ?_, rfl, fun _ => ⟨rfl, by omega⟩, fun z => absurd z (by omega)⟩
    have e1 : 2 ^ T.log2 * 2 ^ (52 - T.log2) = 4503599627370496 := by rw [← Nat.pow_add, show T.log2 + (52 - T.log2) = 52 by omega]
    have e2 : 2 ^ (T.log2 + 1) * 2 ^ (52 - T.log2) = 9007199254740992 := by rw [← Nat.pow_add, show T.log2 + 1 + (52 - T.log2) = 53 by omega]
    have hp : 0 < 2 ^ (52 - T.log2) := Nat.two_pow_pos _
    refine fp_fits ?_ ?_ (by omega) (by omega)
    · rw [← e1]; exact Nat.mul_le_mul_right _ hl1
    · rw [← e2]; exact Nat.mul_lt_mul_of_pos_right hl2 hp
theorem fp_exact {T : Nat} {e : Int} {c j : Nat} {q : Int} (hf : FP.Core.fits FP.Core.b64 (.fin false c q)) (hc : c = T * 2 ^ j) (h1 : 0 < T → q = e - j ∧ j ≤ 52) (h0 : T = 0 → q = -1074) : FP.Core.roundRatio FP.Core.b64 false T 1 e = .fin false c q := by
  rcases Nat.eq_zero_or_pos T with h | h
  · rw [h0 h, hc, h, Nat.zero_mul]
    unfold FP.Core.roundRatio
    rw [if_pos rfl, fpk_lo]
  · refine FP.Core.roundRatio_exact FP.Core.good_b64 (by decide) hf ?_
    have hq := (h1 h).1
    rw [show (e - q).toNat = j by omega, show (q - e).toNat = 0 by omega, hc]
    omega
theorem fp_low {x : UInt64} {c : Nat} (h : FPN x c (-52)) : vf_n64 (FP.dsub x 4607182418800017408) ∧ vf_n64 (FP.dmul (FP.dsub x 4607182418800017408) 4841369599423283200) ∧ FP.Core.d2l (FP.dmul (FP.dsub x 4607182418800017408) 4841369599423283200) = lN (c - 4503599627370496) := by
  obtain ⟨h0, h1, h2, -, -⟩ := h
  obtain ⟨T, hT⟩ : ∃ T, T = c - 4503599627370496 := ⟨_, rfl⟩
  have hT2 : T < 4503599627370496 := by omega
  obtain ⟨a, r, j, f1, f2, f3, f4⟩ := fp_rep hT2 (-52) (by decide) (by decide)
  have hs : FP.Core.val64 (FP.dsub x 4607182418800017408) = .fin false a r := by
    refine (FP.Core.val64_dsub x 4607182418800017408).trans ?_
    rw [h0, fpv_1]
    show FP.Core.roundRatio FP.Core.b64 (FP.Core.sumSign false true (FP.Core.sumUnits false c (-52) true 4503599627370496 (-52) (-52))) (FP.Core.sumUnits false c (-52) true 4503599627370496 (-52) (-52)).natAbs 1 (-52) = _
    have e : FP.Core.sumUnits false c (-52) true 4503599627370496 (-52) (-52) = (T : Int) := by
      show ((c * 2 ^ ((-52 : Int) - (-52)).toNat : Nat) : Int) + -((4503599627370496 * 2 ^ ((-52 : Int) - (-52)).toNat : Nat) : Int) = _
      rw [show ((-52 : Int) - (-52)).toNat = 0 by decide]
      omega
    have e2 : FP.Core.sumSign false true (T : Int) = false := by
      unfold FP.Core.sumSign
      split
      · rfl
      · exact decide_eq_false (by omega)
    rw [e, e2, Int.natAbs_natCast]
    exact fp_exact f1 f2 f3 f4
  obtain ⟨b, w, i, g1, g2, g3, g4⟩ := fp_rep hT2 0 (by decide) (by decide)
  have hm : FP.Core.val64 (FP.dmul (FP.dsub x 4607182418800017408) 4841369599423283200) = .fin false b w := by
    refine (FP.Core.val64_dmul (FP.dsub x 4607182418800017408) 4841369599423283200).trans ?_
    rw [hs, fpv_c]
    show FP.Core.roundRatio FP.Core.b64 (false != false) (a * 4503599627370496) 1 (r + 0) = _
    rcases Nat.eq_zero_or_pos T with hz | hz
    · rw [f2, hz, Nat.zero_mul, Nat.zero_mul, g2, hz, Nat.zero_mul, g4 hz]
      unfold FP.Core.roundRatio
      rw [if_pos rfl, fpk_lo]
      rfl
    · have hr := (f3 hz).1
      have hw := (g3 hz).1
      have hi := (g3 hz).2
      refine FP.Core.roundRatio_exact FP.Core.good_b64 (by decide) g1 ?_
      rw [f2, g2, hr, hw]
      rw [show (-52 - (j : Int) + 0 - (0 - (i : Int))).toNat = 0 by omega, show (0 - (i : Int) - (-52 - (j : Int) + 0)).toNat = 52 + j - i by omega, Nat.pow_zero, Nat.mul_one, Nat.mul_one, Nat.mul_assoc, Nat.mul_assoc]
      congr 1
      rw [← Nat.pow_add, show i + (52 + j - i) = j + 52 by omega, Nat.pow_add]
  refine ⟨fp_nn hs, fp_nn hm, ?_⟩
  show FP.Core.toL (FP.Core.val64 (FP.dmul (FP.dsub x 4607182418800017408) 4841369599423283200)) = _
  rw [hm, ← hT]
  have ht : FP.Core.truncate false b w = (T : Int) := by
    unfold FP.Core.truncate
    show ((b * 2 ^ w.toNat / 2 ^ (-w).toNat : Nat) : Int) = _
    rcases Nat.eq_zero_or_pos T with hz | hz
    · rw [g2, hz, Nat.zero_mul, Nat.zero_mul, Nat.zero_div]
    · have hw := (g3 hz).1
      rw [g2, show w.toNat = 0 by omega, show (-w).toNat = i by omega, Nat.pow_zero, Nat.mul_one, Nat.mul_div_cancel _ (Nat.two_pow_pos i)]
  show Int64.ofInt (max (-2 ^ 63) (min (2 ^ 63 - 1) (FP.Core.truncate false b w))) = _
  rw [ht, show max (-2 ^ 63) (min (2 ^ 63 - 1) (T : Int)) = (T : Int) by omega]
  exact wb_inj (BitVec.ofInt_natCast ..)
theorem fp_bits {x : UInt64} {c : Nat} {q : Int} (h : FPN x c q) : x.toInt64 = lN ((q + 1075).toNat * 4503599627370496 + (c - 4503599627370496)) := by
  obtain ⟨h0, h1, h2, h3, h4⟩ := h
  have hx : FP.Core.of64 (FP.Core.val64 x) = x := FP.Core.of64_val64 (by rw [h0]; intro z; cases z)
  rw [← hx, h0]
  have he : FP.Core.encode FP.Core.b64 (.fin false c q) = (q + 1075).toNat * 4503599627370496 + (c - 4503599627370496) := by
    unfold FP.Core.encode
    show (if c < FP.Core.b64.tails then FP.Core.assemble FP.Core.b64 false 0 c else FP.Core.assemble FP.Core.b64 false ((q - FP.Core.b64.qmin).toNat + 1) (c - FP.Core.b64.tails)) = _
    rw [if_neg (by rw [fpk_t]; omega)]
    unfold FP.Core.assemble
    rw [fpk_t, fpk_e, fpk_lo, show (q - (-1074)).toNat + 1 = (q + 1075).toNat by omega]
    show (0 * 2048 + (q + 1075).toNat) * 4503599627370496 + _ = _
    omega
  unfold FP.Core.of64
  rw [he]
  rfl
theorem fp_mean {s n : Nat} (hn : 0 < n) (hn2 : n ≤ 120) (h1 : n ≤ s) (h2 : s ≤ 160 * n) : ∃ (c : Nat) (q : Int), FPN (FP.ddiv (FP.i2d (nI s)) (FP.i2d (nI n))) c q ∧ q ≤ -44 := by
  have hI : ∀ m : Nat, 0 < m → m ≤ 19200 → ∃ (c j : Nat), FP.Core.val64 (FP.i2d (nI m)) = .fin false c (0 - (j : Int)) ∧ c = m * 2 ^ j := by
    intro m h0 hm
    obtain ⟨a, r, j, f1, f2, f3, f4⟩ := fp_rep (T := m) (by omega) 0 (by decide) (by decide)
    refine ⟨a, j, ?_, f2⟩
    refine (FP.Core.val64_i2d (nI m)).trans ?_
    rw [nI_toInt (by omega)]
    show FP.Core.roundRatio FP.Core.b64 (decide ((m : Int) < 0)) (m : Int).natAbs 1 0 = _
    rw [decide_eq_false (by omega), Int.natAbs_natCast, ← (f3 h0).1]
    exact fp_exact f1 f2 f3 f4
  obtain ⟨a, i, ha, ha2⟩ := hI s (by omega) (by omega)
  obtain ⟨b, j, hb, hb2⟩ := hI n hn (by omega)
  have hb0 : 0 < b := by rw [hb2]; exact Nat.mul_pos hn (Nat.two_pow_pos j)
  have hd : FP.Core.val64 (FP.ddiv (FP.i2d (nI s)) (FP.i2d (nI n))) = FP.Core.roundRatio FP.Core.b64 false s n 0 := by
    refine (FP.Core.val64_ddiv (FP.i2d (nI s)) (FP.i2d (nI n))).trans ?_
    rw [ha, hb]
    show (if b = 0 then (if a = 0 then FP.Core.Datum.nan else FP.Core.Datum.inf (false != false)) else FP.Core.roundRatio FP.Core.b64 (false != false) a b ((0 - (i : Int)) - (0 - (j : Int)))) = _
    rw [if_neg (by omega)]
    refine FP.Core.roundRatio_congr hb0 hn ?_
    rw [ha2, hb2]
    have hp : ∀ x y : Nat, 2 ^ x * 2 ^ y = 2 ^ (x + y) := fun x y => (Nat.pow_add 2 x y).symm
    by_cases hij : i ≤ j
    · rw [show (0 - (i : Int) - (0 - (j : Int)) - 0).toNat = j - i by omega, show (0 - (0 - (i : Int) - (0 - (j : Int)))).toNat = 0 by omega, Nat.pow_zero, Nat.mul_one, Nat.mul_right_comm s (2 ^ i) n, Nat.mul_assoc (s * n), hp, show i + (j - i) = j by omega, Nat.mul_assoc]
    · rw [show (0 - (i : Int) - (0 - (j : Int)) - 0).toNat = 0 by omega, show (0 - (0 - (i : Int) - (0 - (j : Int)))).toNat = i - j by omega, Nat.pow_zero, Nat.mul_one, Nat.mul_right_comm s (2 ^ i) n, ← Nat.mul_assoc s n, Nat.mul_assoc (s * n), hp, show j + (i - j) = i by omega]
  obtain ⟨q, hq⟩ : ∃ q, q = FP.Core.quantum FP.Core.b64 s n 0 := ⟨_, rfl⟩
  have hs0 : 0 < s := by omega
  have q1 := FP.Core.quantum_below (f := FP.Core.b64) hs0 hn 0
  have q2 := FP.Core.quantum_not_below (f := FP.Core.b64) hs0 hn 0
  rw [← hq] at q1 q2
  have hp53 : ((FP.Core.b64.p : Nat) : Int) = 53 := by decide +kernel
  rw [hp53] at q1 q2
  have ql : -52 ≤ q := by
    apply Classical.byContradiction
    intro hc
    have h9 := FP.Core.below_mono (a := q - 0 + 53) (b := ((0 : Nat) : Int) - ((0 : Nat) : Int)) (by omega) q1
    rw [FP.Core.below_iff] at h9
    omega
  have q3 : ¬ FP.Core.Below s n (q - 0 + (53 - 1)) := by
    rcases q2 with z | z
    · rw [fpk_lo] at z; omega
    · exact z
  have qh : q ≤ -45 := by
    apply Classical.byContradiction
    intro hc
    refine q3 (FP.Core.below_mono (a := ((8 : Nat) : Int) - ((0 : Nat) : Int)) (by omega) ?_)
    rw [FP.Core.below_iff]
    omega
  obtain ⟨c0, hc0⟩ : ∃ z, z = FP.Core.nearest (FP.Core.unitsNum s 0 q) (FP.Core.unitsDen n 0 q) := ⟨_, rfl⟩
  have hden := FP.Core.unitsDen_pos hn 0 q
  have c1 : 4503599627370496 ≤ c0 := by
    rw [hc0]
    refine FP.Core.nearest_ge hden ?_
    have h9 : ¬ FP.Core.unitsNum s 0 q < 2 ^ 52 * FP.Core.unitsDen n 0 q := fun z => q3 (by
      have := (FP.Core.units_below s n 0 q 52).mp z
      exact this)
    omega
  have c2 : c0 ≤ 9007199254740992 := by
    have h9 := FP.Core.nearest_units_le (f := FP.Core.b64) hs0 hn 0
    rw [← hq, ← hc0, fpk_p] at h9
    exact h9
  have hr : FP.Core.roundRatio FP.Core.b64 false s n 0 = FP.Core.settle FP.Core.b64 false c0 q := by
    unfold FP.Core.roundRatio FP.Core.roundAt
    rw [if_neg (by omega), ← hq, ← hc0]
  have hs : FP.Core.settle FP.Core.b64 false c0 q = if c0 < 9007199254740992 then .fin false c0 q else .fin false 4503599627370496 (q + 1) := by
    unfold FP.Core.settle FP.Core.bound
    rw [fpk_p, fpk_hi, fpk_t, if_pos (by omega : q ≤ 971), if_pos (by omega : q + 1 ≤ 971)]
  rw [hr, hs] at hd
  by_cases hc : c0 < 9007199254740992
  · rw [if_pos hc] at hd
    exact ⟨c0, q, ⟨hd, c1, hc, ql, by omega⟩, by omega⟩
  · rw [if_neg hc] at hd
    exact ⟨4503599627370496, q + 1, ⟨hd, by decide, by decide, by omega, by omega⟩, by omega⟩
theorem fp_meanM {d : RW} (h : INV d) : (q_nM d 120 = 0 ∧ q_meanM d = 0) ∨ (q_nM d 120 ≠ 0 ∧ ∃ (c : Nat) (q : Int), FPN (q_meanM d) c q ∧ q ≤ -44) := by
  by_cases hz : q_nM d 120 = 0
  · exact Or.inl ⟨hz, if_pos hz⟩
  · refine Or.inr ⟨hz, ?_⟩
    obtain ⟨s, h1, h2, h3⟩ := q_fsM_rng h 120 (Nat.le_refl _)
    have hn : q_nM d 120 ≤ 120 := q_cn_le _ 120
    obtain ⟨c, q, hc⟩ := fp_mean (s := s) (n := q_nM d 120) (by omega) hn (by omega) h3
    refine ⟨c, q, ?_⟩
    have e : q_meanM d = FP.ddiv (FP.i2d (nI s)) (FP.i2d (nI (q_nM d 120))) := by unfold q_meanM; rw [if_neg hz, h1]
    rw [e]; exact hc
theorem fp_nanM {d : RW} (h : INV d) : q_nM d 120 ≠ 0 → vf_n64 (FP.ddiv (FP.i2d (q_fsM d 120)) (FP.i2d (nI (q_nM d 120)))) := by
  intro hz
  rcases fp_meanM h with ⟨h1, -⟩ | ⟨-, c, q, h1, -⟩
  · exact absurd h1 hz
  · have e : q_meanM d = FP.ddiv (FP.i2d (q_fsM d 120)) (FP.i2d (nI (q_nM d 120))) := if_neg hz
    rw [e] at h1
    exact fp_nn h1.1
theorem fp_nanC {d : RW} (h : INV d) : q_allB d ≠ 0 → vf_n64 (FP.ddiv (FP.i2d (q_fs d 120)) (FP.i2d (nI (q_allB d)))) := by
  rw [q_allB_nM, q_fs_M]
  exact fp_nanM h
