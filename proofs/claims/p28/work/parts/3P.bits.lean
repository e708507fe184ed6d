theorem wb_tb (n : Nat) : (lN n).toBitVec = BitVec.ofNat 64 n := rfl
theorem wb_inj {a b : Int64} (h : a.toBitVec = b.toBitVec) : a = b := Int64.toBitVec_inj.mp h
theorem wb_tn {n : Nat} (h : n < 2 ^ 64) : (lN n).toBitVec.toNat = n := by rw [wb_tb, BitVec.toNat_ofNat, Nat.mod_eq_of_lt h]
theorem wb_of (x : Int64) : ∃ n, n < 2 ^ 64 ∧ x = lN n := ⟨x.toBitVec.toNat, x.toBitVec.isLt, wb_inj (by rw [wb_tb]; simp)⟩
theorem wb_c : ∀ k, k < 64 → ((nI k).toInt64 &&& 63) = lN k := by decide +kernel
theorem wb_cu : ∀ k, k < 64 → ((nI k).toInt64.toUInt64 &&& Int64.toUInt64 63) = UInt64.ofNat k := by decide +kernel
theorem wb_sm : ∀ k, k < 64 → (BitVec.ofNat 64 k).smod 64 = BitVec.ofNat 64 k := by decide +kernel
theorem wb_pw {a b : Nat} (h : a ≤ b) : 2 ^ b = 2 ^ a * 2 ^ (b - a) := by rw [← Nat.pow_add]; congr 1; omega
theorem wb_lt2 {a b : Nat} (h : a < b) : 2 ^ a < 2 ^ b := Nat.pow_lt_pow_right (by decide) h
theorem wb_shr {n k : Nat} (hn : n < 2 ^ 64) (hk : k < 64) : ((lN n).toUInt64 >>> ((nI k).toInt64.toUInt64 &&& Int64.toUInt64 63)).toInt64 = lN (n / 2 ^ k) := by
  rw [wb_cu k hk]
  apply wb_inj
  apply BitVec.eq_of_toNat_eq
  show ((lN n).toUInt64 >>> UInt64.ofNat k).toNat = (BitVec.ofNat 64 _).toNat
  have h1 : (UInt64.ofNat k).toNat = k := by
    show (BitVec.ofNat 64 k).toNat = k
    rw [BitVec.toNat_ofNat, Nat.mod_eq_of_lt (by omega)]
  have h2 : (lN n).toUInt64.toNat = n := wb_tn hn
  rw [UInt64.toNat_shiftRight, h1, h2, Nat.mod_eq_of_lt hk, Nat.shiftRight_eq_div_pow, BitVec.toNat_ofNat, Nat.mod_eq_of_lt (Nat.lt_of_le_of_lt (Nat.div_le_self _ _) hn)]
theorem wb_and {a b : Nat} (ha : a < 2 ^ 64) (hb : b < 2 ^ 64) : lN a &&& lN b = lN (a &&& b) := by
  apply wb_inj
  rw [Int64.toBitVec_and, wb_tb, wb_tb, wb_tb]
  apply BitVec.eq_of_toNat_eq
  rw [BitVec.toNat_and, BitVec.toNat_ofNat, BitVec.toNat_ofNat, BitVec.toNat_ofNat, Nat.mod_eq_of_lt ha, Nat.mod_eq_of_lt hb, Nat.mod_eq_of_lt (Nat.and_lt_two_pow _ hb)]
theorem wb_or {a b : Nat} (ha : a < 2 ^ 64) (hb : b < 2 ^ 64) : lN a ||| lN b = lN (a ||| b) := by
  apply wb_inj
  rw [Int64.toBitVec_or, wb_tb, wb_tb, wb_tb]
  apply BitVec.eq_of_toNat_eq
  rw [BitVec.toNat_or, BitVec.toNat_ofNat, BitVec.toNat_ofNat, BitVec.toNat_ofNat, Nat.mod_eq_of_lt ha, Nat.mod_eq_of_lt hb, Nat.mod_eq_of_lt (Nat.or_lt_two_pow ha hb)]
/-! bit by bit -/
def tb (x : Int64) (i : Nat) : Bool := x.toBitVec.getLsbD i
theorem tb_or (x y : Int64) (i : Nat) : tb (x ||| y) i = (tb x i || tb y i) := by unfold tb; rw [Int64.toBitVec_or, BitVec.getLsbD_or]
theorem tb_and (x y : Int64) (i : Nat) : tb (x &&& y) i = (tb x i && tb y i) := by unfold tb; rw [Int64.toBitVec_and, BitVec.getLsbD_and]
theorem tb_m1 : ∀ i, i < 64 → tb (-1) i = true := by decide +kernel
theorem tb_not (x : Int64) {i : Nat} (hi : i < 64) : tb (x ^^^ (-1)) i = !tb x i := by
  have h := tb_m1 i hi
  unfold tb at h ⊢
  rw [Int64.toBitVec_xor, BitVec.getLsbD_xor, h]
  cases x.toBitVec.getLsbD i <;> rfl
theorem tb_big {x : Int64} {i : Nat} (h : 64 ≤ i) : tb x i = false := BitVec.getLsbD_of_ge _ _ h
theorem tb_ext {x y : Int64} (h : ∀ i, i < 64 → tb x i = tb y i) : x = y := wb_inj (BitVec.eq_of_getLsbD_eq (fun i hi => h i hi))
theorem tb_0 (i : Nat) : tb 0 i = false := by unfold tb; simp
theorem tb_1 : ∀ i, i < 64 → tb 1 i = decide (i = 0) := by decide +kernel
theorem tb_c1 : ∀ i, i < 64 → tb (-551911719041) i = decide (¬ (i < 40 ∧ i % 8 = 7)) := by decide +kernel
theorem tb_c2 : ∀ i, i < 64 → tb (-4311810306) i = decide (¬ (i < 40 ∧ i % 8 = 0)) := by decide +kernel
theorem tb_c3 : ∀ i, i < 64 → tb 1099511627775 i = decide (i < 40) := by decide +kernel
theorem tb_sl (x : Int64) {k i : Nat} (hk : k < 64) (hi : i < 64) : tb (q_sl x k) i = (decide (k ≤ i) && tb x (i - k)) := by
  unfold q_sl tb
  rw [wb_c k hk, Int64.toBitVec_shiftLeft, wb_tb, wb_sm k hk, BitVec.shiftLeft_eq', BitVec.toNat_ofNat, Nat.mod_eq_of_lt (show k < 2 ^ 64 by omega), BitVec.getLsbD_shiftLeft]
  by_cases h : k ≤ i
  · simp [hi, h, Nat.not_lt.mpr h]
  · simp [h, Nat.not_le.mp h]
theorem tb_us (x : Int64) {k : Nat} (hk : k < 64) (i : Nat) : tb (q_us x k) i = tb x (k + i) := by
  unfold q_us tb
  rw [wb_cu k hk]
  have hs : (UInt64.ofNat k).toNat = k := by rw [UInt64.toNat_ofNat']; exact Nat.mod_eq_of_lt (by omega)
  have e : (x.toUInt64 >>> UInt64.ofNat k).toInt64.toBitVec = x.toBitVec >>> k := by
    apply BitVec.eq_of_toNat_eq
    show (x.toUInt64 >>> UInt64.ofNat k).toNat = _
    rw [UInt64.toNat_shiftRight, hs, Nat.mod_eq_of_lt hk, BitVec.toNat_ushiftRight]
    rfl
  rw [e, BitVec.getLsbD_ushiftRight]
theorem tb_bit {p i : Nat} (hp : p < 64) (hi : i < 64) : tb (q_bit p) i = decide (i = p) := by
  have h := tb_sl 1 hp hi
  refine (show tb (q_bit p) i = tb (q_sl 1 p) i from rfl).trans (h.trans ?_)
  by_cases h1 : p ≤ i
  · rw [tb_1 _ (by omega)]
    by_cases h2 : i = p
    · subst h2; simp
    · simp [h1, h2, show ¬ (i - p = 0) by omega]
  · simp [h1, show ¬ (i = p) by omega]
theorem q_rb_tb (r : Int64) {p : Nat} (hp : p < 64) : q_rb r p = tb r p := by
  unfold q_rb
  cases h : tb r p with
  | true =>
    refine decide_eq_true (fun z => ?_)
    have h1 : tb (r &&& q_bit p) p = true := by rw [tb_and, h, tb_bit hp hp]; simp
    rw [z, tb_0] at h1
    cases h1
  | false =>
    refine decide_eq_false (fun z => z (tb_ext (fun i hi => ?_)))
    rw [tb_and, tb_bit hp hi, tb_0]
    by_cases e : i = p
    · subst e; rw [h]; rfl
    · simp [e]
theorem tb_nb {x : Int64} (hx : ∀ i, 40 ≤ i → tb x i = false) {p : Nat} (hp : p < 64) : tb (q_nb x) p = true ↔ (p < 40 ∧ ∃ s q : Nat, s < 4 ∧ q_bsd p s = some q ∧ tb x q = true) := by
  have hlt : ∀ i, tb x i = true → i < 40 := fun i h => Nat.not_le.mp (fun z => by rw [hx i z] at h; cases h)
  unfold q_nb
  rw [tb_and, tb_or, tb_or, tb_or, tb_sl x (by decide) hp, tb_us x (by decide), tb_sl _ (by decide) hp, tb_us _ (by decide), tb_and, tb_and, tb_c3 p hp]
  simp only [Bool.and_eq_true, Bool.or_eq_true, decide_eq_true_eq]
  constructor
  · rintro ⟨((⟨a, b⟩ | a) | (⟨a, b, c⟩ | ⟨a, b⟩)), hp4⟩
    · exact ⟨hp4, 0, p - 8, by omega, if_neg (by omega), b⟩
    · have := hlt _ a
      exact ⟨hp4, 2, p + 8, by omega, if_neg (by omega), by rw [Nat.add_comm]; exact a⟩
    · rw [tb_c1 _ (by omega), decide_eq_true_eq] at c
      exact ⟨hp4, 3, p - 1, by omega, if_neg (by omega), b⟩
    · have := hlt _ a
      rw [tb_c2 _ (by omega), decide_eq_true_eq] at b
      exact ⟨hp4, 1, p + 1, by omega, if_neg (by omega), by rw [Nat.add_comm]; exact a⟩
  · rintro ⟨hp4, s, q, hs, hq, hb⟩
    refine ⟨?_, hp4⟩
    have hq4 := hlt _ hb
    rcases (show s = 0 ∨ s = 1 ∨ s = 2 ∨ s = 3 by omega) with rfl | rfl | rfl | rfl
    · have hq : (if p < 8 then none else some (p - 8)) = some q := hq
      split at hq
      · cases hq
      · cases hq
        exact Or.inl (Or.inl ⟨by omega, hb⟩)
    · have hq : (if p % 8 = 7 then none else some (p + 1)) = some q := hq
      split at hq
      · cases hq
      · cases hq
        refine Or.inr (Or.inr ⟨by rw [Nat.add_comm]; exact hb, ?_⟩)
        rw [tb_c2 _ (by omega), decide_eq_true_eq]
        omega
    · have hq : (if 31 < p then none else some (p + 8)) = some q := hq
      split at hq
      · cases hq
      · cases hq
        exact Or.inl (Or.inr (by rw [Nat.add_comm]; exact hb))
    · have hq : (if p % 8 = 0 then none else some (p - 1)) = some q := hq
      split at hq
      · cases hq
      · cases hq
        refine Or.inr (Or.inl ⟨by omega, hb, ?_⟩)
        rw [tb_c1 _ (by omega), decide_eq_true_eq]
        omega
theorem tb_nb_big {x : Int64} {p : Nat} (h : 40 ≤ p) : tb (q_nb x) p = false := by
  by_cases hp : p < 64
  · unfold q_nb
    rw [tb_and, tb_c3 p hp, decide_eq_false (by omega), Bool.and_false]
  · exact tb_big (by omega)
theorem tb_fl {o : Int64} {op : Nat → Prop} (ho : ∀ p, p < 40 → (tb o p = true ↔ op p)) (ho4 : ∀ i, 40 ≤ i → tb o i = false) : ∀ n, (∀ p, p < 40 → (tb (q_fl o n) p = true ↔ q_rn op n p)) ∧ ∀ i, 40 ≤ i → tb (q_fl o n) i = false := by
  intro n
  induction n with
  | zero =>
    refine ⟨fun p hp => ?_, fun i hi => ?_⟩
    · show tb (1 &&& o) p = true ↔ (p = 0 ∧ op 0)
      rw [tb_and, tb_1 p (by omega), Bool.and_eq_true, decide_eq_true_eq]
      constructor
      · rintro ⟨rfl, h⟩; exact ⟨rfl, (ho 0 hp).mp h⟩
      · rintro ⟨rfl, h⟩; exact ⟨rfl, (ho 0 hp).mpr h⟩
    · show tb (1 &&& o) i = false
      rw [tb_and, ho4 i hi, Bool.and_false]
  | succ n ih =>
    refine ⟨fun p hp => ?_, fun i hi => ?_⟩
    · show tb (q_fl o n ||| (q_nb (q_fl o n) &&& o)) p = true ↔ (q_rn op n p ∨ (op p ∧ ∃ s q : Nat, s < 4 ∧ q_bsd p s = some q ∧ q_rn op n q))
      rw [tb_or, tb_and, Bool.or_eq_true, Bool.and_eq_true, ih.1 p hp, ho p hp, tb_nb ih.2 (by omega)]
      constructor
      · rintro (h | ⟨⟨-, s, q, h1, h2, h3⟩, h4⟩)
        · exact Or.inl h
        · exact Or.inr ⟨h4, s, q, h1, h2, (ih.1 q (q_bsd_lt hp h2)).mp h3⟩
      · rintro (h | ⟨h4, s, q, h1, h2, h3⟩)
        · exact Or.inl h
        · exact Or.inr ⟨⟨hp, s, q, h1, h2, (ih.1 q (q_bsd_lt hp h2)).mpr h3⟩, h4⟩
    · show tb (q_fl o n ||| (q_nb (q_fl o n) &&& o)) i = false
      rw [tb_or, tb_and, ih.2 i hi, ho4 i hi, Bool.and_false]
      rfl
theorem tb_bs (P : Nat → Prop) [DecidablePred P] : ∀ n, n ≤ 64 → ∀ i, i < 64 → tb (q_bs P n) i = decide (i < n ∧ P i) := by
  intro n
  induction n with
  | zero => intro _ i _; show tb 0 i = _; rw [tb_0]; exact (decide_eq_false (fun z => absurd z.1 (Nat.not_lt_zero i))).symm
  | succ n ih =>
    intro hn i hi
    by_cases hP : P n
    · rw [q_bs_t hP, tb_or, ih (by omega) i hi, tb_bit (by omega) hi]
      by_cases e : i = n
      · subst e; simp [hP]
      · by_cases e2 : i < n
        · simp [e, e2, show i < n + 1 by omega]
        · simp [e, e2, show ¬ i < n + 1 by omega]
    · rw [q_bs_f hP, ih (by omega) i hi]
      by_cases e : i = n
      · subst e; simp [hP]
      · by_cases e2 : i < n
        · simp [e2, show i < n + 1 by omega]
        · simp [e2, show ¬ i < n + 1 by omega]
theorem tb_bs_big (P : Nat → Prop) [DecidablePred P] {n i : Nat} (hn : n ≤ 64) (h : n ≤ i) : tb (q_bs P n) i = false := by
  by_cases hi : i < 64
  · rw [tb_bs P n hn i hi]; exact decide_eq_false (fun z => absurd z.1 (by omega))
  · exact tb_big (by omega)
theorem q_rn_cong {op op' : Nat → Prop} (h : ∀ q, q < 40 → (op q ↔ op' q)) : ∀ n p, p < 40 → (q_rn op n p ↔ q_rn op' n p) := by
  intro n
  induction n with
  | zero => intro p hp; exact ⟨fun z => ⟨z.1, (h 0 (by omega)).mp z.2⟩, fun z => ⟨z.1, (h 0 (by omega)).mpr z.2⟩⟩
  | succ n ih =>
    intro p hp
    constructor
    · rintro (z | ⟨z1, s, q, z2, z3, z4⟩)
      · exact Or.inl ((ih p hp).mp z)
      · exact Or.inr ⟨(h p hp).mp z1, s, q, z2, z3, (ih q (q_bsd_lt hp z3)).mp z4⟩
    · rintro (z | ⟨z1, s, q, z2, z3, z4⟩)
      · exact Or.inl ((ih p hp).mpr z)
      · exact Or.inr ⟨(h p hp).mpr z1, s, q, z2, z3, (ih q (q_bsd_lt hp z3)).mpr z4⟩
theorem tb_opn (d : RW) {p : Nat} (hp : p < 64) : tb (q_opn d) p = decide (p < 40 ∧ (d 3 p = nI 3 ∨ q_bur d p = 0)) := tb_bs (fun p => d 3 p = nI 3 ∨ q_bur d p = 0) 40 (by decide) p hp
theorem tb_soil (d : RW) {p : Nat} (hp : p < 64) : tb (q_soil d) p = decide (p < 40 ∧ d 3 p ≠ nI 3) := tb_bs (fun p => d 3 p ≠ nI 3) 40 (by decide) p hp
theorem tb_rw {d : RW} {blk : Int64} {op : Nat → Prop} (h : ∀ q, q < 40 → (op q ↔ (tb blk q = false ∧ (d 3 q = nI 3 ∨ q_bur d q = 0)))) {p : Nat} (hp : p < 64) : tb (q_rw d blk) p = true ↔ (p = 0 ∨ (p < 40 ∧ ∃ s q : Nat, s < 4 ∧ q_bsd p s = some q ∧ q_rn op 40 q)) := by
  have hf := tb_fl (o := q_opn d &&& (blk ^^^ (-1))) (op := op) (fun q hq => by
    rw [tb_and, tb_opn d (by omega), tb_not _ (by omega), h q hq, Bool.and_eq_true, decide_eq_true_eq]
    cases tb blk q <;> simp [hq]) (fun i hi => by
    rw [tb_and, show tb (q_opn d) i = false from tb_bs_big _ (by decide) hi, Bool.false_and]) 40
  unfold q_rw
  rw [tb_or, tb_1 p hp, Bool.or_eq_true, decide_eq_true_eq, tb_nb hf.2 hp]
  constructor
  · rintro (⟨h1, s, q, h2, h3, h4⟩ | h1)
    · exact Or.inr ⟨h1, s, q, h2, h3, (hf.1 q (q_bsd_lt h1 h3)).mp h4⟩
    · exact Or.inl h1
  · rintro (h1 | ⟨h1, s, q, h2, h3, h4⟩)
    · exact Or.inr h1
    · exact Or.inl ⟨h1, s, q, h2, h3, (hf.1 q (q_bsd_lt h1 h3)).mpr h4⟩
theorem q_rb_rc (d : RW) {p : Nat} (hp : p < 40) : q_rb (q_rw d 0) p = q_rc d p := by
  rw [q_rb_tb _ (by omega)]
  have hk := tb_rw (d := d) (blk := 0) (op := q_op d (-1)) (fun q hq => by
    rw [tb_0]
    exact ⟨fun z => ⟨rfl, z.2⟩, fun z => ⟨nI_ne1 (by omega), z.2⟩⟩) (show p < 64 by omega)
  unfold q_rc
  cases hb : tb (q_rw d 0) p with
  | true =>
    refine (@decide_eq_true _ (Classical.propDecidable _) ?_).symm
    rcases hk.mp hb with z | ⟨-, z⟩
    · exact Or.inl z
    · exact Or.inr z
  | false =>
    refine (@decide_eq_false _ (Classical.propDecidable _) (fun z => ?_)).symm
    have h2 : tb (q_rw d 0) p = true := hk.mpr (z.elim Or.inl (fun z => Or.inr ⟨hp, z⟩))
    rw [h2] at hb
    cases hb
theorem q_rb_rcb (d : RW) {m p : Nat} (hm : m < 40) (hp : p < 40) : q_rb (q_rw d (q_bit m)) p = q_rcb d (nI m) p := by
  rw [q_rb_tb _ (by omega)]
  have hk := tb_rw (d := d) (blk := q_bit m) (op := q_op d (nI m)) (fun q hq => by
    rw [tb_bit (by omega) (by omega)]
    constructor
    · intro z; exact ⟨decide_eq_false (fun e => z.1 (by rw [e])), z.2⟩
    · intro z; exact ⟨fun e => (of_decide_eq_false z.1) ((nI_eq (by omega) (by omega)).mp e), z.2⟩) (show p < 64 by omega)
  unfold q_rcb
  cases hb : tb (q_rw d (q_bit m)) p with
  | true =>
    refine (@decide_eq_true _ (Classical.propDecidable _) ?_).symm
    rcases hk.mp hb with z | ⟨-, z⟩
    · exact Or.inl z
    · exact Or.inr z
  | false =>
    refine (@decide_eq_false _ (Classical.propDecidable _) (fun z => ?_)).symm
    have h2 : tb (q_rw d (q_bit m)) p = true := hk.mpr (z.elim Or.inl (fun z => Or.inr ⟨hp, z⟩))
    rw [h2] at hb
    cases hb
theorem q_rw_cong {d d' : RW} (h : ∀ q, q < 40 → ((d 3 q = nI 3 ∨ q_bur d q = 0) ↔ (d' 3 q = nI 3 ∨ q_bur d' q = 0))) (blk : Int64) : q_rw d blk = q_rw d' blk := by
  have e : q_opn d = q_opn d' := tb_ext (fun i hi => by
    rw [tb_opn d hi, tb_opn d' hi]
    by_cases h4 : i < 40
    · by_cases h5 : d 3 i = nI 3 ∨ q_bur d i = 0
      · rw [decide_eq_true ⟨h4, h5⟩, decide_eq_true ⟨h4, (h i h4).mp h5⟩]
      · rw [decide_eq_false (fun z => h5 z.2), decide_eq_false (fun z => h5 ((h i h4).mpr z.2))]
    · rw [decide_eq_false (fun z => h4 z.1), decide_eq_false (fun z => h4 z.1)])
  unfold q_rw
  rw [e]
