/-! numbers: shifts and masks of natural numbers -/
theorem pb_k : ∀ k, k < 32 → (nI k &&& 31) = nI k := by decide +kernel
theorem pb_sm : ∀ k, k < 32 → (BitVec.ofNat 32 k).smod 32 = BitVec.ofNat 32 k := by decide +kernel
theorem pb_tb (n : Nat) : (nI n).toBitVec = BitVec.ofNat 32 n := rfl
theorem pb_inj {a b : Int32} (h : a.toBitVec = b.toBitVec) : a = b := Int32.toBitVec_inj.mp h
theorem pb_shr {a k : Nat} (ha : a < 2147483648) (hk : k < 32) : nI a >>> (nI k &&& 31) = nI (a / 2 ^ k) := by
  rw [pb_k k hk]
  apply pb_inj
  rw [Int32.toBitVec_shiftRight, pb_tb, pb_tb, pb_tb, pb_sm k hk, BitVec.sshiftRight_eq', BitVec.toNat_ofNat, Nat.mod_eq_of_lt (show k < 2 ^ 32 by omega), BitVec.sshiftRight_eq_of_msb_false]
  · apply BitVec.eq_of_toNat_eq
    rw [BitVec.toNat_ushiftRight, BitVec.toNat_ofNat, BitVec.toNat_ofNat, Nat.mod_eq_of_lt (show a < 2 ^ 32 by omega), Nat.shiftRight_eq_div_pow, Nat.mod_eq_of_lt (Nat.lt_of_le_of_lt (Nat.div_le_self _ _) (by omega))]
  · rw [BitVec.msb_eq_false_iff_two_mul_lt, BitVec.toNat_ofNat, Nat.mod_eq_of_lt (show a < 2 ^ 32 by omega)]
    omega
theorem pb_shl {a k : Nat} (hk : k < 32) : nI a <<< (nI k &&& 31) = nI (a * 2 ^ k) := by
  rw [pb_k k hk]
  apply pb_inj
  rw [Int32.toBitVec_shiftLeft, pb_tb, pb_tb, pb_tb, pb_sm k hk, BitVec.shiftLeft_eq', BitVec.toNat_ofNat, Nat.mod_eq_of_lt (show k < 2 ^ 32 by omega)]
  apply BitVec.eq_of_toNat_eq
  rw [BitVec.toNat_shiftLeft, BitVec.toNat_ofNat, BitVec.toNat_ofNat, Nat.shiftLeft_eq, Nat.mod_mul_mod]
theorem pb_and {a b : Nat} (ha : a < 4294967296) (hb : b < 4294967296) : nI a &&& nI b = nI (a &&& b) := by
  apply pb_inj
  rw [Int32.toBitVec_and, pb_tb, pb_tb, pb_tb]
  apply BitVec.eq_of_toNat_eq
  rw [BitVec.toNat_and, BitVec.toNat_ofNat, BitVec.toNat_ofNat, BitVec.toNat_ofNat, Nat.mod_eq_of_lt ha, Nat.mod_eq_of_lt hb, Nat.mod_eq_of_lt (Nat.and_lt_two_pow _ hb)]
theorem pb_or {a b : Nat} (ha : a < 4294967296) (hb : b < 4294967296) : nI a ||| nI b = nI (a ||| b) := by
  apply pb_inj
  rw [Int32.toBitVec_or, pb_tb, pb_tb, pb_tb]
  apply BitVec.eq_of_toNat_eq
  rw [BitVec.toNat_or, BitVec.toNat_ofNat, BitVec.toNat_ofNat, BitVec.toNat_ofNat, Nat.mod_eq_of_lt ha, Nat.mod_eq_of_lt hb, Nat.mod_eq_of_lt (Nat.or_lt_two_pow ha hb)]
theorem pb_m {a : Nat} (k : Nat) (ha : a < 4294967296) (hk : 2 ^ k - 1 < 4294967296) : nI a &&& nI (2 ^ k - 1) = nI (a % 2 ^ k) := by
  rw [pb_and ha hk, Nat.and_two_pow_sub_one_eq_mod]
theorem pl_shr {a k : Nat} (ha : a < 9223372036854775808) (hk : k < 64) : lN a >>> ((nI k).toInt64 &&& 63) = lN (a / 2 ^ k) := by
  rw [wb_c k hk]
  apply wb_inj
  rw [Int64.toBitVec_shiftRight, wb_tb, wb_tb, wb_tb, wb_sm k hk, BitVec.sshiftRight_eq', BitVec.toNat_ofNat, Nat.mod_eq_of_lt (show k < 2 ^ 64 by omega), BitVec.sshiftRight_eq_of_msb_false]
  · apply BitVec.eq_of_toNat_eq
    rw [BitVec.toNat_ushiftRight, BitVec.toNat_ofNat, BitVec.toNat_ofNat, Nat.mod_eq_of_lt (show a < 2 ^ 64 by omega), Nat.shiftRight_eq_div_pow, Nat.mod_eq_of_lt (Nat.lt_of_le_of_lt (Nat.div_le_self _ _) (by omega))]
  · rw [BitVec.msb_eq_false_iff_two_mul_lt, BitVec.toNat_ofNat, Nat.mod_eq_of_lt (show a < 2 ^ 64 by omega)]
    omega
theorem pl_shl {a k : Nat} (hk : k < 64) : lN a <<< ((nI k).toInt64 &&& 63) = lN (a * 2 ^ k) := by
  rw [wb_c k hk]
  apply wb_inj
  rw [Int64.toBitVec_shiftLeft, wb_tb, wb_tb, wb_tb, wb_sm k hk, BitVec.shiftLeft_eq', BitVec.toNat_ofNat, Nat.mod_eq_of_lt (show k < 2 ^ 64 by omega)]
  apply BitVec.eq_of_toNat_eq
  rw [BitVec.toNat_shiftLeft, BitVec.toNat_ofNat, BitVec.toNat_ofNat, Nat.shiftLeft_eq, Nat.mod_mul_mod]
theorem pl_m {a : Nat} (k : Nat) (ha : a < 18446744073709551616) (hk : 2 ^ k - 1 < 18446744073709551616) : lN a &&& lN (2 ^ k - 1) = lN (a % 2 ^ k) := by
  rw [wb_and ha hk, Nat.and_two_pow_sub_one_eq_mod]
/-- the half of a number read without its sign -/
def ux (x : Int32) : Nat := x.toUInt32.toNat / 2
theorem ux_lt (x : Int32) : ux x < 2147483648 := by
  have h : x.toUInt32.toNat < 4294967296 := UInt32.toNat_lt _
  unfold ux
  omega
theorem pb_ux (x : Int32) : (x.toUInt32 >>> ((nI 1).toUInt32 &&& Int32.toUInt32 31)).toInt32 = nI (ux x) := by
  have e : ((nI 1).toUInt32 &&& Int32.toUInt32 31) = UInt32.ofNat 1 := by decide +kernel
  rw [e]
  apply pb_inj
  apply BitVec.eq_of_toNat_eq
  have h1 : (UInt32.ofNat 1).toNat = 1 := by decide +kernel
  have h2 := ux_lt x
  show (x.toUInt32 >>> UInt32.ofNat 1).toNat = (BitVec.ofNat 32 (ux x)).toNat
  rw [UInt32.toNat_shiftRight, h1, BitVec.toNat_ofNat, Nat.mod_eq_of_lt (show ux x < 2 ^ 32 by omega)]
  rfl
/-! the law's packed rows: g (kind, vault, kept for, up to), bu (burials), fe (fees), fa (families, the year) -/
def PKg (d : RW) (X : Nat → Int32) : Prop := ∀ p, p < 40 → ∃ k v h u : Nat, k < 4 ∧ v ≤ 10 ∧ h ≤ 10 ∧ u < 1000000 ∧ (h = 0 → u = 0) ∧ X p = nI (k + 4 * v + 64 * h + 1024 * u) ∧ d 3 p = nI k ∧ d 4 p = nI v - nI 1 ∧ d 5 p = nI h - nI 1 ∧ d 6 p = if h = 0 then -1 else nI u
def PKb (d : RW) (X : Nat → Int64) : Prop := ∀ p, p < 40 → ∃ s : Nat → Nat, (∀ j, j < 3 → (s j = 0 ∧ d 7 (p * 3 + j) = -1) ∨ (∃ w f : Nat, w ≤ 2000 ∧ f < 10 ∧ s j = 32768 + 16 * w + f ∧ d 7 (p * 3 + j) = nI f ∧ d 8 (p * 3 + j) = nI w)) ∧ X p = lN (s 0 + 65536 * s 1 + 4294967296 * s 2)
def PKe (d : RW) (X : Nat → Int32) : Prop := ∀ p, p < 40 → ∃ e : Nat → Nat, (∀ j, j < 3 → e j < 512 ∧ (d 7 (p * 3 + j) = -1 → e j = 0) ∧ (d 7 (p * 3 + j) ≠ -1 → d 9 (p * 3 + j) = nI (e j))) ∧ X p = nI (e 0 + 512 * e 1 + 262144 * e 2)
def PKf (d : RW) (y : Int32) (X : Nat → Int32) : Prop := X 30 = y ∧ ∀ f, f < 10 → X f = d 0 f ∧ X (10 + f) = d 1 f ∧ X (20 + f) = d 2 f ∧ (d 0 f = nI 0 ∨ d 0 f = nI 1)
/-- the law's rows are those of the ground d in the year yn -/
def PKI (d : RW) (yn : Nat) (x1 : Nat → Int32) (x2 : Nat → Int64) (x3 x4 : Nat → Int32) : Prop := INV d ∧ PKg d x1 ∧ PKb d x2 ∧ PKe d x3 ∧ PKf d (nI yn) x4
section PKR
variable {d : RW} {yn : Nat} {x1 x3 x4 : Nat → Int32} {x2 : Nat → Int64} {p : Nat}
theorem rd_k (h : PKg d x1) (hp : p < 40) : x1 p &&& nI 3 = d 3 p := by
  obtain ⟨k, v, r, u, hk, hv, hr, hu, h0, e, e3, e4, e5, e6⟩ := h p hp
  rw [e, e3, show nI 3 = nI (2 ^ 2 - 1) from rfl, pb_m 2 (by omega) (by decide), show (2 ^ 2 : Nat) = 4 from rfl, show (k + 4 * v + 64 * r + 1024 * u) % 4 = k by omega]
theorem rd_v (h : PKg d x1) (hp : p < 40) : ((x1 p >>> (nI 2 &&& 31)) &&& nI 15) - nI 1 = d 4 p := by
  obtain ⟨k, v, r, u, hk, hv, hr, hu, h0, e, e3, e4, e5, e6⟩ := h p hp
  rw [e, e4, pb_shr (by omega) (by decide), show nI 15 = nI (2 ^ 4 - 1) from rfl, pb_m 4 (Nat.lt_of_le_of_lt (Nat.div_le_self _ _) (by omega)) (by decide), show (2 ^ 2 : Nat) = 4 from rfl, show (2 ^ 4 : Nat) = 16 from rfl, show (k + 4 * v + 64 * r + 1024 * u) / 4 % 16 = v by omega]
theorem rd_h (h : PKg d x1) (hp : p < 40) : ((x1 p >>> (nI 6 &&& 31)) &&& nI 15) - nI 1 = d 5 p := by
  obtain ⟨k, v, r, u, hk, hv, hr, hu, h0, e, e3, e4, e5, e6⟩ := h p hp
  rw [e, e5, pb_shr (by omega) (by decide), show nI 15 = nI (2 ^ 4 - 1) from rfl, pb_m 4 (Nat.lt_of_le_of_lt (Nat.div_le_self _ _) (by omega)) (by decide), show (2 ^ 6 : Nat) = 64 from rfl, show (2 ^ 4 : Nat) = 16 from rfl, show (k + 4 * v + 64 * r + 1024 * u) / 64 % 16 = r by omega]
theorem m1_cases {h : Nat} (hh : h ≤ 10) : (h = 0 ∧ nI h - nI 1 = -1) ∨ (∃ f, f < 10 ∧ h = f + 1 ∧ nI h - nI 1 = nI f) := by
  rcases Nat.eq_zero_or_pos h with rfl | h0
  · exact Or.inl ⟨rfl, by decide⟩
  · exact Or.inr ⟨h - 1, by omega, by omega, pk_sub h0⟩
theorem rd_u (h : PKg d x1) (hp : p < 40) (h5 : d 5 p ≠ -1) : x1 p >>> (nI 10 &&& 31) = d 6 p := by
  obtain ⟨k, v, r, u, hk, hv, hr, hu, h0, e, e3, e4, e5, e6⟩ := h p hp
  have hr0 : r ≠ 0 := fun z => h5 (by rw [e5, z]; decide)
  rw [e, e6, if_neg hr0, pb_shr (by omega) (by decide), show (2 ^ 10 : Nat) = 1024 from rfl, show (k + 4 * v + 64 * r + 1024 * u) / 1024 = u by omega]
theorem rd_u0 (h : PKg d x1) (hp : p < 40) (h5 : d 5 p = -1) : d 6 p = -1 := by
  obtain ⟨k, v, r, u, hk, hv, hr, hu, h0, e, e3, e4, e5, e6⟩ := h p hp
  rcases m1_cases hr with ⟨z, -⟩ | ⟨f, hf, -, z⟩
  · rw [e6, if_pos z]
  · exact absurd (z.symm.trans (e5.symm.trans h5)) (nI_ne1 (by omega))
theorem rd_5 (h : PKg d x1) (hp : p < 40) : d 5 p = -1 ∨ ∃ f u : Nat, f < 10 ∧ u < 1000000 ∧ d 5 p = nI f ∧ d 6 p = nI u := by
  obtain ⟨k, v, r, u, hk, hv, hr, hu, h0, e, e3, e4, e5, e6⟩ := h p hp
  rcases m1_cases hr with ⟨z, w⟩ | ⟨f, hf, z, w⟩
  · exact Or.inl (e5.trans w)
  · exact Or.inr ⟨f, u, hf, hu, e5.trans w, by rw [e6, if_neg (by omega)]⟩
theorem rd_4 (h : PKg d x1) (hp : p < 40) : d 4 p = -1 ∨ ∃ f : Nat, f < 10 ∧ d 4 p = nI f := by
  obtain ⟨k, v, r, u, hk, hv, hr, hu, h0, e, e3, e4, e5, e6⟩ := h p hp
  rcases m1_cases hv with ⟨z, w⟩ | ⟨f, hf, z, w⟩
  · exact Or.inl (e4.trans w)
  · exact Or.inr ⟨f, hf, e4.trans w⟩
theorem rd_3 (h : PKg d x1) (hp : p < 40) : ∃ k : Nat, k < 4 ∧ d 3 p = nI k := by
  obtain ⟨k, v, r, u, hk, hv, hr, hu, h0, e, e3, e4, e5, e6⟩ := h p hp
  exact ⟨k, hk, e3⟩
theorem sgn {x : Int32} (h : x = -1 ∨ ∃ f : Nat, f < 10 ∧ x = nI f) : 0 ≤ x ↔ x ≠ -1 := by
  rcases h with rfl | ⟨f, hf, rfl⟩
  · exact ⟨fun z => absurd z (by decide), fun z => absurd rfl z⟩
  · exact ⟨fun _ => nI_ne1 (by omega), fun _ => nI_pos' (by omega)⟩
theorem sgn2 {x : Int32} (h : x = -1 ∨ ∃ f : Nat, f < 10 ∧ x = nI f) : x < 0 ↔ x = -1 := by
  rcases h with rfl | ⟨f, hf, rfl⟩
  · exact ⟨fun _ => rfl, fun _ => by decide⟩
  · exact ⟨fun z => absurd z (nI_pos (by omega)), fun z => absurd z (nI_ne1 (by omega))⟩
theorem rd_5s (h : PKg d x1) (hp : p < 40) : d 5 p = -1 ∨ ∃ f : Nat, f < 10 ∧ d 5 p = nI f := (rd_5 h hp).imp id (fun ⟨f, u, a, b, c, e⟩ => ⟨f, a, c⟩)
theorem sl_lt {s : Nat → Nat} (hs : ∀ j, j < 3 → (s j = 0 ∧ d 7 (p * 3 + j) = -1) ∨ (∃ w f : Nat, w ≤ 2000 ∧ f < 10 ∧ s j = 32768 + 16 * w + f ∧ d 7 (p * 3 + j) = nI f ∧ d 8 (p * 3 + j) = nI w)) : ∀ j, j < 3 → s j < 65536 := by
  intro j hj
  rcases hs j hj with ⟨h, -⟩ | ⟨w, f, hw, hf, h, -⟩ <;> omega
/-- a slot of the row of burials -/
theorem rd_sl (h : PKb d x2) (hp : p < 40) {j : Nat} (h1 : 1 ≤ j) (h3 : j ≤ 3) : ∃ N s : Nat, N < 281474976710656 ∧ x2 p = lN N ∧ N / 2 ^ (16 * j - 1) % 2 = s / 32768 % 2 ∧ N / 2 ^ (16 * j - 16) % 16 = s % 16 ∧ N / 2 ^ (16 * j - 12) % 2048 = s / 16 % 2048 ∧ ((s = 0 ∧ d 7 (p * 3 + (j - 1)) = -1) ∨ (∃ w f : Nat, w ≤ 2000 ∧ f < 10 ∧ s = 32768 + 16 * w + f ∧ d 7 (p * 3 + (j - 1)) = nI f ∧ d 8 (p * 3 + (j - 1)) = nI w)) := by
  obtain ⟨s, hs, e⟩ := h p hp
  have l0 := sl_lt hs 0 (by omega)
  have l1 := sl_lt hs 1 (by omega)
  have l2 := sl_lt hs 2 (by omega)
  refine ⟨_, s (j - 1), ?_, e, ?_, ?_, ?_, hs (j - 1) (by omega)⟩
  · omega
  all_goals
    rcases (show j = 1 ∨ j = 2 ∨ j = 3 by omega) with rfl | rfl | rfl
    all_goals
      simp only [show 16 * 1 - 1 = 15 from rfl, show 16 * 2 - 1 = 31 from rfl, show 16 * 3 - 1 = 47 from rfl, show 16 * 1 - 16 = 0 from rfl, show 16 * 2 - 16 = 16 from rfl, show 16 * 3 - 16 = 32 from rfl, show 16 * 1 - 12 = 4 from rfl, show 16 * 2 - 12 = 20 from rfl, show 16 * 3 - 12 = 36 from rfl, show (2 ^ 15 : Nat) = 32768 from rfl, show (2 ^ 31 : Nat) = 2147483648 from rfl, show (2 ^ 47 : Nat) = 140737488355328 from rfl, show (2 ^ 0 : Nat) = 1 from rfl, show (2 ^ 16 : Nat) = 65536 from rfl, show (2 ^ 32 : Nat) = 4294967296 from rfl, show (2 ^ 4 : Nat) = 16 from rfl, show (2 ^ 20 : Nat) = 1048576 from rfl, show (2 ^ 36 : Nat) = 68719476736 from rfl, show 1 - 1 = 0 from rfl, show 2 - 1 = 1 from rfl, show 3 - 1 = 2 from rfl]
      omega
theorem rd_there (h : PKb d x2) (hp : p < 40) {j : Nat} (h1 : 1 ≤ j) (h3 : j ≤ 3) : (d 7 (p * 3 + (j - 1)) ≠ -1 ∧ (x2 p >>> ((nI (16 * j - 1)).toInt64 &&& 63)) &&& 1 = 1) ∨ (¬ d 7 (p * 3 + (j - 1)) ≠ -1 ∧ (x2 p >>> ((nI (16 * j - 1)).toInt64 &&& 63)) &&& 1 = 0) := by
  obtain ⟨N, s, hN, e, e1, -, -, hs⟩ := rd_sl h hp h1 h3
  have e2 : (x2 p >>> ((nI (16 * j - 1)).toInt64 &&& 63)) &&& 1 = lN (s / 32768 % 2) := by
    rw [e, pl_shr (by omega) (by omega), show (1 : Int64) = lN (2 ^ 1 - 1) from rfl, pl_m 1 (Nat.lt_of_le_of_lt (Nat.div_le_self _ _) (by omega)) (by decide), show (2 ^ 1 : Nat) = 2 from rfl, e1]
  rw [e2]
  rcases hs with ⟨z, o⟩ | ⟨w, f, hw, hf, z, o, -⟩
  · exact Or.inr ⟨fun q => q o, by rw [z]; rfl⟩
  · exact Or.inl ⟨by rw [o]; exact nI_ne1 (by omega), by rw [z, show (32768 + 16 * w + f) / 32768 % 2 = 1 by omega]; rfl⟩
theorem rd_who (h : PKb d x2) (hp : p < 40) {j : Nat} (h1 : 1 ≤ j) (h3 : j ≤ 3) (ho : d 7 (p * 3 + (j - 1)) ≠ -1) : ((x2 p >>> ((nI (16 * j - 16)).toInt64 &&& 63)) &&& 15).toInt32 = d 7 (p * 3 + (j - 1)) := by
  obtain ⟨N, s, hN, e, -, e1, -, hs⟩ := rd_sl h hp h1 h3
  have e2 : (x2 p >>> ((nI (16 * j - 16)).toInt64 &&& 63)) &&& 15 = lN (s % 16) := by
    rw [e, pl_shr (by omega) (by omega), show (15 : Int64) = lN (2 ^ 4 - 1) from rfl, pl_m 4 (Nat.lt_of_le_of_lt (Nat.div_le_self _ _) (by omega)) (by decide), show (2 ^ 4 : Nat) = 16 from rfl, e1]
  rw [e2, lN_i]
  rcases hs with ⟨z, o⟩ | ⟨w, f, hw, hf, z, o, -⟩
  · exact absurd o ho
  · rw [o, z, show (32768 + 16 * w + f) % 16 = f by omega]
theorem rd_when (h : PKb d x2) (hp : p < 40) {j : Nat} (h1 : 1 ≤ j) (h3 : j ≤ 3) (ho : d 7 (p * 3 + (j - 1)) ≠ -1) : ((x2 p >>> ((nI (16 * j - 12)).toInt64 &&& 63)) &&& 2047).toInt32 = d 8 (p * 3 + (j - 1)) := by
  obtain ⟨N, s, hN, e, -, -, e1, hs⟩ := rd_sl h hp h1 h3
  have e2 : (x2 p >>> ((nI (16 * j - 12)).toInt64 &&& 63)) &&& 2047 = lN (s / 16 % 2048) := by
    rw [e, pl_shr (by omega) (by omega), show (2047 : Int64) = lN (2 ^ 11 - 1) from rfl, pl_m 11 (Nat.lt_of_le_of_lt (Nat.div_le_self _ _) (by omega)) (by decide), show (2 ^ 11 : Nat) = 2048 from rfl, e1]
  rw [e2, lN_i]
  rcases hs with ⟨z, o⟩ | ⟨w, f, hw, hf, z, o, o8⟩
  · exact absurd o ho
  · rw [o8, z, show (32768 + 16 * w + f) / 16 % 2048 = w by omega]
theorem rd_78 (h : PKb d x2) {k : Nat} (hk : k < 120) (ho : d 7 k ≠ -1) : ∃ w f : Nat, w ≤ 2000 ∧ f < 10 ∧ d 7 k = nI f ∧ d 8 k = nI w := by
  obtain ⟨s, hs, e⟩ := h (k / 3) (by omega)
  have e3 : k / 3 * 3 + k % 3 = k := by omega
  have hs := hs (k % 3) (by omega)
  rw [e3] at hs
  rcases hs with ⟨z, o⟩ | ⟨w, f, hw, hf, z, o, o8⟩
  · exact absurd o ho
  · exact ⟨w, f, hw, hf, o, o8⟩
theorem rd_7 (h : PKb d x2) {k : Nat} (hk : k < 120) : d 7 k = -1 ∨ ∃ f : Nat, f < 10 ∧ d 7 k = nI f := by
  by_cases ho : d 7 k = -1
  · exact Or.inl ho
  · obtain ⟨w, f, -, hf, e, -⟩ := rd_78 h hk ho
    exact Or.inr ⟨f, hf, e⟩
theorem rd_e (h : PKe d x3) (hp : p < 40) {j : Nat} (h1 : 1 ≤ j) (h3 : j ≤ 3) (ho : d 7 (p * 3 + (j - 1)) ≠ -1) : (x3 p >>> (nI (9 * j - 9) &&& 31)) &&& nI 511 = d 9 (p * 3 + (j - 1)) := by
  obtain ⟨e, he, ee⟩ := h p hp
  have l0 := (he 0 (by omega)).1
  have l1 := (he 1 (by omega)).1
  have l2 := (he 2 (by omega)).1
  rw [ee, (he (j - 1) (by omega)).2.2 ho, pb_shr (by omega) (by omega), show nI 511 = nI (2 ^ 9 - 1) from rfl, pb_m 9 (Nat.lt_of_le_of_lt (Nat.div_le_self _ _) (by omega)) (by decide)]
  congr 1
  rcases (show j = 1 ∨ j = 2 ∨ j = 3 by omega) with rfl | rfl | rfl
  all_goals
    simp only [show 9 * 1 - 9 = 0 from rfl, show 9 * 2 - 9 = 9 from rfl, show 9 * 3 - 9 = 18 from rfl, show (2 ^ 0 : Nat) = 1 from rfl, show (2 ^ 9 : Nat) = 512 from rfl, show (2 ^ 18 : Nat) = 262144 from rfl, show 1 - 1 = 0 from rfl, show 2 - 1 = 1 from rfl, show 3 - 1 = 2 from rfl]
    omega
/-! the same, counted from 0 -/
theorem rd_there0 (h : PKb d x2) (hp : p < 40) {j : Nat} (hj : j < 3) : (d 7 (p * 3 + j) ≠ -1 ∧ (x2 p >>> ((nI (16 * (j + 1) - 1)).toInt64 &&& 63)) &&& 1 = 1) ∨ (¬ d 7 (p * 3 + j) ≠ -1 ∧ (x2 p >>> ((nI (16 * (j + 1) - 1)).toInt64 &&& 63)) &&& 1 = 0) := rd_there h hp (j := j + 1) (by omega) (by omega)
theorem rd_who0 (h : PKb d x2) (hp : p < 40) {j : Nat} (hj : j < 3) (ho : d 7 (p * 3 + j) ≠ -1) : ((x2 p >>> ((nI (16 * (j + 1) - 16)).toInt64 &&& 63)) &&& 15).toInt32 = d 7 (p * 3 + j) := rd_who h hp (j := j + 1) (by omega) (by omega) ho
theorem rd_when0 (h : PKb d x2) (hp : p < 40) {j : Nat} (hj : j < 3) (ho : d 7 (p * 3 + j) ≠ -1) : ((x2 p >>> ((nI (16 * (j + 1) - 12)).toInt64 &&& 63)) &&& 2047).toInt32 = d 8 (p * 3 + j) := rd_when h hp (j := j + 1) (by omega) (by omega) ho
theorem rd_e0 (h : PKe d x3) (hp : p < 40) {j : Nat} (hj : j < 3) (ho : d 7 (p * 3 + j) ≠ -1) : (x3 p >>> (nI (9 * (j + 1) - 9) &&& 31)) &&& nI 511 = d 9 (p * 3 + j) := rd_e h hp (j := j + 1) (by omega) (by omega) ho
theorem yr_n (h : PKg d x1) (hp : p < 40) : ∃ r : Nat, r ≤ 60 ∧ q_yr d p = nI r := by
  unfold q_yr
  split
  · exact ⟨30, by omega, rfl⟩
  · split
    · exact ⟨15, by omega, rfl⟩
    · exact ⟨60, by omega, rfl⟩
/-- a burial rests: as the law asks it -/
theorem pk_rst (h : PKI d yn x1 x2 x3 x4) (hp : p < 40) {j Y : Nat} (hj : j < 3) (hY : Y < 100000) : q_rst d (nI Y) (p * 3 + j) ↔ (d 7 (p * 3 + j) ≠ -1 ∧ nI Y - d 8 (p * 3 + j) < q_yr d p) := by
  have e3 : (p * 3 + j) / 3 = p := by omega
  obtain ⟨r, hr, er⟩ := yr_n h.2.1 hp
  show (d 7 (p * 3 + j) ≠ -1 ∧ nI Y < d 8 (p * 3 + j) + q_yr d ((p * 3 + j) / 3)) ↔ _
  rw [e3, er]
  constructor
  · rintro ⟨ho, hr2⟩
    obtain ⟨w, f, hw, hf, e7, e8⟩ := rd_78 h.2.2.1 (k := p * 3 + j) (by omega) ho
    refine ⟨ho, ?_⟩
    rw [e8, nI_add] at hr2
    have h9 := (nI_ltI (a := Y) (b := w + r) (by omega) (by omega)).mp hr2
    rw [e8, Int32.lt_iff_toInt_lt, pk_sub_toInt (by omega) (by omega), nI_toInt (by omega)]
    omega
  · rintro ⟨ho, hr2⟩
    obtain ⟨w, f, hw, hf, e7, e8⟩ := rd_78 h.2.2.1 (k := p * 3 + j) (by omega) ho
    refine ⟨ho, ?_⟩
    rw [e8, Int32.lt_iff_toInt_lt, pk_sub_toInt (by omega) (by omega), nI_toInt (by omega)] at hr2
    rw [e8, nI_add]
    exact (nI_ltI (a := Y) (b := w + r) (by omega) (by omega)).mpr (by omega)
/-- who holds a plot by its burials: the least deep one that rests, from depth j on -/
def q_hs (d : RW) (y : Int32) (p j : Nat) : Int32 := if j = 0 ∧ q_rst d y (p * 3 + 0) then d 7 (p * 3 + 0) else if j ≤ 1 ∧ q_rst d y (p * 3 + 1) then d 7 (p * 3 + 1) else if j ≤ 2 ∧ q_rst d y (p * 3 + 2) then d 7 (p * 3 + 2) else -1
theorem q_hs_s {d : RW} {y : Int32} {p j : Nat} (hj : j < 3) : q_hs d y p j = if q_rst d y (p * 3 + j) then d 7 (p * 3 + j) else q_hs d y p (j + 1) := by
  rcases (show j = 0 ∨ j = 1 ∨ j = 2 by omega) with rfl | rfl | rfl <;> simp [q_hs]
theorem q_hold_hs (d : RW) (y : Int32) (p : Nat) : q_hold d y p = if d 4 p ≠ -1 then d 4 p else if q_kept d y p then d 5 p else q_hs d y p 0 := by
  simp [q_hold, q_hs]
theorem hold_sg (h : PKI d yn x1 x2 x3 x4) (hp : p < 40) (y : Int32) : q_hold d y p = -1 ∨ ∃ f : Nat, f < 10 ∧ q_hold d y p = nI f := by
  rw [q_hold_hs]
  split
  · exact rd_4 h.2.1 hp
  · split
    · exact rd_5s h.2.1 hp
    · unfold q_hs
      split
      · exact rd_7 h.2.2.1 (by omega)
      · split
        · exact rd_7 h.2.2.1 (by omega)
        · split
          · exact rd_7 h.2.2.1 (by omega)
          · exact Or.inl rfl
end PKR
/-! worlds of the law's rows -/
section PKW
variable {dC : Nat → ClassId} {dI : Nat → Nat → Nat} {cI cL cJ : ClassId} {t : Nat → Nat} {x1 x3 x4 v : Nat → Int32} {x2 : Nat → Int64} {w : Nat} {s : State} {H : Heap}
abbrev PW (cI cJ : ClassId) (t : Nat → Nat) (x1 : Nat → Int32) (x2 : Nat → Int64) (x3 x4 : Nat → Int32) : va_W := [(t 0, .inl (cI, 40, .inl x1)), (t 1, .inl (cJ, 40, .inr (.inl x2))), (t 2, .inl (cI, 40, .inl x3)), (t 3, .inl (cI, 31, .inl x4))]
abbrev WY (cI : ClassId) (w : Nat) (v : Nat → Int32) : Nat × va_E := (w, .inl (cI, 40, .inl v))
def PKR (dC : Nat → ClassId) (dI : Nat → Nat → Nat) (cI cL cJ : ClassId) (t : Nat → Nat) (x1 : Nat → Int32) (x2 : Nat → Int64) (x3 x4 : Nat → Int32) (U : State) : Prop := va_P (dC, dI) vwCl (PW cI cJ t x1 x2 x3 x4) U.heap ∧ EV dC dI cI cL cJ U
def PKV (dC : Nat → ClassId) (dI : Nat → Nat → Nat) (cI cL cJ : ClassId) (w : Nat) (v : Nat → Int32) (U : State) : Prop := va_P (dC, dI) vwCl [WY cI w v] U.heap ∧ EV dC dI cI cL cJ U
def PKW (dC : Nat → ClassId) (dI : Nat → Nat → Nat) (cI cL cJ : ClassId) (t : Nat → Nat) (x1 : Nat → Int32) (x2 : Nat → Int64) (x3 x4 : Nat → Int32) (w : Nat) (v : Nat → Int32) (U : State) : Prop := va_P (dC, dI) vwCl (PW cI cJ t x1 x2 x3 x4 ++ [WY cI w v]) U.heap ∧ EV dC dI cI cL cJ U
theorem PKR_bl : Bl (PKR dC dI cI cL cJ t x1 x2 x3 x4) := fun U g mk a h => ⟨h.1, va_K.moved (u := U) (U := U.calling g mk a) (Vm.Alike.refl U.vm) h.2⟩
theorem PKV_bl : Bl (PKV dC dI cI cL cJ w v) := fun U g mk a h => ⟨h.1, va_K.moved (u := U) (U := U.calling g mk a) (Vm.Alike.refl U.vm) h.2⟩
theorem PKW_bl : Bl (PKW dC dI cI cL cJ t x1 x2 x3 x4 w v) := fun U g mk a h => ⟨h.1, va_K.moved (u := U) (U := U.calling g mk a) (Vm.Alike.refl U.vm) h.2⟩
theorem PKR_at (hK : EV dC dI cI cL cJ s) (hP : va_P (dC, dI) vwCl (PW cI cJ t x1 x2 x3 x4) H) : ∀ U : State, U.heap = H → s.WarmedH U.vm → PKR dC dI cI cL cJ t x1 x2 x3 x4 U := by
  intro U hU hW
  subst hU
  exact ⟨hP, va_K.moved hW.alike hK⟩
theorem PKV_at (hK : EV dC dI cI cL cJ s) (hP : va_P (dC, dI) vwCl [WY cI w v] H) : ∀ U : State, U.heap = H → s.WarmedH U.vm → PKV dC dI cI cL cJ w v U := by
  intro U hU hW
  subst hU
  exact ⟨hP, va_K.moved hW.alike hK⟩
theorem PKW_at (hK : EV dC dI cI cL cJ s) (hP : va_P (dC, dI) vwCl (PW cI cJ t x1 x2 x3 x4 ++ [WY cI w v]) H) : ∀ U : State, U.heap = H → s.WarmedH U.vm → PKW dC dI cI cL cJ t x1 x2 x3 x4 w v U := by
  intro U hU hW
  subst hU
  exact ⟨hP, va_K.moved hW.alike hK⟩
end PKW
