/-! Long.bitCount's sum, byte by byte -/
def M55 : Nat → Nat
  | 0 => 0
  | k + 1 => 256 * M55 k + 85
def M33 : Nat → Nat
  | 0 => 0
  | k + 1 => 256 * M33 k + 51
def M0f : Nat → Nat
  | 0 => 0
  | k + 1 => 256 * M0f k + 15
def bf1 (k n : Nat) : Nat := n - (n / 2 &&& M55 k)
def bf2 (k n : Nat) : Nat := (bf1 k n &&& M33 k) + (bf1 k n / 4 &&& M33 k)
def bf3 (k n : Nat) : Nat := (bf2 k n + bf2 k n / 16) &&& M0f k
def bg1 (c : Nat) : Nat := c - (c / 2 &&& 85)
def bg2 (c : Nat) : Nat := (bg1 c &&& 51) + (bg1 c / 4 &&& 51)
def bg3 (c : Nat) : Nat := (bg2 c + bg2 c / 16) &&& 15
theorem and_step {a b m c : Nat} (hb : b < 256) (hc : c < 256) : (256 * a + b) &&& (256 * m + c) = 256 * (a &&& m) + (b &&& c) := by
  have hbc : b &&& c < 2 ^ 8 := Nat.and_lt_two_pow _ hc
  apply Nat.eq_of_testBit_eq
  intro i
  rw [Nat.testBit_and, show 256 = 2 ^ 8 from rfl, Nat.testBit_two_pow_mul_add _ hb, Nat.testBit_two_pow_mul_add _ hc, Nat.testBit_two_pow_mul_add _ hbc]
  by_cases h : i < 8
  · rw [if_pos h, if_pos h, if_pos h, Nat.testBit_and]
  · rw [if_neg h, if_neg h, if_neg h, Nat.testBit_and]
theorem bd1 : ∀ b, b < 2 → ∀ c, c < 256 → (128 * b + c / 2) &&& 85 = c / 2 &&& 85 := by decide +kernel
theorem bd2 : ∀ b, b < 4 → ∀ c, c < 256 → (64 * b + c / 4) &&& 51 = c / 4 &&& 51 := by decide +kernel
theorem bd3 : ∀ c, c < 256 → bg1 c < 256 ∧ bg2 c ≤ 68 ∧ bg2 c % 16 ≤ 4 ∧ bg3 c = q_cn (fun j => c.testBit j = true) 8 ∧ c / 2 &&& 85 ≤ c := by decide +kernel
theorem bf1_s {k q c : Nat} (hc : c < 256) : bf1 (k + 1) (256 * q + c) = 256 * bf1 k q + bg1 c := by
  have h1 : (256 * q + c) / 2 = 256 * (q / 2) + (128 * (q % 2) + c / 2) := by omega
  have h2 := and_step (a := q / 2) (b := 128 * (q % 2) + c / 2) (m := M55 k) (c := 85) (by omega) (by decide)
  rw [bd1 _ (Nat.mod_lt _ (by decide)) c hc] at h2
  have h3 : q / 2 &&& M55 k ≤ q / 2 := Nat.and_le_left
  have h4 := (bd3 c hc).2.2.2.2
  show 256 * q + c - ((256 * q + c) / 2 &&& (256 * M55 k + 85)) = 256 * (q - (q / 2 &&& M55 k)) + (c - (c / 2 &&& 85))
  rw [h1, h2]
  omega
theorem bf2_s {k q c : Nat} (hc : c < 256) : bf2 (k + 1) (256 * q + c) = 256 * bf2 k q + bg2 c := by
  have h0 := (bd3 c hc).1
  have h1 : (256 * bf1 k q + bg1 c) / 4 = 256 * (bf1 k q / 4) + (64 * (bf1 k q % 4) + bg1 c / 4) := by omega
  have h2 := and_step (a := bf1 k q) (b := bg1 c) (m := M33 k) (c := 51) h0 (by decide)
  have h3 := and_step (a := bf1 k q / 4) (b := 64 * (bf1 k q % 4) + bg1 c / 4) (m := M33 k) (c := 51) (by omega) (by decide)
  rw [bd2 _ (Nat.mod_lt _ (by decide)) _ h0] at h3
  unfold bf2
  rw [bf1_s hc]
  show ((256 * bf1 k q + bg1 c) &&& (256 * M33 k + 51)) + ((256 * bf1 k q + bg1 c) / 4 &&& (256 * M33 k + 51)) = 256 * ((bf1 k q &&& M33 k) + (bf1 k q / 4 &&& M33 k)) + ((bg1 c &&& 51) + (bg1 c / 4 &&& 51))
  rw [h1, h2, h3]
  omega
theorem bf3_s {k q c : Nat} (hc : c < 256) (hq : bf2 k q % 16 ≤ 4) : bf3 (k + 1) (256 * q + c) = 256 * bf3 k q + bg3 c := by
  have h0 := (bd3 c hc).2.1
  have h1 : (256 * bf2 k q + bg2 c) + (256 * bf2 k q + bg2 c) / 16 = 256 * (bf2 k q + bf2 k q / 16) + (bg2 c + 16 * (bf2 k q % 16) + bg2 c / 16) := by omega
  have h2 := and_step (a := bf2 k q + bf2 k q / 16) (b := bg2 c + 16 * (bf2 k q % 16) + bg2 c / 16) (m := M0f k) (c := 15) (by omega) (by decide)
  have h3 : (bg2 c + 16 * (bf2 k q % 16) + bg2 c / 16) &&& 15 = (bg2 c + bg2 c / 16) &&& 15 := by
    rw [show 15 = 2 ^ 4 - 1 from rfl, Nat.and_two_pow_sub_one_eq_mod, Nat.and_two_pow_sub_one_eq_mod]
    omega
  unfold bf3
  rw [bf2_s hc]
  show ((256 * bf2 k q + bg2 c) + (256 * bf2 k q + bg2 c) / 16) &&& (256 * M0f k + 15) = 256 * ((bf2 k q + bf2 k q / 16) &&& M0f k) + ((bg2 c + bg2 c / 16) &&& 15)
  rw [h1, h2, h3]
theorem bf2_m {k q c : Nat} (hc : c < 256) : bf2 (k + 1) (256 * q + c) % 16 ≤ 4 := by
  rw [bf2_s hc]
  have := (bd3 c hc).2.2.1
  omega
theorem q_cn_8 (P : Nat → Prop) [DecidablePred P] (m : Nat) : ∀ n, q_cn P (m + n) = q_cn P m + q_cn (fun k => P (m + k)) n := by
  intro n
  induction n with
  | zero => rfl
  | succ n ih =>
    show q_cn P (m + n) + _ = q_cn P m + (q_cn (fun k => P (m + k)) n + _)
    rw [ih, Nat.add_assoc]
    rfl
theorem bt_s {q c m : Nat} (hc : c < 256) : q_cn (fun p => (256 * q + c).testBit p = true) (8 + m) = bg3 c + q_cn (fun p => q.testBit p = true) m := by
  rw [q_cn_8 _ 8 m, (bd3 c hc).2.2.2.1]
  have e1 : q_cn (fun p => (256 * q + c).testBit p = true) 8 = q_cn (fun p => c.testBit p = true) 8 := q_cn_congr 8 (fun k hk => by
    rw [show 256 = 2 ^ 8 from rfl, Nat.testBit_two_pow_mul_add _ hc, if_pos hk])
  have e2 : q_cn (fun k => (256 * q + c).testBit (8 + k) = true) m = q_cn (fun p => q.testBit p = true) m := q_cn_congr m (fun k hk => by
    rw [show 256 = 2 ^ 8 from rfl, Nat.testBit_two_pow_mul_add _ hc, if_neg (by omega), Nat.add_sub_cancel_left])
  rw [e1, e2]
theorem bg3_le {c : Nat} (hc : c < 256) : bg3 c ≤ 8 := by rw [(bd3 c hc).2.2.2.1]; exact q_cn_le _ 8
theorem bb1 {n : Nat} (hn : n < 1099511627776) : q_b1 (lN n) = lN (bf1 8 n) := by
  have h1 : q_us (lN n) 1 = lN (n / 2) := wb_shr (by omega) (by decide)
  have h2 : (6148914691236517205 : Int64) = lN (M55 8) := by decide +kernel
  have h3 : M55 8 < 2 ^ 64 := by decide +kernel
  have h4 : n / 2 &&& M55 8 ≤ n / 2 := Nat.and_le_left
  unfold q_b1
  rw [h1, h2, wb_and (by omega) h3, lN_sub (by omega)]
  rfl
theorem bf1_lt {n : Nat} (hn : n < 1099511627776) : bf1 8 n < 1099511627776 := Nat.lt_of_le_of_lt (Nat.sub_le _ _) hn
theorem bb2 {n : Nat} (hn : n < 1099511627776) : q_b2 (lN n) = lN (bf2 8 n) := by
  have hl := bf1_lt hn
  have h1 : q_us (lN (bf1 8 n)) 2 = lN (bf1 8 n / 4) := wb_shr (by omega) (by decide)
  have h2 : (3689348814741910323 : Int64) = lN (M33 8) := by decide +kernel
  have h3 : M33 8 < 2 ^ 64 := by decide +kernel
  unfold q_b2
  rw [bb1 hn, h1, h2, wb_and (by omega) h3, wb_and (by omega) h3, lN_add]
  rfl
theorem bf2_lt {n : Nat} (hn : n < 1099511627776) : bf2 8 n < 4 * 1099511627776 := by
  have hl := bf1_lt hn
  have h1 : bf1 8 n &&& M33 8 ≤ bf1 8 n := Nat.and_le_left
  have h2 : bf1 8 n / 4 &&& M33 8 ≤ bf1 8 n / 4 := Nat.and_le_left
  unfold bf2
  omega
theorem bb3 {n : Nat} (hn : n < 1099511627776) : q_b3 (lN n) = lN (bf3 8 n) := by
  have hl := bf2_lt hn
  have h1 : q_us (lN (bf2 8 n)) 4 = lN (bf2 8 n / 16) := wb_shr (by omega) (by decide)
  have h2 : (1085102592571150095 : Int64) = lN (M0f 8) := by decide +kernel
  have h3 : M0f 8 < 2 ^ 64 := by decide +kernel
  unfold q_b3
  rw [bb2 hn, h1, h2, lN_add, wb_and (by omega) h3]
  rfl
theorem bb6 {n m : Nat} (hm : m < 1099511627776) (h : q_b3 (lN n) = lN m) : q_bc (lN n) = nI (((m + m / 256) + (m + m / 256) / 65536 + ((m + m / 256) + (m + m / 256) / 65536) / 4294967296) % 128) := by
  have h1 : q_us (lN m) 8 = lN (m / 256) := wb_shr (by omega) (by decide)
  have e4 : q_b4 (lN n) = lN (m + m / 256) := by unfold q_b4; rw [h, h1, lN_add]
  have h2 : q_us (lN (m + m / 256)) 16 = lN ((m + m / 256) / 65536) := wb_shr (by omega) (by decide)
  have e5 : q_b5 (lN n) = lN ((m + m / 256) + (m + m / 256) / 65536) := by unfold q_b5; rw [e4, h2, lN_add]
  have h3 : q_us (lN ((m + m / 256) + (m + m / 256) / 65536)) 32 = lN (((m + m / 256) + (m + m / 256) / 65536) / 4294967296) := wb_shr (by omega) (by decide)
  have e6 : q_b6 (lN n) = lN ((m + m / 256) + (m + m / 256) / 65536 + ((m + m / 256) + (m + m / 256) / 65536) / 4294967296) := by unfold q_b6; rw [e5, h3, lN_add]
  unfold q_bc
  rw [e6, lN_i, pk_and _ (m := nI 127) 7 (by decide)]
  congr 1
  show (_ % 2 ^ 32) % 2 ^ 7 = _
  omega
theorem bsum {p0 p1 p2 p3 p4 m : Nat} (a0 : p0 ≤ 8) (a1 : p1 ≤ 8) (a2 : p2 ≤ 8) (a3 : p3 ≤ 8) (a4 : p4 ≤ 8) (hm : m = 256 * (256 * (256 * (256 * (256 * 0 + p4) + p3) + p2) + p1) + p0) :
    ((m + m / 256) + (m + m / 256) / 65536 + ((m + m / 256) + (m + m / 256) / 65536) / 4294967296) % 128 = p0 + (p1 + (p2 + (p3 + (p4 + 0)))) := by
  have h1 : m / 256 = p1 + 256 * p2 + 65536 * p3 + 16777216 * p4 := by omega
  obtain ⟨s1, hs1⟩ : ∃ z, z = m + m / 256 := ⟨_, rfl⟩
  have h2 : s1 = (p0 + p1) + 256 * (p1 + p2) + 65536 * (p2 + p3) + 16777216 * (p3 + p4) + 4294967296 * p4 := by omega
  have h3 : s1 / 65536 = (p2 + p3) + 256 * (p3 + p4) + 65536 * p4 := by clear h1 hs1 hm; omega
  rw [← hs1]
  obtain ⟨s2, hs2⟩ : ∃ z, z = s1 + s1 / 65536 := ⟨_, rfl⟩
  have h4 : s2 = (p0 + p1 + p2 + p3) + 256 * (p1 + p2 + p3 + p4) + 65536 * (p2 + p3 + p4) + 16777216 * (p3 + p4) + 4294967296 * p4 := by clear h1 hs1 hm; omega
  have h5 : s2 / 4294967296 = p4 := by clear h1 hs1 hm h2 h3 hs2; omega
  rw [← hs2]
  clear h1 hs1 hm h2 h3 hs2
  omega
theorem q_bc_cn {x : Int64} (hx : ∀ i, 40 ≤ i → tb x i = false) : q_bc x = nI (q_cn (fun p => tb x p = true) 40) := by
  obtain ⟨n, hn, rfl⟩ := wb_of x
  have ht : ∀ i, i < 64 → tb (lN n) i = n.testBit i := by
    intro i hi
    unfold tb
    rw [wb_tb, BitVec.getLsbD_ofNat]
    simp [hi]
  have hn4 : n < 2 ^ 40 := Nat.lt_pow_two_of_testBit n (fun i hi => by
    by_cases h : i < 64
    · rw [← ht i h]; exact hx i hi
    · exact Nat.testBit_lt_two_pow (Nat.lt_of_lt_of_le hn (Nat.pow_le_pow_right (by decide) (by omega))))
  rw [show q_cn (fun p => tb (lN n) p = true) 40 = q_cn (fun p => n.testBit p = true) 40 from q_cn_congr 40 (fun k hk => by rw [ht k (by omega)])]
  have hn5 : n < 1099511627776 := hn4
  obtain ⟨c0, c1, c2, c3, c4, h0, h1, h2, h3, h4, hc⟩ : ∃ c0 c1 c2 c3 c4 : Nat, c0 < 256 ∧ c1 < 256 ∧ c2 < 256 ∧ c3 < 256 ∧ c4 < 256 ∧ n = 256 * (256 * (256 * (256 * (256 * 0 + c4) + c3) + c2) + c1) + c0 :=
    ⟨n % 256, n / 256 % 256, n / 65536 % 256, n / 16777216 % 256, n / 4294967296 % 256, by omega, by omega, by omega, by omega, by omega, by omega⟩
  have z3 : bf3 3 0 = 0 := by decide +kernel
  have z2 : bf2 3 0 % 16 ≤ 4 := by decide +kernel
  have e3 : bf3 8 n = 256 * (256 * (256 * (256 * (256 * 0 + bg3 c4) + bg3 c3) + bg3 c2) + bg3 c1) + bg3 c0 := by
    rw [hc, bf3_s h0 (bf2_m h1), bf3_s h1 (bf2_m h2), bf3_s h2 (bf2_m h3), bf3_s h3 (bf2_m h4), bf3_s h4 z2, z3]
  have ec : q_cn (fun p => n.testBit p = true) 40 = bg3 c0 + (bg3 c1 + (bg3 c2 + (bg3 c3 + (bg3 c4 + 0)))) := by
    rw [hc, show 40 = 8 + (8 + (8 + (8 + (8 + 0)))) from rfl, bt_s h0, bt_s h1, bt_s h2, bt_s h3, bt_s h4]
    rfl
  have a0 := bg3_le h0
  have a1 := bg3_le h1
  have a2 := bg3_le h2
  have a3 := bg3_le h3
  have a4 := bg3_le h4
  rw [bb6 (m := bf3 8 n) (by rw [e3]; omega) (bb3 hn5), ec]
  exact congrArg nI (bsum a0 a1 a2 a3 a4 e3)
