theorem q_d2b_n {x : UInt64} {c : Nat} {q : Int} (h : FPN x c q) : q_d2b x = x.toInt64 := by
  unfold q_d2b
  rw [if_neg (fp_self h.1)]
theorem fp_low2 {x : UInt64} {c : Nat} (h : FPN x c (-52)) : FP.d2l (FP.dmul (FP.dsub x 4607182418800017408) 4841369599423283200) = lN (c - 4503599627370496) := (fp_low h).2.2
theorem q_d2b_0 : q_d2b 0 = 0 := by
  have h : ¬ q_nan 0 := by
    unfold q_nan
    have e : Op.cmpValue (FP.dcmp 0 0) CmpOp.l = 0 := by decide +kernel
    rw [e]
    exact fun z => z rfl
  unfold q_d2b
  rw [if_neg h]
  rfl
theorem fp_0lt : ¬ (0 ≤ Op.cmpValue (FP.dcmp 0 4607182418800017408) CmpOp.g) := by decide +kernel
theorem fp_join {k T : Nat} (hT : T < 4503599627370496) : (lN (1023 + k) <<< ((nI 52).toInt64 &&& 63)) ||| lN T = lN ((1023 + k) * 4503599627370496 + T) := by
  have e : (nI 52).toInt64 &&& 63 = lN 52 := wb_c 52 (by decide)
  have e2 : lN (1023 + k) <<< ((nI 52).toInt64 &&& 63) = lN ((1023 + k) * 2 ^ 52) := by
    rw [e]
    apply wb_inj
    rw [Int64.toBitVec_shiftLeft, wb_tb, wb_tb, wb_tb, wb_sm 52 (by decide)]
    apply BitVec.eq_of_toNat_eq
    rw [BitVec.shiftLeft_eq', BitVec.toNat_shiftLeft, BitVec.toNat_ofNat, BitVec.toNat_ofNat, BitVec.toNat_ofNat, Nat.mod_eq_of_lt (show 52 < 2 ^ 64 by decide), Nat.shiftLeft_eq, Nat.mul_mod, Nat.mod_mod, ← Nat.mul_mod]
  rw [e2]
  apply wb_inj
  rw [Int64.toBitVec_or, wb_tb, wb_tb, wb_tb]
  have h2 : (1023 + k) * 2 ^ 52 ||| T = (1023 + k) * 4503599627370496 + T := by
    rw [Nat.mul_comm, ← Nat.two_pow_add_eq_or_of_lt (show T < 2 ^ 52 from hT)]
  rw [← h2]
  apply BitVec.eq_of_getLsbD_eq
  intro i hi
  rw [BitVec.getLsbD_or, BitVec.getLsbD_ofNat, BitVec.getLsbD_ofNat, BitVec.getLsbD_ofNat, Nat.testBit_or]
  simp [hi]
