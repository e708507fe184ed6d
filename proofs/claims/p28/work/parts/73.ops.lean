/-! the law's actions on its packed rows, beside the ground's -/
theorem orN {k c i : Nat} (h : k < 2 ^ i) : k ||| c * 2 ^ i = k + c * 2 ^ i := by
  rw [Nat.or_comm, Nat.mul_comm, ← Nat.two_pow_add_eq_or_of_lt h, Nat.add_comm]
theorem orM {lo mid hi i j : Nat} (h1 : lo < 2 ^ i) (h2 : lo + mid * 2 ^ i < 2 ^ j) : (lo + hi * 2 ^ j) ||| mid * 2 ^ i = lo + mid * 2 ^ i + hi * 2 ^ j := by
  rw [← orN (k := lo) (c := hi) (i := j) (by omega), Nat.or_assoc, Nat.or_comm (hi * 2 ^ j), ← Nat.or_assoc, orN h1, orN h2]
section UP
variable {d d' : RW} {yn ub : Nat} {x1 x3 x4 y1 y3 y4 : Nat → Int32} {x2 y2 : Nat → Int64} {p f : Nat}
def PKU (d : RW) (ub : Nat) : Prop := ∀ p, p < 40 → d 5 p ≠ -1 → ∃ u : Nat, u ≤ ub ∧ d 6 p = nI u
theorem PKU.mono {u2 : Nat} (h : PKU d ub) (hu : ub ≤ u2) : PKU d u2 := fun p hp o => by
  obtain ⟨u, a, b⟩ := h p hp o
  exact ⟨u, by omega, b⟩
theorem PKU.cong (h : PKU d ub) (h5 : d' 5 = d 5) (h6 : d' 6 = d 6) : PKU d' ub := fun p hp o => by rw [h6]; rw [h5] at o; exact h p hp o
theorem PKg.cong (h : PKg d x1) (h3 : d' 3 = d 3) (h4 : d' 4 = d 4) (h5 : d' 5 = d 5) (h6 : d' 6 = d 6) : PKg d' x1 := fun p hp => by rw [h3, h4, h5, h6]; exact h p hp
theorem PKb.cong (h : PKb d x2) (h7 : d' 7 = d 7) (h8 : d' 8 = d 8) : PKb d' x2 := fun p hp => by rw [h7, h8]; exact h p hp
theorem PKe.cong (h : PKe d x3) (h7 : d' 7 = d 7) (h9 : d' 9 = d 9) : PKe d' x3 := fun p hp => by rw [h7, h9]; exact h p hp
theorem PKf.cong {y : Int32} (h : PKf d y x4) (h0 : d' 0 = d 0) (h1 : d' 1 = d 1) (h2 : d' 2 = d 2) : PKf d' y x4 := ⟨h.1, fun f hf => by rw [h0, h1, h2]; exact h.2 f hf⟩
theorem rd_all (h : PKg d x1) (hp : p < 40) (h4 : d 4 p = -1) (h5 : d 5 p = -1) : d 3 p = x1 p := by
  obtain ⟨k, v, r, u, hk, hv, hr, hu, h0, e, e3, e4, e5, e6⟩ := h p hp
  rcases m1_cases hv with ⟨z, -⟩ | ⟨g, hg, -, z⟩
  · rcases m1_cases hr with ⟨z2, -⟩ | ⟨g, hg, -, z2⟩
    · rw [e3, e, z, z2, h0 z2]; rfl
    · exact absurd (z2.symm.trans (e5.symm.trans h5)) (nI_ne1 (by omega))
  · exact absurd (z.symm.trans (e4.symm.trans h4)) (nI_ne1 (by omega))
theorem up_lay {kv : Nat} (h : PKI d yn x1 x2 x3 x4) (h1 : 1 ≤ p) (hp : p < 40) (hk : kv ≤ 3) (hb : q_bur d p = 0) (h4 : d 4 p = -1) (h5 : d 5 p = -1) : PKI (q_up d 3 p (nI kv)) yn (upd x1 p (nI kv)) x2 x3 x4 := by
  obtain ⟨i0, g, b, e, f0⟩ := h
  refine ⟨INV_kind i0 h1 hp hk hb h4, ?_, b.cong (q_up_ne _ (by decide) _ _) (q_up_ne _ (by decide) _ _), e.cong (q_up_ne _ (by decide) _ _) (q_up_ne _ (by decide) _ _), f0.cong (q_up_ne _ (by decide) _ _) (q_up_ne _ (by decide) _ _) (q_up_ne _ (by decide) _ _)⟩
  intro q hq
  rw [q_up_at, q_up_ne _ (show 4 ≠ 3 by decide), q_up_ne _ (show 5 ≠ 3 by decide), q_up_ne _ (show 6 ≠ 3 by decide)]
  by_cases hqp : q = p
  · subst hqp
    refine ⟨kv, 0, 0, 0, by omega, by omega, by omega, by omega, fun _ => rfl, ?_, pk_us, h4.trans (by decide), h5.trans (by decide), ?_⟩
    · rw [pk_us]; rfl
    · rw [if_pos rfl]; exact rd_u0 g hq h5
  · rw [upd_ne hqp, upd_ne hqp]
    exact g q hq
theorem up_pass {v : Nat} (h : PKI d yn x1 x2 x3 x4) : PKI d (yn + v) x1 x2 x3 (upd x4 30 (nI (yn + v))) := by
  obtain ⟨i0, g, b, e, f0⟩ := h
  refine ⟨i0, g, b, e, pk_us, fun f hf => ?_⟩
  rw [upd_ne (by omega), upd_ne (by omega), upd_ne (by omega)]
  exact f0.2 f hf
theorem pass_eq {y y2 : Int32} : nI (q_last d y) - nI (q_last d y2) = nI (q_lap d y2) - nI (q_lap d y) := by
  have key : ∀ y : Int32, ∀ n, q_cn (fun p => q_kept d y p) n + q_cn (fun p => d 5 p ≠ -1 ∧ d 6 p < y) n = q_cn (fun p => d 5 p ≠ -1) n := by
    intro y n
    induction n with
    | zero => rfl
    | succ n ih =>
      by_cases h5 : d 5 n = -1
      · rw [q_cn_f (P := fun p => q_kept d y p) (fun z => z.1 h5), q_cn_f (P := fun p => d 5 p ≠ -1 ∧ d 6 p < y) (fun z => z.1 h5), q_cn_f (P := fun p => d 5 p ≠ -1) (fun z => z h5)]
        exact ih
      · by_cases h6 : d 6 n < y
        · rw [q_cn_f (P := fun p => q_kept d y p) (fun z => absurd z.2 (Int32.not_le.mpr h6)), q_cn_t (P := fun p => d 5 p ≠ -1 ∧ d 6 p < y) ⟨h5, h6⟩, q_cn_t (P := fun p => d 5 p ≠ -1) h5]
          omega
        · rw [q_cn_t (P := fun p => q_kept d y p) ⟨h5, Int32.not_lt.mp h6⟩, q_cn_f (P := fun p => d 5 p ≠ -1 ∧ d 6 p < y) (fun z => h6 z.2), q_cn_t (P := fun p => d 5 p ≠ -1) h5]
          omega
  have a := key y 40
  have b := key y2 40
  have l1 : q_last d y ≤ 40 := q_cn_le _ 40
  have l2 : q_last d y2 ≤ 40 := q_cn_le _ 40
  have l3 : q_lap d y ≤ 40 := q_cn_le _ 40
  have l4 : q_lap d y2 ≤ 40 := q_cn_le _ 40
  have c : q_last d y + q_lap d y = q_last d y2 + q_lap d y2 := a.trans b.symm
  apply Int32.toInt_inj.mp
  rw [pk_sub_toInt (by omega) (by omega), pk_sub_toInt (by omega) (by omega)]
  omega
theorem up_par {z : Nat} (h : PKI d yn x1 x2 x3 x4) (hf : f < 10) (hz : z < 2) : PKI (q_up d 0 f (nI (if z = 1 then 1 else 0))) yn x1 x2 x3 (upd x4 f (nI z)) := by
  obtain ⟨i0, g, b, e, f0⟩ := h
  refine ⟨INV_par i0, g.cong (q_up_ne _ (by decide) _ _) (q_up_ne _ (by decide) _ _) (q_up_ne _ (by decide) _ _) (q_up_ne _ (by decide) _ _), b.cong (q_up_ne _ (by decide) _ _) (q_up_ne _ (by decide) _ _), e.cong (q_up_ne _ (by decide) _ _) (q_up_ne _ (by decide) _ _), by rw [upd_ne (by omega)]; exact f0.1, fun k hk => ?_⟩
  rw [q_up_at, q_up_ne _ (show 1 ≠ 0 by decide), q_up_ne _ (show 2 ≠ 0 by decide), upd_ne (j := 10 + k) (by omega), upd_ne (j := 20 + k) (by omega)]
  obtain ⟨a0, a1, a2, a3⟩ := f0.2 k hk
  by_cases hkf : k = f
  · subst hkf
    rw [pk_us, pk_us]
    refine ⟨?_, a1, a2, ?_⟩
    · rcases (show z = 0 ∨ z = 1 by omega) with rfl | rfl <;> rfl
    · rcases (show z = 0 ∨ z = 1 by omega) with rfl | rfl
      · exact Or.inl rfl
      · exact Or.inr rfl
  · rw [upd_ne hkf, upd_ne hkf]
    exact ⟨a0, a1, a2, a3⟩
/-- what a family has paid, with one price more -/
theorem PKf.paid {y c : Int32} (h : PKf d y x4) (hf : f < 10) (h0 : d' 0 = d 0) (h1 : d' 1 = upd (d 1) f (d 1 f + c)) (h2 : d' 2 = d 2) : PKf d' y (upd x4 (10 + f) (x4 (10 + f) + c)) := by
  refine ⟨by rw [upd_ne (by omega)]; exact h.1, fun k hk => ?_⟩
  obtain ⟨a0, a1, a2, a3⟩ := h.2 k hk
  rw [h0, h1, h2, upd_ne (j := k) (by omega), upd_ne (j := 20 + k) (by omega)]
  refine ⟨a0, ?_, a2, a3⟩
  by_cases hkf : k = f
  · subst hkf
    rw [pk_us, pk_us, a1]
  · rw [upd_ne hkf, upd_ne (by omega)]
    exact a1
theorem pr_mul {v : Nat} {y : Int32} (h : PKf d y x4) (hf : f < 10) : q_pr d f (nI (2 * v)) = nI (2 * v) * (nI 2 - d 0 f) := by
  unfold q_pr
  rcases (h.2 f hf).2.2.2 with e | e
  · rw [e, if_neg (by decide), pk_mul, pk_sub (by omega), pk_mul]; congr 1; omega
  · rw [e, if_pos rfl, pk_sub (by omega), pk_mul]; congr 1; omega
theorem pr_100 {y : Int32} (h : PKf d y x4) (hf : f < 10) : q_pr d f (nI 100) = nI 200 - nI 100 * d 0 f := by
  unfold q_pr
  rcases (h.2 f hf).2.2.2 with e | e
  · rw [e, if_neg (by decide)]; decide
  · rw [e, if_pos rfl]; decide
theorem from_n (h : PKI d yn x1 x2 x3 x4) (hu : PKU d ub) (hy : yn ≤ ub) (hp : p < 40) : ∃ fr : Nat, fr ≤ ub ∧ (if q_kept d (nI yn) p then d 6 p else nI yn) = nI fr := by
  by_cases hk : q_kept d (nI yn) p
  · obtain ⟨u, a, b⟩ := hu p hp hk.1
    exact ⟨u, a, by rw [if_pos hk, b]⟩
  · exact ⟨yn, hy, if_neg hk⟩
theorem addR_rows (d : RW) (y : Int32) (f p n : Nat) : (q_addR d y f p n) 0 = d 0 ∧ (q_addR d y f p n) 1 = upd (d 1) f (d 1 f + q_pr d f (nI (2 * n))) ∧ (q_addR d y f p n) 2 = d 2 ∧ (q_addR d y f p n) 3 = d 3 ∧ (q_addR d y f p n) 4 = d 4 ∧ (q_addR d y f p n) 5 = upd (d 5) p (nI f) ∧ (q_addR d y f p n) 6 = upd (d 6) p ((if d 5 p = nI f ∧ q_kept d y p then d 6 p else y) + nI n) ∧ (q_addR d y f p n) 7 = d 7 ∧ (q_addR d y f p n) 8 = d 8 ∧ (q_addR d y f p n) 9 = d 9 := ⟨rfl, rfl, rfl, rfl, rfl, rfl, rfl, rfl, rfl, rfl⟩
theorem addV_rows (d : RW) (f p : Nat) : (q_addV d f p) 0 = d 0 ∧ (q_addV d f p) 1 = upd (d 1) f (d 1 f + q_pr d f (nI 100)) ∧ (q_addV d f p) 2 = d 2 ∧ (q_addV d f p) 3 = d 3 ∧ (q_addV d f p) 4 = upd (d 4) p (nI f) ∧ (q_addV d f p) 5 = upd (d 5) p (-1) ∧ (q_addV d f p) 6 = upd (d 6) p (-1) ∧ (q_addV d f p) 7 = d 7 ∧ (q_addV d f p) 8 = d 8 ∧ (q_addV d f p) 9 = d 9 := ⟨rfl, rfl, rfl, rfl, rfl, rfl, rfl, rfl, rfl, rfl⟩
theorem addB_rows (d : RW) (y : Int32) (f p dep : Nat) : (q_addB d y f p dep) 0 = d 0 ∧ (q_addB d y f p dep) 1 = upd (d 1) f (d 1 f + q_fee d y f p dep) ∧ (q_addB d y f p dep) 2 = upd (d 2) f (d 2 f + nI 1) ∧ (q_addB d y f p dep) 3 = d 3 ∧ (q_addB d y f p dep) 4 = d 4 ∧ (q_addB d y f p dep) 5 = d 5 ∧ (q_addB d y f p dep) 6 = d 6 ∧ (q_addB d y f p dep) 7 = upd (d 7) (p * 3 + (dep - 1)) (nI f) ∧ (q_addB d y f p dep) 8 = upd (d 8) (p * 3 + (dep - 1)) y ∧ (q_addB d y f p dep) 9 = upd (d 9) (p * 3 + (dep - 1)) (q_fee d y f p dep) := ⟨rfl, rfl, rfl, rfl, rfl, rfl, rfl, rfl, rfl, rfl⟩
theorem up_res {v fr : Nat} (h : PKI d yn x1 x2 x3 x4) (hu : PKU d ub) (hub : ub ≤ 10000) (hf : f < 10) (hp : p < 40) (h1 : 1 ≤ v) (hv : v ≤ 50) (h4 : d 4 p = -1) (ho : ¬ q_oth (q_hold d (nI yn) p) (nI f)) (hfr : fr ≤ ub) (efr : (if q_kept d (nI yn) p then d 6 p else nI yn) = nI fr) :
    PKI (q_addR d (nI yn) f p v) yn (upd x1 p ((d 3 p ||| (nI (f + 1) <<< (nI 6 &&& 31))) ||| (nI (fr + v) <<< (nI 10 &&& 31)))) x2 x3 (upd x4 (10 + f) (x4 (10 + f) + nI (2 * v) * (nI 2 - d 0 f))) ∧ PKU (q_addR d (nI yn) f p v) (ub + 50) := by
  obtain ⟨i0, g, b, e, f0⟩ := h
  obtain ⟨r0, r1, r2, r3, r4, r5, r6, r7, r8, r9⟩ := addR_rows d (nI yn) f p v
  have hfrom : (if d 5 p = nI f ∧ q_kept d (nI yn) p then d 6 p else nI yn) = nI fr := by
    by_cases hk : q_kept d (nI yn) p
    · have h5 : d 5 p = nI f := by
        apply Classical.byContradiction
        intro hne
        refine ho ?_
        rw [q_hold_hs, if_neg (fun z => z h4), if_pos hk]
        exact ⟨hk.1, hne⟩
      rw [if_pos ⟨h5, hk⟩, ← efr, if_pos hk]
    · rw [if_neg (fun z => hk z.2), ← efr, if_neg hk]
  refine ⟨⟨INV_addR i0, ?_, b.cong r7 r8, e.cong r7 r9, ?_⟩, ?_⟩
  · intro q hq
    rw [r3, r4, r5, r6, hfrom, nI_add]
    by_cases hqp : q = p
    · subst hqp
      obtain ⟨k, hk4, ek⟩ := rd_3 g hq
      refine ⟨k, 0, f + 1, fr + v, hk4, by omega, by omega, by omega, fun z => absurd z (by omega), ?_, ek, h4.trans (by decide), ?_, ?_⟩
      · rw [pk_us, ek, pb_shl (by decide), pb_shl (by decide), pb_or (by omega) (by omega), orN (show k < 2 ^ 6 by omega), pb_or (by omega) (by omega), orN (show k + (f + 1) * 2 ^ 6 < 2 ^ 10 by omega)]
        congr 1
        omega
      · rw [pk_us, pk_sub (by omega)]; rfl
      · rw [pk_us, if_neg (by omega)]
    · rw [upd_ne hqp, upd_ne hqp, upd_ne hqp]
      exact g q hq
  · rw [← pr_mul f0 hf]
    exact f0.paid hf r0 r1 r2
  · intro q hq h5
    rw [r6, hfrom, nI_add]
    rw [r5] at h5
    by_cases hqp : q = p
    · subst hqp
      exact ⟨fr + v, by omega, pk_us⟩
    · rw [upd_ne hqp] at h5 ⊢
      obtain ⟨u, a, c⟩ := hu q hq h5
      exact ⟨u, by omega, c⟩
theorem up_vau (h : PKI d yn x1 x2 x3 x4) (hu : PKU d ub) (hf : f < 10) (hp : p < 40) (h3 : d 3 p ≠ nI 3) (h4 : d 4 p = -1) :
    PKI (q_addV d f p) yn (upd x1 p (d 3 p ||| (nI (f + 1) <<< (nI 2 &&& 31)))) x2 x3 (upd x4 (10 + f) (x4 (10 + f) + (nI 200 - nI 100 * d 0 f))) ∧ PKU (q_addV d f p) (ub + 50) := by
  obtain ⟨i0, g, b, e, f0⟩ := h
  obtain ⟨r0, r1, r2, r3, r4, r5, r6, r7, r8, r9⟩ := addV_rows d f p
  refine ⟨⟨INV_addV i0 hf h3, ?_, b.cong r7 r8, e.cong r7 r9, ?_⟩, ?_⟩
  · intro q hq
    rw [r3, r4, r5, r6]
    by_cases hqp : q = p
    · subst hqp
      obtain ⟨k, hk4, ek⟩ := rd_3 g hq
      refine ⟨k, f + 1, 0, 0, hk4, by omega, by omega, by omega, fun _ => rfl, ?_, ek, ?_, ?_, ?_⟩
      · rw [pk_us, ek, pb_shl (by decide), pb_or (by omega) (by omega), orN (show k < 2 ^ 2 by omega)]
        congr 1
        omega
      · rw [pk_us, pk_sub (by omega)]; rfl
      · rw [pk_us]; decide
      · rw [pk_us, if_pos rfl]
    · rw [upd_ne hqp, upd_ne hqp, upd_ne hqp, upd_ne hqp]
      exact g q hq
  · rw [← pr_100 f0 hf]
    exact f0.paid hf r0 r1 r2
  · intro q hq h5
    rw [r6]
    rw [r5] at h5
    by_cases hqp : q = p
    · subst hqp
      rw [pk_us] at h5
      exact absurd rfl h5
    · rw [upd_ne hqp] at h5 ⊢
      obtain ⟨u, a, c⟩ := hu q hq h5
      exact ⟨u, by omega, c⟩
theorem rm_rows (d : RW) (p : Nat) : (q_rm d p 3) 0 = d 0 ∧ (q_rm d p 3) 1 = d 1 ∧ (q_rm d p 3) 2 = d 2 ∧ (q_rm d p 3) 3 = d 3 ∧ (q_rm d p 3) 4 = d 4 ∧ (q_rm d p 3) 5 = d 5 ∧ (q_rm d p 3) 6 = d 6 ∧ (q_rm d p 3) 7 = upd (upd (upd (d 7) (p * 3 + 0) (-1)) (p * 3 + 1) (-1)) (p * 3 + 2) (-1) ∧ (q_rm d p 3) 8 = upd (upd (upd (d 8) (p * 3 + 0) (-1)) (p * 3 + 1) (-1)) (p * 3 + 2) (-1) ∧ (q_rm d p 3) 9 = upd (upd (upd (d 9) (p * 3 + 0) (-1)) (p * 3 + 1) (-1)) (p * 3 + 2) (-1) := ⟨rfl, rfl, rfl, rfl, rfl, rfl, rfl, rfl, rfl, rfl⟩
theorem u3_in {g : Nat → Int32} {j : Nat} (hj : j < 3) : upd (upd (upd g (p * 3 + 0) (-1)) (p * 3 + 1) (-1)) (p * 3 + 2) (-1) (p * 3 + j) = -1 := by
  rcases (show j = 0 ∨ j = 1 ∨ j = 2 by omega) with rfl | rfl | rfl
  · rw [upd_ne (by omega), upd_ne (by omega), pk_us]
  · rw [upd_ne (by omega), pk_us]
  · rw [pk_us]
theorem u3_out {g : Nat → Int32} {q j : Nat} (hj : j < 3) (hq : q ≠ p) : upd (upd (upd g (p * 3 + 0) (-1)) (p * 3 + 1) (-1)) (p * 3 + 2) (-1) (q * 3 + j) = g (q * 3 + j) := by
  rw [upd_ne (by omega), upd_ne (by omega), upd_ne (by omega)]
theorem up_clr (h : PKI d yn x1 x2 x3 x4) (hp : p < 40) : PKI (q_rm d p 3) yn x1 (vp_updL x2 p 0) (upd x3 p (nI 0)) x4 := by
  obtain ⟨i0, g, b, e, f0⟩ := h
  obtain ⟨r0, r1, r2, r3, r4, r5, r6, r7, r8, r9⟩ := rm_rows d p
  refine ⟨INV_rm i0 3, g.cong r3 r4 r5 r6, ?_, ?_, f0.cong r0 r1 r2⟩
  · intro q hq
    by_cases hqp : q = p
    · subst hqp
      exact ⟨fun _ => 0, fun j hj => Or.inl ⟨rfl, by rw [r7]; exact u3_in hj⟩, by rw [pk_uLs]; rfl⟩
    · obtain ⟨s, hs, es⟩ := b q hq
      refine ⟨s, fun j hj => ?_, by rw [pk_uLn hqp]; exact es⟩
      rw [r7, r8, u3_out hj hqp, u3_out hj hqp]
      exact hs j hj
  · intro q hq
    by_cases hqp : q = p
    · subst hqp
      exact ⟨fun _ => 0, fun j hj => ⟨(by decide : (0 : Nat) < 512), fun _ => rfl, fun z => absurd (by rw [r7]; exact u3_in hj) z⟩, by rw [pk_us]; rfl⟩
    · obtain ⟨s, hs, es⟩ := e q hq
      refine ⟨s, fun j hj => ?_, by rw [upd_ne hqp]; exact es⟩
      rw [r7, r9, u3_out hj hqp, u3_out hj hqp]
      exact hs j hj
/-- no burial lies where one may be made -/
theorem ref_free {rc : Nat → Bool} {fv : Int32} {y : Int32} {dep : Nat} (h1 : 1 ≤ dep) (h3 : dep ≤ 3) (hr : q_ref d y rc fv p dep = 0) : d 7 (p * 3 + (dep - 1)) = -1 := by
  have hfr : dep ≤ q_free d p := by
    apply Classical.byContradiction
    intro hn
    unfold q_ref at hr
    by_cases a1 : d 3 p = nI 3
    · rw [if_pos a1] at hr; exact absurd hr (by decide)
    · rw [if_neg a1] at hr
      by_cases a2 : q_oth (q_hold d y p) fv
      · rw [if_pos a2] at hr; exact absurd hr (by decide)
      · rw [if_neg a2] at hr
        by_cases a3 : q_gd d p < dep
        · rw [if_pos a3] at hr; exact absurd hr (by decide)
        · rw [if_neg a3, if_pos (by omega)] at hr; exact absurd hr (by decide)
  unfold q_free at hfr
  by_cases b0 : d 7 (p * 3 + 0) = -1
  · rw [if_neg (fun z => z b0)] at hfr
    by_cases b1 : d 7 (p * 3 + 1) = -1
    · rw [if_neg (fun z => z b1)] at hfr
      by_cases b2 : d 7 (p * 3 + 2) = -1
      · rcases (show dep = 1 ∨ dep = 2 ∨ dep = 3 by omega) with rfl | rfl | rfl
        · exact b0
        · exact b1
        · exact b2
      · rw [if_pos b2] at hfr
        rcases (show dep = 1 ∨ dep = 2 by omega) with rfl | rfl
        · exact b0
        · exact b1
    · rw [if_pos b1] at hfr
      rcases (show dep = 1 by omega) with rfl
      exact b0
  · rw [if_pos b0] at hfr; omega
theorem up_bury {dep z : Nat} (h : PKI d yn x1 x2 x3 x4) (hyn : yn ≤ 2000) (hf : f < 10) (hp : p < 40) (h1 : 1 ≤ dep) (h3 : dep ≤ 3) (hz : z ≤ 160) (ez : q_fee d (nI yn) f p dep = nI z) (hk3 : d 3 p ≠ nI 3) (h7 : d 7 (p * 3 + (dep - 1)) = -1) :
    PKI (q_addB d (nI yn) f p dep) yn x1 (vp_updL x2 p (x2 p ||| (((32768 + (nI (16 * yn)).toInt64) + (nI f).toInt64) <<< ((nI (16 * dep - 16)).toInt64 &&& 63)))) (upd x3 p (x3 p ||| (nI z <<< (nI (9 * dep - 9) &&& 31))))
      (upd (upd x4 (10 + f) (x4 (10 + f) + nI z)) (20 + f) (upd x4 (10 + f) (x4 (10 + f) + nI z) (20 + f) + nI 1)) := by
  obtain ⟨i0, g, b, e, f0⟩ := h
  obtain ⟨r0, r1, r2, r3, r4, r5, r6, r7, r8, r9⟩ := addB_rows d (nI yn) f p dep
  refine ⟨INV_addB i0 (nI_le (Nat.zero_le _) (by omega)) hf hp h1 h3 hk3, g.cong r3 r4 r5 r6, ?_, ?_, ?_⟩
  · intro q hq
    rw [r7, r8]
    by_cases hqp : q = p
    · subst hqp
      obtain ⟨s, hs, es⟩ := b q hq
      have l0 := sl_lt hs 0 (by omega)
      have l1 := sl_lt hs 1 (by omega)
      have l2 := sl_lt hs 2 (by omega)
      obtain ⟨sn, esn⟩ : ∃ sn, sn = 32768 + 16 * yn + f := ⟨_, rfl⟩
      have ex : ((32768 + (nI (16 * yn)).toInt64) + (nI f).toInt64) <<< ((nI (16 * dep - 16)).toInt64 &&& 63) = lN (sn * 2 ^ (16 * dep - 16)) := by
        rw [nI_l (by omega), nI_l (by omega), show (32768 : Int64) = lN 32768 from rfl, lN_add, lN_add, ← esn, pl_shl (by omega)]
      have hsd : s (dep - 1) = 0 := by
        rcases hs (dep - 1) (by omega) with ⟨a, -⟩ | ⟨w, c, -, hc, -, a, -⟩
        · exact a
        · exact absurd (a.symm.trans h7) (nI_ne1 (by omega))
      refine ⟨fun j => if j = dep - 1 then sn else s j, fun j hj => ?_, ?_⟩
      · by_cases hjd : j = dep - 1
        · subst hjd
          rw [pk_us, pk_us]
          exact Or.inr ⟨yn, f, hyn, hf, by show (if dep - 1 = dep - 1 then sn else s (dep - 1)) = _; rw [if_pos rfl, esn], rfl, rfl⟩
        · rw [upd_ne (by omega), upd_ne (by omega)]
          show ((if j = dep - 1 then sn else s j) = 0 ∧ _) ∨ (∃ w f : Nat, _ ∧ _ ∧ (if j = dep - 1 then sn else s j) = _ ∧ _ ∧ _)
          rw [if_neg hjd]
          exact hs j hj
      · rw [pk_uLs, ex, es]
        show _ = lN ((if 0 = dep - 1 then sn else s 0) + 65536 * (if 1 = dep - 1 then sn else s 1) + 4294967296 * (if 2 = dep - 1 then sn else s 2))
        rcases (show dep = 1 ∨ dep = 2 ∨ dep = 3 by omega) with rfl | rfl | rfl
        · have hsd : s 0 = 0 := hsd
          rw [if_pos rfl, if_neg (by decide), if_neg (by decide), show 16 * 1 - 16 = 0 from rfl, show s 0 + 65536 * s 1 + 4294967296 * s 2 = 0 + (s 1 + 65536 * s 2) * 2 ^ 16 by omega, wb_or (by omega) (by omega), orM (by omega) (by omega)]
          congr 1
          omega
        · have hsd : s 1 = 0 := hsd
          rw [if_neg (by decide), if_pos rfl, if_neg (by decide), show 16 * 2 - 16 = 16 from rfl, show s 0 + 65536 * s 1 + 4294967296 * s 2 = s 0 + s 2 * 2 ^ 32 by omega, wb_or (by omega) (by omega), orM (by omega) (by omega)]
          congr 1
          omega
        · have hsd : s 2 = 0 := hsd
          rw [if_neg (by decide), if_neg (by decide), if_pos rfl, show 16 * 3 - 16 = 32 from rfl, show s 0 + 65536 * s 1 + 4294967296 * s 2 = (s 0 + 65536 * s 1) + 0 * 2 ^ 48 by omega, wb_or (by omega) (by omega), orM (by omega) (by omega)]
          congr 1
          omega
    · obtain ⟨s, hs, es⟩ := b q hq
      refine ⟨s, fun j hj => ?_, by rw [pk_uLn hqp]; exact es⟩
      rw [upd_ne (by omega), upd_ne (by omega)]
      exact hs j hj
  · intro q hq
    rw [r7, r9]
    by_cases hqp : q = p
    · subst hqp
      obtain ⟨s, hs, es⟩ := e q hq
      have l0 := (hs 0 (by omega)).1
      have l1 := (hs 1 (by omega)).1
      have l2 := (hs 2 (by omega)).1
      have hsd : s (dep - 1) = 0 := (hs (dep - 1) (by omega)).2.1 h7
      refine ⟨fun j => if j = dep - 1 then z else s j, fun j hj => ?_, ?_⟩
      · by_cases hjd : j = dep - 1
        · subst hjd
          rw [pk_us, pk_us]
          show (if dep - 1 = dep - 1 then z else s (dep - 1)) < 512 ∧ (_ → (if dep - 1 = dep - 1 then z else s (dep - 1)) = 0) ∧ (_ → _ = nI (if dep - 1 = dep - 1 then z else s (dep - 1)))
          rw [if_pos rfl]
          exact ⟨by omega, fun q => absurd q (nI_ne1 (by omega)), fun _ => ez⟩
        · rw [upd_ne (by omega), upd_ne (by omega)]
          show (if j = dep - 1 then z else s j) < 512 ∧ (_ → (if j = dep - 1 then z else s j) = 0) ∧ (_ → _ = nI (if j = dep - 1 then z else s j))
          rw [if_neg hjd]
          exact hs j hj
      · rw [pk_us, es]
        show _ = nI ((if 0 = dep - 1 then z else s 0) + 512 * (if 1 = dep - 1 then z else s 1) + 262144 * (if 2 = dep - 1 then z else s 2))
        rcases (show dep = 1 ∨ dep = 2 ∨ dep = 3 by omega) with rfl | rfl | rfl
        · have hsd : s 0 = 0 := hsd
          rw [if_pos rfl, if_neg (by decide), if_neg (by decide), show 9 * 1 - 9 = 0 from rfl, pb_shl (by decide), show s 0 + 512 * s 1 + 262144 * s 2 = 0 + (s 1 + 512 * s 2) * 2 ^ 9 by omega, pb_or (by omega) (by omega), orM (by omega) (by omega)]
          congr 1
          omega
        · have hsd : s 1 = 0 := hsd
          rw [if_neg (by decide), if_pos rfl, if_neg (by decide), show 9 * 2 - 9 = 9 from rfl, pb_shl (by decide), show s 0 + 512 * s 1 + 262144 * s 2 = s 0 + s 2 * 2 ^ 18 by omega, pb_or (by omega) (by omega), orM (by omega) (by omega)]
          congr 1
          omega
        · have hsd : s 2 = 0 := hsd
          rw [if_neg (by decide), if_neg (by decide), if_pos rfl, show 9 * 3 - 9 = 18 from rfl, pb_shl (by decide), show s 0 + 512 * s 1 + 262144 * s 2 = (s 0 + 512 * s 1) + 0 * 2 ^ 27 by omega, pb_or (by omega) (by omega), orM (by omega) (by omega)]
          congr 1
          omega
    · obtain ⟨s, hs, es⟩ := e q hq
      refine ⟨s, fun j hj => ?_, by rw [upd_ne hqp]; exact es⟩
      rw [upd_ne (by omega), upd_ne (by omega)]
      exact hs j hj
  · refine ⟨?_, fun k hk => ?_⟩
    · rw [upd_ne (by omega), upd_ne (by omega)]; exact f0.1
    · obtain ⟨a0, a1, a2, a3⟩ := f0.2 k hk
      rw [r0, r1, r2, upd_ne (j := k) (by omega), upd_ne (j := k) (by omega), upd_ne (j := 10 + k) (k := 20 + f) (by omega), upd_ne (j := 20 + f) (k := 10 + f) (by omega)]
      refine ⟨a0, ?_, ?_, a3⟩
      · by_cases hkf : k = f
        · subst hkf
          rw [pk_us, pk_us, a1, ez]
        · rw [upd_ne hkf, upd_ne (by omega)]; exact a1
      · by_cases hkf : k = f
        · subst hkf
          rw [pk_us, pk_us, a2]
        · rw [upd_ne hkf, upd_ne (by omega), upd_ne (by omega)]; exact a2
end UP
