section AH
variable {d : RW} {yn f p dep : Nat} {rc : Nat → Bool}
theorem yf_k {k : Nat} : k ≤ 101 → (∀ i, i < k → ¬ q_ref d (nI (yn + i)) rc (nI f) p dep = 0) → q_yf d rc (nI f) p dep yn 101 = q_yf d rc (nI f) p dep yn (101 - k) := by
  induction k with
  | zero => intro _ _; rfl
  | succ k ih =>
    intro hk hn
    rw [ih (by omega) (fun i hi => hn i (by omega)), q_yf_s (by omega), if_neg (hn k (by omega))]
theorem yf_none (hn : ∀ i, i < 101 → ¬ q_ref d (nI (yn + i)) rc (nI f) p dep = 0) : q_yf d rc (nI f) p dep yn 101 = -1 := by
  rw [yf_k (k := 101) (by omega) hn]; rfl
theorem yf_some {k : Nat} (hk : k ≤ 100) (hn : ∀ i, i < k → ¬ q_ref d (nI (yn + i)) rc (nI f) p dep = 0) (h : q_ref d (nI (yn + k)) rc (nI f) p dep = 0) : q_yf d rc (nI f) p dep yn 101 = nI (yn + k) := by
  rw [yf_k (by omega) hn, q_yf_s hk, if_pos h]
def OWN (d : RW) (q : Nat) (z : Int32) : Int32 := if z = -1 then nI 0 else nI 4 * z + nI (q_bur d q)
def LST (d : RW) (b : Option Nat × Int32) : Int32 := match b.1 with
  | none => nI 0
  | some m => nI 4 * b.2 + nI (q_bur d m)
theorem ow_rng {y : Int32} {q : Nat} : ∀ n, n ≤ 3 → q_ow d y rc f q n = -1 ∨ ∃ z : Nat, 25 ≤ z ∧ z ≤ 160 ∧ q_ow d y rc f q n = nI z := by
  intro n
  induction n with
  | zero => intro _; exact Or.inl rfl
  | succ n ih =>
    intro hn
    show (if q_ref d y rc (nI f) q (3 - n) = 0 then q_fee d y f q (3 - n) else q_ow d y rc f q n) = -1 ∨ _
    by_cases h : q_ref d y rc (nI f) q (3 - n) = 0
    · obtain ⟨z, z1, z2, e⟩ := q_fee_rng (d := d) (y := y) (f := f) (p := q) (dep := 3 - n) (by omega) (by omega)
      exact Or.inr ⟨z, z1, z2, (if_pos h).trans e⟩
    · rcases ih (by omega) with e | ⟨z, z1, z2, e⟩
      · exact Or.inl ((if_neg h).trans e)
      · exact Or.inr ⟨z, z1, z2, (if_neg h).trans e⟩
theorem own_z {y : Int32} {q : Nat} (h : q_ow d y rc f q 3 = -1) : OWN d q (q_ow d y rc f q 3) = 0 := by rw [h]; rfl
theorem own_n {y : Int32} {q : Nat} (h : q_ow d y rc f q 3 ≠ -1) : ∃ z : Nat, 25 ≤ z ∧ z ≤ 160 ∧ q_ow d y rc f q 3 = nI z ∧ OWN d q (q_ow d y rc f q 3) = nI (4 * z + q_bur d q) := by
  rcases ow_rng (d := d) (rc := rc) (f := f) (y := y) (q := q) 3 (Nat.le_refl _) with e | ⟨z, z1, z2, e⟩
  · exact absurd e h
  · exact ⟨z, z1, z2, e, by unfold OWN; rw [if_neg h, e, pk_mul, nI_add]⟩
theorem own_0 {y : Int32} {q : Nat} : OWN d q (q_ow d y rc f q 3) = 0 ↔ q_ow d y rc f q 3 = -1 := by
  constructor
  · intro h
    apply Classical.byContradiction
    intro hn
    obtain ⟨z, z1, z2, -, e⟩ := own_n hn
    have hb : q_bur d q ≤ 3 := q_cn_le _ 3
    rw [e, ← nI_0] at h
    have := (nI_eq (by omega) (by decide)).mp h
    omega
  · exact own_z
theorem bm_rng {y : Int32} : ∀ n, (q_bestM d y rc f n).1 = none ∨ ∃ m z : Nat, m < n ∧ 25 ≤ z ∧ z ≤ 160 ∧ (q_bestM d y rc f n) = (some m, nI z) := by
  intro n
  induction n with
  | zero => exact Or.inl rfl
  | succ n ih =>
    by_cases h : q_ow d y rc f n 3 ≠ -1 ∧ q_btr d (q_bestM d y rc f n).1 (q_bestM d y rc f n).2 (q_ow d y rc f n 3) n
    · obtain ⟨z, z1, z2, e, -⟩ := own_n h.1
      exact Or.inr ⟨n, z, by omega, z1, z2, (if_pos h).trans (by rw [e])⟩
    · have e : q_bestM d y rc f (n + 1) = q_bestM d y rc f n := if_neg h
      rw [e]
      rcases ih with e | ⟨m, z, h1, h2, h3, h4⟩
      · exact Or.inl e
      · exact Or.inr ⟨m, z, by omega, h2, h3, h4⟩
theorem bm_none {y : Int32} {n : Nat} (hn : n ≤ 40) : oN (q_bestM d y rc f n).1 < 0 ↔ (q_bestM d y rc f n).1 = none := by
  rcases bm_rng (d := d) (rc := rc) (f := f) (y := y) n with e | ⟨m, z, h1, h2, h3, e⟩
  · rw [e]; exact ⟨fun _ => rfl, fun _ => by decide⟩
  · rw [e]
    exact ⟨fun h => absurd h (nI_pos (by omega)), fun h => by cases h⟩
theorem bm_A {y : Int32} {n : Nat} (h : q_ow d y rc f n 3 = -1) : q_bestM d y rc f (n + 1) = q_bestM d y rc f n := if_neg (fun z => z.1 h)
theorem bm_B {y : Int32} {n : Nat} (h : q_ow d y rc f n 3 ≠ -1) (h0 : (q_bestM d y rc f n).1 = none) : q_bestM d y rc f (n + 1) = (some n, q_ow d y rc f n 3) := if_pos ⟨h, Or.inl h0⟩
theorem bm_cmp {y : Int32} {n : Nat} (h : q_ow d y rc f n 3 ≠ -1) (h0 : (q_bestM d y rc f n).1 ≠ none) : q_btr d (q_bestM d y rc f n).1 (q_bestM d y rc f n).2 (q_ow d y rc f n 3) n ↔ OWN d n (q_ow d y rc f n 3) < LST d (q_bestM d y rc f n) := by
  obtain ⟨z, z1, z2, e, eo⟩ := own_n h
  rcases bm_rng (d := d) (rc := rc) (f := f) (y := y) n with e0 | ⟨m, z0, h1, h2, h3, e0⟩
  · exact absurd e0 h0
  · have b1 : q_bur d n ≤ 3 := q_cn_le _ 3
    have b2 : q_bur d m ≤ 3 := q_cn_le _ 3
    rw [eo, e, e0]
    show (some m = none ∨ nI z < nI z0 ∨ (nI z = nI z0 ∧ q_bur d n < q_bur d m)) ↔ nI (4 * z + q_bur d n) < nI 4 * nI z0 + nI (q_bur d m)
    rw [pk_mul, nI_add, nI_ltI (by omega) (by omega), nI_ltI (by omega) (by omega), nI_eq (by omega) (by omega)]
    constructor
    · rintro (h | h | h)
      · cases h
      · omega
      · omega
    · intro h
      by_cases hz : z < z0
      · exact Or.inr (Or.inl hz)
      · exact Or.inr (Or.inr ⟨by omega, by omega⟩)
theorem bm_C {y : Int32} {n : Nat} (h : q_ow d y rc f n 3 ≠ -1) (h0 : (q_bestM d y rc f n).1 ≠ none) (hl : OWN d n (q_ow d y rc f n 3) < LST d (q_bestM d y rc f n)) : q_bestM d y rc f (n + 1) = (some n, q_ow d y rc f n 3) := if_pos ⟨h, (bm_cmp h h0).mpr hl⟩
theorem bm_D {y : Int32} {n : Nat} (h : q_ow d y rc f n 3 ≠ -1) (h0 : (q_bestM d y rc f n).1 ≠ none) (hl : ¬ OWN d n (q_ow d y rc f n 3) < LST d (q_bestM d y rc f n)) : q_bestM d y rc f (n + 1) = q_bestM d y rc f n := if_neg (fun z => hl ((bm_cmp h h0).mp z.2))
theorem ow_3 {y : Int32} {q i : Nat} (hi : i < 3) : q_ow d y rc f q (3 - i) = if q_ref d y rc (nI f) q (i + 1) = 0 then q_fee d y f q (i + 1) else q_ow d y rc f q (3 - (i + 1)) := by
  rcases (show i = 0 ∨ i = 1 ∨ i = 2 by omega) with rfl | rfl | rfl <;> rfl
theorem own_lst {q : Nat} {z : Int32} (h : z ≠ -1) : OWN d q z = LST d (some q, z) := if_neg h
theorem cut_S {m : Nat} (hm : m < 40) : nI (q_cu d (q_rc d) m) - nI (q_cu d (q_rcb d (nI m)) m) = nI (q_cn (fun q => q ≠ m ∧ d 3 q ≠ nI 3 ∧ q_rc d q = true ∧ ¬ q_rcb d (nI m) q = true) 40) := by
  have h : q_cu d (q_rc d) m = q_cu d (q_rcb d (nI m)) m + q_cn (fun q => q ≠ m ∧ d 3 q ≠ nI 3 ∧ q_rc d q = true ∧ ¬ q_rcb d (nI m) q = true) 40 := by
    refine q_cn_diff 40 (fun k hk => ⟨fun z => ⟨z.1, z.2.1, q_rcb_rc hk z.2.2⟩, ?_⟩)
    constructor
    · rintro ⟨a, b, c, e⟩; exact ⟨⟨a, b, c⟩, fun z => e z.2.2⟩
    · rintro ⟨⟨a, b, c⟩, e⟩; exact ⟨a, b, c, fun z => e ⟨a, b, z⟩⟩
  rw [h, pk_sub (Nat.le_add_right _ _), Nat.add_sub_cancel_left]
end AH

set_option maxHeartbeats 4000000 in
set_option maxRecDepth 100000 in
theorem c_L_ahead {l : Launch} {dC : Nat → ClassId} {dI : Nat → Nat → Nat} {cI cL cJ : ClassId} {g1 g2 : Nat} {A : Nat → Prop} {t : Nat → Nat} {x1 x3 x4 : Nat → Int32} {x2 : Nat → Int64} {d : RW} {yn : Nat} (hk : PKI d yn x1 x2 x3 x4) (hyn : yn ≤ 1900) {o sa ba a e : Nat} {tt : Nat → Nat} {n len : Nat} {tx : Nat → Int32} {ps : PS} {sv : Nat → LO} (hls : l.stackTraces = false) {ax ay : Int32} : Met l yL_ahead (.code yL_ahead method_23_code 15 (some .boolean) :: WG) (rmC 9 50 368) (va_Pc [.ref o, .int ax, .int ay, .ref (t 0), .ref (t 1), .ref (t 3)] (TLN dC dI cI cL cJ g1 g2 A (PW cI cJ t x1 x2 x3 x4 ++ BW cI cL o sa ba a e tt n len (svg sv) tx (nI yn) d (q_rw d 0) ps sv))) (bq_M (some (.int (bI True))) (fun H => ∃ w9 : va_W, va_P (dC, dI) vwCl (PW cI cJ t x1 x2 x3 x4 ++ BW cI cL o sa ba a e tt n len (svg sv) tx (nI yn) d (q_rw d 0) ps sv ++ w9) H) A) 50 368 (A) := by
  refine bq_of [some (.ref o), some (.int ax), some (.int ay), some (.ref (t 0)), some (.ref (t 1)), some (.ref (t 3)), none, none, none, none, none, none, none, none, none] rfl rfl (Nat.le_of_ble_eq_true rfl) (by decide) ?_
  intro P_ E_ s M_ B_ T_ K_ C hv
  obtain ⟨⟨hP, hD, hK, hZ, hX⟩, hAA⟩ := hv
  have hS : va_S A s.heap s.heap [] := va_S.rf
  have hki := hk.1
  have hkg := hk.2.1
  have hkb := hk.2.2.1
  have hke := hk.2.2.2.1
  have hkf := hk.2.2.2.2
  refine g_bipush C (nI 40) (by decide) dL_ahead_0 ?_
  refine g_newa C hK hP hD hS hAA (by decide) (by decide) (by show _ ≤ 50; omega) (by show _ ≤ 368; omega) dL_ahead_2 (fun w H hP hD hS => ?_)
  have hP := P_perm tn_perm hP
  have hD := D_perm tn_perm hD
  refine g_astore6 C rfl dL_ahead_4 ?_
  refine g_iconst C (-1) (by decide) dL_ahead_6 ?_
  refine g_aload3 C dL_ahead_7 ?_
  refine g_aload4 C dL_ahead_8 ?_
  refine g_aload6 C dL_ahead_10 ?_
  refine g_mS C 4 rfl (c_L_spread hk (b := -1)) wl_L_70 wt_L_spread wn_L wc_L_spread (by decide +kernel) ⟨rfl, rfl, by decide, by decide⟩ SPM_bl (SPM_at hK (tw_w hP) (tw_dw hD).1) rfl rfl (by simp [Value.category]) ⟨by show _ ≤ 50; omega, by show _ ≤ 368; omega⟩ hS (fun q _ hq => (tw_dw hD).2 q hq) (fun q hq => (tw_dw hD).2 q hq) dL_ahead_12 (fun H locs hV _ hk9 hS => ?_)
  obtain ⟨v, hV, hvr⟩ := hV
  obtain ⟨hP, hD⟩ := tw_jn hP hD hV hk9
  have hwr : ∀ q, q < 40 → q_wr v q = q_rc d q := fun q hq => q_wr_rc hvr hq
  refine g_iload1 C dL_ahead_15 ?_
  refine g_bipush C (nI 10) (by decide) dL_ahead_16 ?_
  refine g_pkS C 2 rfl (c_L_at (by first | decide | (split <;> omega)) (by first | decide | (split <;> omega))) wl_L_74 wt_L_at wn_L wc_L_at (by decide +kernel) ⟨rfl, rfl, by decide, by decide⟩ TR_bl (fun _ _ _ => trivial) rfl rfl (by simp [Value.category]) ⟨by show _ ≤ 50; omega, by show _ ≤ 368; omega⟩ dL_ahead_18 ?_
  obtain ⟨f, hf, ef⟩ : ∃ f, f < 10 ∧ ux ax % 10 = f := ⟨_, Nat.mod_lt _ (by decide), rfl⟩
  rw [ef]
  refine g_istore7 C rfl dL_ahead_21 ?_
  refine g_iload2 C dL_ahead_23 ?_
  refine g_iload1 C dL_ahead_24 ?_
  refine g_iconst C (nI 4) (by decide) dL_ahead_25 ?_
  refine g_ishr C dL_ahead_26 ?_
  refine g_iconst C (nI 2) (by decide) dL_ahead_27 ?_
  refine g_pkS C 2 rfl (c_L_at (by first | decide | (split <;> omega)) (by first | decide | (split <;> omega))) wl_L_74 wt_L_at wn_L wc_L_at (by decide +kernel) ⟨rfl, rfl, by decide, by decide⟩ TR_bl (fun _ _ _ => trivial) rfl rfl (by simp [Value.category]) ⟨by show _ ≤ 50; omega, by show _ ≤ 368; omega⟩ dL_ahead_28 ?_
  obtain ⟨z9, hz9, ez9⟩ : ∃ z9, z9 < 2 ∧ ux (ax >>> (nI 4 &&& 31)) % 2 = z9 := ⟨_, Nat.mod_lt _ (by decide), rfl⟩
  rw [ez9]
  refine g_d1 (v := nI (if z9 = 0 then 40 else 12)) 41 (fun K31 => ?_) ?_
  · skip
    refine g_if_neN C (by omega) 39 dL_ahead_31 (by decide) (fun h31 => ?_) (fun h31 => ?_)
    · refine g_bipush C (nI 12) (by decide) dL_ahead_39 ?_
      exact K31 _ (by rw [if_neg h31])
    · refine g_bipush C (nI 40) (by decide) dL_ahead_34 ?_
      refine g_goto C 41 dL_ahead_36 (by decide) ?_
      exact K31 _ (by rw [if_pos h31])
  refine g_pkS C 2 rfl (c_L_at (by first | decide | (split <;> omega)) (by first | decide | (split <;> omega))) wl_L_74 wt_L_at wn_L wc_L_at (by decide +kernel) ⟨rfl, rfl, by decide, by decide⟩ TR_bl (fun _ _ _ => trivial) rfl rfl (by simp [Value.category]) ⟨by show _ ≤ 50; omega, by show _ ≤ 368; omega⟩ dL_ahead_41 ?_
  obtain ⟨p, hp, ep⟩ : ∃ p, p < 40 ∧ ux ay % (if z9 = 0 then 40 else 12) = p := ⟨_, by split <;> omega, rfl⟩
  rw [ep]
  refine g_istore8 C rfl dL_ahead_44 ?_
  refine g_iconst C (-1) (by decide) dL_ahead_46 ?_
  refine g_istore9 C rfl dL_ahead_47 ?_
  refine g_iconst C (nI 1) (by decide) dL_ahead_49 ?_
  refine g_istore10 C rfl dL_ahead_50 ?_
  refine g_lpC (A2 := Nat) (fun j H locs => j ≤ 3 ∧ va_P (dC, dI) vwCl (PW cI cJ t x1 x2 x3 x4 ++ (WY cI w v :: BW cI cL o sa ba a e tt n len (svg sv) tx (nI yn) d (q_rw d 0) ps sv)) H ∧ va_S A s.heap H locs) (fun j => 3 - j) (fun j => 1 + 12 * j) (fun j => 40 + 72 * j) (fun j => [some (.ref o), some (.int ax), some (.int ay), some (.ref (t 0)), some (.ref (t 1)), some (.ref (t 3)), some (.ref w), some (.int (nI f)), some (.int (nI p)), some (.int (q_dpM d (nI yn) (q_rc d) (nI f) p j)), some (.int (nI (j + 1))), none, none, none, none]) 0 ⟨by omega, hP, hS⟩ rfl rfl rfl ?_
  clear hP hS
  rintro j H locs ⟨hj, hP, hS⟩ ih
  try dsimp only at hP hS ih ⊢
  refine g_iload10 C dL_ahead_52 ?_
  refine g_iconst C (nI 4) (by decide) dL_ahead_54 ?_
  refine g_icmp_geN C (by omega) (by omega) 220 dL_ahead_55 (by decide) (fun h55 => ?_) (fun h55 => ?_)
  · refine g_iconst C (-1) (by decide) dL_ahead_220 ?_
    refine g_istore10 C rfl dL_ahead_221 ?_
    refine g_iconst C (nI 0) (by decide) dL_ahead_223 ?_
    refine g_istore11 C rfl dL_ahead_224 ?_
    refine g_iconst C (nI 0) (by decide) dL_ahead_226 ?_
    refine g_istore12 C rfl dL_ahead_227 ?_
    have e3 : j = 3 := by omega
    subst e3
    clear ih
    refine g_lp1 (fun (u : Nat × Int32 × Int32) => u.1 ≤ 40 ∧ u.2.1 = oN (q_bestM d (nI yn) (q_rc d) f u.1).1 ∧ u.2.2 = LST d (q_bestM d (nI yn) (q_rc d) f u.1)) (fun u => 40 - u.1) (fun u => [some (.ref o), some (.int ax), some (.int ay), some (.ref (t 0)), some (.ref (t 1)), some (.ref (t 3)), some (.ref w), some (.int (nI f)), some (.int (nI p)), some (.int (q_dpM d (nI yn) (q_rc d) (nI f) p 3)), some (.int u.2.1), some (.int u.2.2), some (.int (nI u.1)), none, none]) (0, -1, nI 0) ⟨by omega, rfl, rfl⟩ rfl ?_
    rintro ⟨q, bst, lst⟩ ⟨hq40, hbest, hleast⟩ ih
    try dsimp only at hq40 hbest hleast ih ⊢
    refine g_iload12 C dL_ahead_229 ?_
    refine g_bipush C (nI 40) (by decide) dL_ahead_231 ?_
    refine g_icmp_geN C (by omega) (by omega) 338 dL_ahead_233 (by decide) (fun h233 => ?_) (fun h233 => ?_)
    · refine g_bipush C (nI 40) (by decide) dL_ahead_338 ?_
      refine g_newa C hK hP hD hS hAA (by decide) (by decide) (by show _ ≤ 50; omega) (by show _ ≤ 368; omega) dL_ahead_340 (fun w2 H hP hD hS => ?_)
      have hP := P_perm tn_perm hP
      have hD := D_perm tn_perm hD
      refine g_astore12 C rfl dL_ahead_342 ?_
      refine g_iload8 C dL_ahead_344 ?_
      refine g_aload3 C dL_ahead_346 ?_
      refine g_aload4 C dL_ahead_347 ?_
      refine g_aload12 C dL_ahead_349 ?_
      refine g_mS C 4 rfl (c_L_spread hk (b := nI p)) wl_L_70 wt_L_spread wn_L wc_L_spread (by decide +kernel) ⟨rfl, rfl, by decide, by decide⟩ SPM_bl (SPM_at hK (tw_w hP) (tw_dw hD).1) rfl rfl (by simp [Value.category]) ⟨by show _ ≤ 50; omega, by show _ ≤ 368; omega⟩ hS (fun q _ hq => (tw_dw hD).2 q hq) (fun q hq => (tw_dw hD).2 q hq) dL_ahead_351 (fun H locs hV _ hk9 hS => ?_)
      obtain ⟨v2, hV, hvr2⟩ := hV
      obtain ⟨hP, hD⟩ := tw_jn hP hD hV hk9
      have hwb : ∀ q, q < 40 → q_wr v2 q = q_rcb d (nI p) q := fun q hq => q_wr_rcb hvr2 hq
      refine g_iconst C (nI 0) (by decide) dL_ahead_354 ?_
      refine g_istore13 C rfl dL_ahead_355 ?_
      refine g_iconst C (nI 0) (by decide) dL_ahead_357 ?_
      refine g_istore14 C rfl dL_ahead_358 ?_
      have e40 : q = 40 := by omega
      subst e40
      clear ih
      refine g_lp1 (fun (u : Nat × Nat) => u.1 ≤ 40 ∧ u.2 = q_cn (fun q => q ≠ p ∧ d 3 q ≠ nI 3 ∧ q_rc d q = true ∧ ¬ q_rcb d (nI p) q = true) u.1) (fun u => 40 - u.1) (fun u => [some (.ref o), some (.int ax), some (.int ay), some (.ref (t 0)), some (.ref (t 1)), some (.ref (t 3)), some (.ref w), some (.int (nI f)), some (.int (nI p)), some (.int (q_dpM d (nI yn) (q_rc d) (nI f) p 3)), some (.int bst), some (.int lst), some (.ref w2), some (.int (nI u.2)), some (.int (nI u.1))]) (0, 0) ⟨by omega, rfl⟩ rfl ?_
      rintro ⟨q, cut⟩ ⟨hq, hcut⟩ ih
      try dsimp only at hq hcut ih ⊢
      refine g_iload14 C dL_ahead_360 ?_
      refine g_bipush C (nI 40) (by decide) dL_ahead_362 ?_
      refine g_icmp_geN C (by omega) (by omega) 420 dL_ahead_364 (by decide) (fun h364 => ?_) (fun h364 => ?_)
      · refine g_aload0 C dL_ahead_420 ?_
        refine g_iload7 C dL_ahead_421 ?_
        refine g_iload8 C dL_ahead_423 ?_
        refine g_xR C 2 rfl (n_deepest hls hki (by omega) (by omega)) wl_L_110 wi_X2_deepest wv_X2_deepest wc_X2_deepest (by decide +kernel) ⟨by decide, by decide⟩ BDM_bl (va_recv (ci := 2) (q0 := 0) hK (P_r (u := [WY cI w v]) (tw_b hP)) rfl rfl) (BDM_at hK (P_r (u := [WY cI w v]) (tw_b hP)) (DA_r (u := [WY cI w v]) (tw_db hD)) hZ hX hS (fun _ h => h)) rfl rfl (by simp [Value.category]) ⟨by show _ ≤ 50; omega, by show _ ≤ 368; omega⟩ hS dL_ahead_425 (fun H locs hk9 hS => ?_)
        have hP := P_kept hP hk9
        refine g_iload9 C dL_ahead_428 ?_
        refine g_icmp_ne C 459 dL_ahead_430 (by decide) (fun h430 => ?_) (fun h430 => ?_)
        · exact absurd rfl h430
        · refine g_aload0 C dL_ahead_433 ?_
          refine g_iload7 C dL_ahead_434 ?_
          refine g_xR C 1 rfl (n_bestPlot hls hki (by omega)) wl_L_113 wi_X2_bestPlot wv_X2_bestPlot wc_X2_bestPlot (by decide +kernel) ⟨by decide, by decide⟩ BDM_bl (va_recv (ci := 2) (q0 := 0) hK (P_r (u := [WY cI w v]) (tw_b hP)) rfl rfl) (BDM_at hK (P_r (u := [WY cI w v]) (tw_b hP)) (DA_r (u := [WY cI w v]) (tw_db hD)) hZ hX hS (fun _ h => h)) rfl rfl (by simp [Value.category]) ⟨by show _ ≤ 50; omega, by show _ ≤ 368; omega⟩ hS dL_ahead_436 (fun H locs hk9 hS => ?_)
          have hP := P_kept hP hk9
          refine g_iload10 C dL_ahead_439 ?_
          refine g_icmp_ne C 459 dL_ahead_441 (by decide) (fun h441 => ?_) (fun h441 => ?_)
          · exact (h441 hbest.symm).elim
          · refine g_aload0 C dL_ahead_444 ?_
            refine g_iload8 C dL_ahead_445 ?_
            refine g_xR C 1 rfl (n_cutsOff hls hki (by omega)) wl_L_116 wi_X2_cutsOff wv_X2_cutsOff wc_X2_cutsOff (by decide +kernel) ⟨by decide, by decide⟩ BDM_bl (va_recv (ci := 2) (q0 := 0) hK (P_r (u := [WY cI w v]) (tw_b hP)) rfl rfl) (BDM_at hK (P_r (u := [WY cI w v]) (tw_b hP)) (DA_r (u := [WY cI w v]) (tw_db hD)) hZ hX hS (fun _ h => h)) rfl rfl (by simp [Value.category]) ⟨by show _ ≤ 50; omega, by show _ ≤ 368; omega⟩ hS dL_ahead_447 (fun H locs hk9 hS => ?_)
            have hP := P_kept hP hk9
            refine g_iload13 C dL_ahead_450 ?_
            refine g_icmp_ne C 459 dL_ahead_452 (by decide) (fun h452 => ?_) (fun h452 => ?_)
            · exact (h452 (by rw [cut_S hp, hcut, show q = 40 by omega])).elim
            · refine g_iconst C (nI 1) (by decide) dL_ahead_455 ?_
              refine g_goto C 460 dL_ahead_456 (by decide) ?_
              refine g_wd (k := 50) (n := 368) (by omega) (by omega) ?_
              exact g_zretM C ⟨[WY cI w v], P_perm tn_perm.symm (P_l (P_perm tn_perm.symm hP))⟩ hS (bI_t trivial) dL_ahead_460
      · refine g_iload13 C dL_ahead_367 ?_
        refine g_iload14 C dL_ahead_369 ?_
        refine g_iload8 C dL_ahead_371 ?_
        refine g_d2 (v := nI (if q ≠ p ∧ d 3 q ≠ nI 3 ∧ q_rc d q = true ∧ ¬ q_rcb d (nI p) q = true then 1 else 0)) 411 (fun K373 => ?_) ?_
        · skip
          refine g_icmp_eqN C (by omega) (by omega) 410 dL_ahead_373 (by decide) (fun h373 => ?_) (fun h373 => ?_)
          · refine g_iconst C (nI 0) (by decide) dL_ahead_410 ?_
            exact K373 _ (by rw [if_neg (fun z => z.1 h373)])
          · refine g_aload3 C dL_ahead_376 ?_
            refine g_iload14 C dL_ahead_377 ?_
            refine g_iald C hK hP 0 0 rfl rfl (by omega) (by decide) dL_ahead_379 ?_
            refine g_iconst C (nI 3) (by decide) dL_ahead_380 ?_
            refine g_iand C dL_ahead_381 ?_
            refine g_top (rd_k hkg (by omega)) ?_
            refine g_iconst C (nI 3) (by decide) dL_ahead_382 ?_
            refine g_icmp_eq C 410 dL_ahead_383 (by decide) (fun h383 => ?_) (fun h383 => ?_)
            · refine g_iconst C (nI 0) (by decide) dL_ahead_410 ?_
              exact K373 _ (by rw [if_neg (fun z => z.2.1 h383)])
            · refine g_iload14 C dL_ahead_386 ?_
              refine g_aload6 C dL_ahead_388 ?_
              refine g_pkS C 2 rfl (c_L_beside (by omega)) wl_L_42 wt_L_beside wn_L wc_L_beside (by decide +kernel) ⟨rfl, rfl, by decide, by decide⟩ PKV_bl (PKV_at hK (P_l (u := [WY cI w v]) (tw_b hP))) rfl rfl (by simp [Value.category]) ⟨by show _ ≤ 50; omega, by show _ ≤ 368; omega⟩ dL_ahead_390 ?_
              refine g_if_eqB C 410 dL_ahead_393 (by decide) (fun h393 => ?_) (fun h393 => ?_)
              · refine g_iconst C (nI 0) (by decide) dL_ahead_410 ?_
                exact K373 _ (by rw [if_neg (fun z => h393 (((wr_by v q).mp ((hwr q (by omega)).trans z.2.2.1)).resolve_left (fun e => h383 (by rw [e]; exact hki.2.2.2.2.2.2.1))))])
              · refine g_iload14 C dL_ahead_396 ?_
                refine g_aload12 C dL_ahead_398 ?_
                refine g_pkS C 2 rfl (c_L_beside (by omega)) wl_L_42 wt_L_beside wn_L wc_L_beside (by decide +kernel) ⟨rfl, rfl, by decide, by decide⟩ PKV_bl (PKV_at hK (tw_v hP)) rfl rfl (by simp [Value.category]) ⟨by show _ ≤ 50; omega, by show _ ≤ 368; omega⟩ dL_ahead_400 ?_
                refine g_if_neB C 410 dL_ahead_403 (by decide) (fun h403 => ?_) (fun h403 => ?_)
                · refine g_iconst C (nI 0) (by decide) dL_ahead_410 ?_
                  exact K373 _ (by rw [if_neg (fun z => z.2.2.2 ((hwb q (by omega)).symm.trans ((wr_by v2 q).mpr (Or.inr h403))))])
                · refine g_iconst C (nI 1) (by decide) dL_ahead_406 ?_
                  refine g_goto C 411 dL_ahead_407 (by decide) ?_
                  exact K373 _ (by rw [if_pos ⟨h373, h383, (hwr q (by omega)).symm.trans ((wr_by v q).mpr (Or.inr h393)), fun z => h403 (((wr_by v2 q).mp ((hwb q (by omega)).trans z)).resolve_left (fun e => h383 (by rw [e]; exact hki.2.2.2.2.2.2.1)))⟩])
        refine g_iaddN C dL_ahead_411 ?_
        refine g_istore13 C rfl dL_ahead_412 ?_
        refine g_iinc14 C _ rfl dL_ahead_414 (nI_1 _) ?_
        refine g_goto C 360 dL_ahead_417 (by decide) ?_
        exact ih (q + 1, _) ⟨by show q + 1 ≤ 40; omega, by show _ = q_cn (fun q => q ≠ p ∧ d 3 q ≠ nI 3 ∧ q_rc d q = true ∧ ¬ q_rcb d (nI p) q = true) (q + 1); rw [hcut]; rfl⟩ (by show 40 - (q + 1) < 40 - q; omega)
    · refine g_iconst C (nI 0) (by decide) dL_ahead_236 ?_
      refine g_istore13 C rfl dL_ahead_237 ?_
      refine g_iconst C (nI 3) (by decide) dL_ahead_239 ?_
      refine g_istore14 C rfl dL_ahead_240 ?_
      refine g_lp1 (fun (u : Nat × Int32) => u.1 ≤ 3 ∧ u.2 = OWN d q (q_ow d (nI yn) (q_rc d) f q (3 - u.1))) (fun u => u.1) (fun u => [some (.ref o), some (.int ax), some (.int ay), some (.ref (t 0)), some (.ref (t 1)), some (.ref (t 3)), some (.ref w), some (.int (nI f)), some (.int (nI p)), some (.int (q_dpM d (nI yn) (q_rc d) (nI f) p 3)), some (.int bst), some (.int lst), some (.int (nI q)), some (.int u.2), some (.int (nI u.1))]) (3, nI 0) ⟨by omega, rfl⟩ rfl ?_
      rintro ⟨i9, x9⟩ ⟨hi9, hown⟩ ih2
      try dsimp only at hi9 hown ih2 ⊢
      refine g_iload14 C dL_ahead_242 ?_
      refine g_if_leN C (by omega) 304 dL_ahead_244 (by decide) (fun h244 => ?_) (fun h244 => ?_)
      · refine g_iload13 C dL_ahead_304 ?_
        refine g_if_eq C 332 dL_ahead_306 (by decide) (fun h306 => ?_) (fun h306 => ?_)
        · refine g_iinc12 C _ rfl dL_ahead_332 (nI_1 _) ?_
          refine g_goto C 229 dL_ahead_335 (by decide) ?_
          have hO : x9 = OWN d q (q_ow d (nI yn) (q_rc d) f q 3) := by rw [hown, show i9 = 0 by omega]
          have hA : q_ow d (nI yn) (q_rc d) f q 3 = -1 := own_0.mp (by rw [← hO]; exact h306)
          have eB := bm_A (d := d) (y := nI yn) (rc := q_rc d) (f := f) hA
          refine g_fg13 ?_
          refine g_fg14 ?_
          exact ih (q + 1, _, _) ⟨by show q + 1 ≤ 40; omega,  by rw [eB]; exact hbest, by rw [eB]; exact hleast⟩ (by show 40 - (q + 1) < 40 - q; omega)
        · refine g_iload10 C dL_ahead_309 ?_
          refine g_if_lt C 324 dL_ahead_311 (by decide) (fun h311 => ?_) (fun h311 => ?_)
          · refine g_iload12 C dL_ahead_324 ?_
            refine g_istore10 C rfl dL_ahead_326 ?_
            refine g_iload13 C dL_ahead_328 ?_
            refine g_istore11 C rfl dL_ahead_330 ?_
            refine g_iinc12 C _ rfl dL_ahead_332 (nI_1 _) ?_
            refine g_goto C 229 dL_ahead_335 (by decide) ?_
            have hO : x9 = OWN d q (q_ow d (nI yn) (q_rc d) f q 3) := by rw [hown, show i9 = 0 by omega]
            have hA : q_ow d (nI yn) (q_rc d) f q 3 ≠ -1 := fun z => h306 (by rw [hO]; exact own_z z)
            have eB := bm_B (d := d) (y := nI yn) (rc := q_rc d) (f := f) hA ((bm_none (by omega)).mp (by rw [← hbest]; exact h311))
            refine g_fg13 ?_
            refine g_fg14 ?_
            exact ih (q + 1, _, _) ⟨by show q + 1 ≤ 40; omega, by rw [eB]; rfl, by rw [eB, hO]; exact own_lst hA⟩ (by show 40 - (q + 1) < 40 - q; omega)
          · refine g_iload13 C dL_ahead_314 ?_
            refine g_iload11 C dL_ahead_316 ?_
            refine g_icmp_lt C 324 dL_ahead_318 (by decide) (fun h318 => ?_) (fun h318 => ?_)
            · refine g_iload12 C dL_ahead_324 ?_
              refine g_istore10 C rfl dL_ahead_326 ?_
              refine g_iload13 C dL_ahead_328 ?_
              refine g_istore11 C rfl dL_ahead_330 ?_
              refine g_iinc12 C _ rfl dL_ahead_332 (nI_1 _) ?_
              refine g_goto C 229 dL_ahead_335 (by decide) ?_
              have hO : x9 = OWN d q (q_ow d (nI yn) (q_rc d) f q 3) := by rw [hown, show i9 = 0 by omega]
              have hA : q_ow d (nI yn) (q_rc d) f q 3 ≠ -1 := fun z => h306 (by rw [hO]; exact own_z z)
              have hN : (q_bestM d (nI yn) (q_rc d) f q).1 ≠ none := fun z => h311 (by rw [hbest]; exact (bm_none (by omega)).mpr z)
              have eB := bm_C (d := d) (y := nI yn) (rc := q_rc d) (f := f) hA hN (by rw [← hO, ← hleast]; exact h318)
              refine g_fg13 ?_
              refine g_fg14 ?_
              exact ih (q + 1, _, _) ⟨by show q + 1 ≤ 40; omega, by rw [eB]; rfl, by rw [eB, hO]; exact own_lst hA⟩ (by show 40 - (q + 1) < 40 - q; omega)
            · refine g_goto C 332 dL_ahead_321 (by decide) ?_
              refine g_iinc12 C _ rfl dL_ahead_332 (nI_1 _) ?_
              refine g_goto C 229 dL_ahead_335 (by decide) ?_
              have hO : x9 = OWN d q (q_ow d (nI yn) (q_rc d) f q 3) := by rw [hown, show i9 = 0 by omega]
              have hA : q_ow d (nI yn) (q_rc d) f q 3 ≠ -1 := fun z => h306 (by rw [hO]; exact own_z z)
              have hN : (q_bestM d (nI yn) (q_rc d) f q).1 ≠ none := fun z => h311 (by rw [hbest]; exact (bm_none (by omega)).mpr z)
              have eB := bm_D (d := d) (y := nI yn) (rc := q_rc d) (f := f) hA hN (by rw [← hO, ← hleast]; exact h318)
              refine g_fg13 ?_
              refine g_fg14 ?_
              exact ih (q + 1, _, _) ⟨by show q + 1 ≤ 40; omega, by rw [eB]; exact hbest, by rw [eB]; exact hleast⟩ (by show 40 - (q + 1) < 40 - q; omega)
      · obtain ⟨i, rfl⟩ : ∃ i, i9 = i + 1 := ⟨i9 - 1, by omega⟩
        refine g_iload7 C dL_ahead_247 ?_
        refine g_iload12 C dL_ahead_249 ?_
        refine g_iload14 C dL_ahead_251 ?_
        refine g_aload5 C dL_ahead_253 ?_
        refine g_bipush C (nI 30) (by decide) dL_ahead_255 ?_
        refine g_iald C hK hP 3 0 rfl rfl (by omega) (by decide) dL_ahead_257 ?_
        refine g_top hkf.1 ?_
        refine g_aload3 C dL_ahead_258 ?_
        refine g_aload4 C dL_ahead_259 ?_
        refine g_aload6 C dL_ahead_261 ?_
        refine g_pkS C 7 rfl (c_L_why hk (by omega) (by omega) (by omega) (by omega) (by omega)) wl_L_95 wt_L_why wn_L wc_L_why (by decide +kernel) ⟨rfl, rfl, by decide, by decide⟩ PKW_bl (PKW_at hK (tw_w hP)) rfl rfl (by simp [Value.category]) ⟨by show _ ≤ 50; omega, by show _ ≤ 368; omega⟩ dL_ahead_263 ?_
        refine g_top (q_ref_rc (hwr _ (by omega))) ?_
        refine g_d1 (v := OWN d q (q_ow d (nI yn) (q_rc d) f q (3 - i))) 296 (fun K266 => ?_) ?_
        · skip
          refine g_if_ne C 294 dL_ahead_266 (by decide) (fun h266 => ?_) (fun h266 => ?_)
          · refine g_iload13 C dL_ahead_294 ?_
            exact K266 _ (by rw [ow_3 (by omega), if_neg h266]; exact hown)
          · refine g_iconst C (nI 4) (by decide) dL_ahead_269 ?_
            refine g_iload7 C dL_ahead_270 ?_
            refine g_iload12 C dL_ahead_272 ?_
            refine g_iload14 C dL_ahead_274 ?_
            refine g_aload3 C dL_ahead_276 ?_
            refine g_aload5 C dL_ahead_277 ?_
            refine g_pkS C 5 rfl (c_L_fee hk (by omega) (by omega) (by omega) (by omega)) wl_L_104 wt_L_fee wn_L wc_L_fee (by decide +kernel) ⟨rfl, rfl, by decide, by decide⟩ PKR_bl (PKR_at hK (tw_p hP)) rfl rfl (by simp [Value.category]) ⟨by show _ ≤ 50; omega, by show _ ≤ 368; omega⟩ dL_ahead_279 ?_
            refine g_imul C dL_ahead_282 ?_
            refine g_aload4 C dL_ahead_283 ?_
            refine g_iload12 C dL_ahead_285 ?_
            refine g_pkS C 2 rfl (c_L_buried hk (by omega)) wl_L_38 wt_L_buried wn_L wc_L_buried (by decide +kernel) ⟨rfl, rfl, by decide, by decide⟩ PKR_bl (PKR_at hK (tw_p hP)) rfl rfl (by simp [Value.category]) ⟨by show _ ≤ 50; omega, by show _ ≤ 368; omega⟩ dL_ahead_287 ?_
            have hbu : q_bur d q ≤ 3 := q_cn_le _ 3
            refine g_iadd C dL_ahead_290 ?_
            refine g_goto C 296 dL_ahead_291 (by decide) ?_
            exact K266 _ (by rw [ow_3 (by omega), if_pos h266]; exact (if_neg (q_fee_ne (by omega) (by omega))).symm)
        refine g_istore13 C rfl dL_ahead_296 ?_
        refine g_iinc14 C (nI i) rfl dL_ahead_298 (nI_dec1 (by omega)) ?_
        refine g_goto C 242 dL_ahead_301 (by decide) ?_
        exact ih2 (i, _) ⟨by show i ≤ 3; omega, rfl⟩ (by show i < i + 1; omega)
  · refine g_iload7 C dL_ahead_58 ?_
    refine g_iload8 C dL_ahead_60 ?_
    refine g_iload10 C dL_ahead_62 ?_
    refine g_aload5 C dL_ahead_64 ?_
    refine g_bipush C (nI 30) (by decide) dL_ahead_66 ?_
    refine g_iald C hK hP 3 0 rfl rfl (by omega) (by decide) dL_ahead_68 ?_
    refine g_top hkf.1 ?_
    refine g_aload3 C dL_ahead_69 ?_
    refine g_aload4 C dL_ahead_70 ?_
    refine g_aload6 C dL_ahead_72 ?_
    refine g_pkS C 7 rfl (c_L_why hk (by omega) (by omega) (by omega) (by omega) (by omega)) wl_L_95 wt_L_why wn_L wc_L_why (by decide +kernel) ⟨rfl, rfl, by decide, by decide⟩ PKW_bl (PKW_at hK (tw_w hP)) rfl rfl (by simp [Value.category]) ⟨by show _ ≤ 50; omega, by show _ ≤ 368; omega⟩ dL_ahead_74 ?_
    refine g_top (q_ref_rc (hwr _ (by omega))) ?_
    refine g_istore11 C rfl dL_ahead_77 ?_
    refine g_iload11 C dL_ahead_79 ?_
    refine g_d1 (v := q_dpM d (nI yn) (q_rc d) (nI f) p (j + 1)) 91 (fun K81 => ?_) ?_
    · skip
      refine g_if_ne C 89 dL_ahead_81 (by decide) (fun h81 => ?_) (fun h81 => ?_)
      · refine g_iload9 C dL_ahead_89 ?_
        exact K81 _ ((if_neg h81).symm)
      · refine g_iload10 C dL_ahead_84 ?_
        refine g_goto C 91 dL_ahead_86 (by decide) ?_
        exact K81 _ ((if_pos h81).symm)
    refine g_istore9 C rfl dL_ahead_91 ?_
    refine g_aload0 C dL_ahead_93 ?_
    refine g_iload7 C dL_ahead_94 ?_
    refine g_iload8 C dL_ahead_96 ?_
    refine g_iload10 C dL_ahead_98 ?_
    refine g_xR C 3 rfl (n_why hls hki (by omega) (by omega) (by omega) (by omega)) wl_L_99 wi_X2_why wv_X2_why wc_X2_why (by decide +kernel) ⟨by decide, by decide⟩ BDM_bl (va_recv (ci := 2) (q0 := 0) hK (tw_b hP) rfl rfl) (BDM_at hK (tw_b hP) (tw_db hD) hZ hX hS (fun _ h => h)) rfl rfl (by simp [Value.category]) ⟨by show _ ≤ 50; omega, by show _ ≤ 368; omega⟩ hS dL_ahead_100 (fun H locs hk9 hS => ?_)
    have hP := P_kept hP hk9
    refine g_iload11 C dL_ahead_103 ?_
    refine g_icmp_ne C 133 dL_ahead_105 (by decide) (fun h105 => ?_) (fun h105 => ?_)
    · exact absurd rfl h105
    · refine g_aload0 C dL_ahead_108 ?_
      refine g_iload7 C dL_ahead_109 ?_
      refine g_iload8 C dL_ahead_111 ?_
      refine g_iload10 C dL_ahead_113 ?_
      refine g_xR C 3 rfl (n_fee hls hki (by omega) (by omega) (by omega) (by omega)) wl_L_101 wi_X2_fee wv_X2_fee wc_X2_fee (by decide +kernel) ⟨by decide, by decide⟩ BDM_bl (va_recv (ci := 2) (q0 := 0) hK (tw_b hP) rfl rfl) (BDM_at hK (tw_b hP) (tw_db hD) hZ hX hS (fun _ h => h)) rfl rfl (by simp [Value.category]) ⟨by show _ ≤ 50; omega, by show _ ≤ 368; omega⟩ hS dL_ahead_115 (fun H locs hk9 hS => ?_)
      have hP := P_kept hP hk9
      refine g_iload7 C dL_ahead_118 ?_
      refine g_iload8 C dL_ahead_120 ?_
      refine g_iload10 C dL_ahead_122 ?_
      refine g_aload3 C dL_ahead_124 ?_
      refine g_aload5 C dL_ahead_125 ?_
      refine g_pkS C 5 rfl (c_L_fee hk (by omega) (by omega) (by omega) (by omega)) wl_L_104 wt_L_fee wn_L wc_L_fee (by decide +kernel) ⟨rfl, rfl, by decide, by decide⟩ PKR_bl (PKR_at hK (tw_p hP)) rfl rfl (by simp [Value.category]) ⟨by show _ ≤ 50; omega, by show _ ≤ 368; omega⟩ dL_ahead_127 ?_
      refine g_icmp_eq C 135 dL_ahead_130 (by decide) (fun h130 => ?_) (fun h130 => ?_)
      · refine g_aload5 C dL_ahead_135 ?_
        refine g_bipush C (nI 30) (by decide) dL_ahead_137 ?_
        refine g_iald C hK hP 3 0 rfl rfl (by omega) (by decide) dL_ahead_139 ?_
        refine g_top hkf.1 ?_
        refine g_istore12 C rfl dL_ahead_140 ?_
        refine g_lp1 (fun (k : Nat) => k ≤ 101 ∧ ∀ i, i < k → ¬ q_ref d (nI (yn + i)) (q_rc d) (nI f) p (j + 1) = 0) (fun k => 101 - k) (fun k => [some (.ref o), some (.int ax), some (.int ay), some (.ref (t 0)), some (.ref (t 1)), some (.ref (t 3)), some (.ref w), some (.int (nI f)), some (.int (nI p)), some (.int (q_dpM d (nI yn) (q_rc d) (nI f) p (j + 1))), some (.int (nI (j + 1))), some (.int (q_ref d (nI yn) (q_rc d) (nI f) p (j + 1))), some (.int (nI (yn + k))), none, none]) 0 ⟨by omega, fun i hi => absurd hi (Nat.not_lt_zero i)⟩ rfl ?_
        rintro k ⟨hk1, hn⟩ ih2
        try dsimp only at ih2 ⊢
        refine g_iload12 C dL_ahead_142 ?_
        refine g_aload5 C dL_ahead_144 ?_
        refine g_bipush C (nI 30) (by decide) dL_ahead_146 ?_
        refine g_iald C hK hP 3 0 rfl rfl (by omega) (by decide) dL_ahead_148 ?_
        refine g_top hkf.1 ?_
        refine g_bipush C (nI 100) (by decide) dL_ahead_149 ?_
        refine g_iaddN C dL_ahead_151 ?_
        refine g_icmp_gtN C (by omega) (by omega) 180 dL_ahead_152 (by decide) (fun h152 => ?_) (fun h152 => ?_)
        · refine g_aload0 C dL_ahead_180 ?_
          refine g_iload7 C dL_ahead_181 ?_
          refine g_iload8 C dL_ahead_183 ?_
          refine g_iload10 C dL_ahead_185 ?_
          refine g_xR C 3 rfl (n_yearFor hls hki (by omega) (by omega) (by omega) (by omega) (by omega)) wl_L_107 wi_X2_yearFor wv_X2_yearFor wc_X2_yearFor (by decide +kernel) ⟨by decide, by decide⟩ BDM_bl (va_recv (ci := 2) (q0 := 0) hK (tw_b hP) rfl rfl) (BDM_at hK (tw_b hP) (tw_db hD) hZ hX hS (fun _ h => h)) rfl rfl (by simp [Value.category]) ⟨by show _ ≤ 50; omega, by show _ ≤ 368; omega⟩ hS dL_ahead_187 (fun H locs hk9 hS => ?_)
          have hP := P_kept hP hk9
          refine g_iload12 C dL_ahead_190 ?_
          refine g_aload5 C dL_ahead_192 ?_
          refine g_bipush C (nI 30) (by decide) dL_ahead_194 ?_
          refine g_iald C hK hP 3 0 rfl rfl (by omega) (by decide) dL_ahead_196 ?_
          refine g_top hkf.1 ?_
          refine g_bipush C (nI 100) (by decide) dL_ahead_197 ?_
          refine g_iaddN C dL_ahead_199 ?_
          refine g_icmp_leN C (by omega) (by omega) 207 dL_ahead_200 (by decide) (fun h200 => ?_) (fun h200 => ?_)
          · refine g_iload12 C dL_ahead_207 ?_
            refine g_icmp_eq C 214 dL_ahead_209 (by decide) (fun h209 => ?_) (fun h209 => ?_)
            · refine g_iinc10 C _ rfl dL_ahead_214 (nI_1 _) ?_
              refine g_goto C 52 dL_ahead_217 (by decide) ?_
              refine g_fg11 ?_
              refine g_fg12 ?_
              refine g_wd (k := 1 + 12 * (j + 1)) (n := 40 + 72 * (j + 1)) (by omega) (by omega) (ih (j + 1) _ _ ⟨by omega, hP, hS⟩ (by show 3 - (j + 1) < 3 - j; omega))
            · first | (exfalso; omega) | exact (h209 (yf_some (by omega) hn h171)).elim | exact (h209 (yf_none (fun i hi => hn i (by omega)))).elim
          · refine g_iconst C (-1) (by decide) dL_ahead_203 ?_
            refine g_goto C 209 dL_ahead_204 (by decide) ?_
            refine g_icmp_eq C 214 dL_ahead_209 (by decide) (fun h209 => ?_) (fun h209 => ?_)
            · refine g_iinc10 C _ rfl dL_ahead_214 (nI_1 _) ?_
              refine g_goto C 52 dL_ahead_217 (by decide) ?_
              refine g_fg11 ?_
              refine g_fg12 ?_
              refine g_wd (k := 1 + 12 * (j + 1)) (n := 40 + 72 * (j + 1)) (by omega) (by omega) (ih (j + 1) _ _ ⟨by omega, hP, hS⟩ (by show 3 - (j + 1) < 3 - j; omega))
            · first | (exfalso; omega) | exact (h209 (yf_some (by omega) hn h171)).elim | exact (h209 (yf_none (fun i hi => hn i (by omega)))).elim
        · refine g_iload7 C dL_ahead_155 ?_
          refine g_iload8 C dL_ahead_157 ?_
          refine g_iload10 C dL_ahead_159 ?_
          refine g_iload12 C dL_ahead_161 ?_
          refine g_aload3 C dL_ahead_163 ?_
          refine g_aload4 C dL_ahead_164 ?_
          refine g_aload6 C dL_ahead_166 ?_
          refine g_pkS C 7 rfl (c_L_why hk (by omega) (by omega) (by omega) (by omega) (by omega)) wl_L_95 wt_L_why wn_L wc_L_why (by decide +kernel) ⟨rfl, rfl, by decide, by decide⟩ PKW_bl (PKW_at hK (tw_w hP)) rfl rfl (by simp [Value.category]) ⟨by show _ ≤ 50; omega, by show _ ≤ 368; omega⟩ dL_ahead_168 ?_
          refine g_top (q_ref_rc (hwr _ (by omega))) ?_
          refine g_if_eq C 180 dL_ahead_171 (by decide) (fun h171 => ?_) (fun h171 => ?_)
          · refine g_aload0 C dL_ahead_180 ?_
            refine g_iload7 C dL_ahead_181 ?_
            refine g_iload8 C dL_ahead_183 ?_
            refine g_iload10 C dL_ahead_185 ?_
            refine g_xR C 3 rfl (n_yearFor hls hki (by omega) (by omega) (by omega) (by omega) (by omega)) wl_L_107 wi_X2_yearFor wv_X2_yearFor wc_X2_yearFor (by decide +kernel) ⟨by decide, by decide⟩ BDM_bl (va_recv (ci := 2) (q0 := 0) hK (tw_b hP) rfl rfl) (BDM_at hK (tw_b hP) (tw_db hD) hZ hX hS (fun _ h => h)) rfl rfl (by simp [Value.category]) ⟨by show _ ≤ 50; omega, by show _ ≤ 368; omega⟩ hS dL_ahead_187 (fun H locs hk9 hS => ?_)
            have hP := P_kept hP hk9
            refine g_iload12 C dL_ahead_190 ?_
            refine g_aload5 C dL_ahead_192 ?_
            refine g_bipush C (nI 30) (by decide) dL_ahead_194 ?_
            refine g_iald C hK hP 3 0 rfl rfl (by omega) (by decide) dL_ahead_196 ?_
            refine g_top hkf.1 ?_
            refine g_bipush C (nI 100) (by decide) dL_ahead_197 ?_
            refine g_iaddN C dL_ahead_199 ?_
            refine g_icmp_leN C (by omega) (by omega) 207 dL_ahead_200 (by decide) (fun h200 => ?_) (fun h200 => ?_)
            · refine g_iload12 C dL_ahead_207 ?_
              refine g_icmp_eq C 214 dL_ahead_209 (by decide) (fun h209 => ?_) (fun h209 => ?_)
              · refine g_iinc10 C _ rfl dL_ahead_214 (nI_1 _) ?_
                refine g_goto C 52 dL_ahead_217 (by decide) ?_
                refine g_fg11 ?_
                refine g_fg12 ?_
                refine g_wd (k := 1 + 12 * (j + 1)) (n := 40 + 72 * (j + 1)) (by omega) (by omega) (ih (j + 1) _ _ ⟨by omega, hP, hS⟩ (by show 3 - (j + 1) < 3 - j; omega))
              · first | (exfalso; omega) | exact (h209 (yf_some (by omega) hn h171)).elim | exact (h209 (yf_none (fun i hi => hn i (by omega)))).elim
            · refine g_iconst C (-1) (by decide) dL_ahead_203 ?_
              refine g_goto C 209 dL_ahead_204 (by decide) ?_
              refine g_icmp_eq C 214 dL_ahead_209 (by decide) (fun h209 => ?_) (fun h209 => ?_)
              · refine g_iinc10 C _ rfl dL_ahead_214 (nI_1 _) ?_
                refine g_goto C 52 dL_ahead_217 (by decide) ?_
                refine g_fg11 ?_
                refine g_fg12 ?_
                refine g_wd (k := 1 + 12 * (j + 1)) (n := 40 + 72 * (j + 1)) (by omega) (by omega) (ih (j + 1) _ _ ⟨by omega, hP, hS⟩ (by show 3 - (j + 1) < 3 - j; omega))
              · first | (exfalso; omega) | exact (h209 (yf_some (by omega) hn h171)).elim | exact (h209 (yf_none (fun i hi => hn i (by omega)))).elim
          · refine g_iinc12 C _ rfl dL_ahead_174 (nI_1 _) ?_
            refine g_goto C 142 dL_ahead_177 (by decide) ?_
            exact ih2 (k + 1) ⟨by omega, fun i hi => by rcases Nat.lt_succ_iff_lt_or_eq.mp hi with hi | rfl; exact hn i hi; exact h171⟩ (by show 101 - (k + 1) < 101 - k; omega)
      · exact absurd rfl h130
