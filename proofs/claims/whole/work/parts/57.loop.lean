/-! the first state -/
theorem opn_d0 : q_opn q_d0 = 1099511627775 := by decide +kernel
theorem fl_0 : q_fl 1099511627775 0 = 1 := by decide +kernel
theorem fl_s {o x y : Int64} {n : Nat} (h : q_fl o n = x) (e : x ||| (q_nb x &&& o) = y) : q_fl o (n + 1) = y := by subst h; exact e
theorem fl_1 : q_fl 1099511627775 1 = 259 := fl_s fl_0 (by decide +kernel)
theorem fl_2 : q_fl 1099511627775 2 = 66311 := fl_s fl_1 (by decide +kernel)
theorem fl_3 : q_fl 1099511627775 3 = 16975631 := fl_s fl_2 (by decide +kernel)
theorem fl_4 : q_fl 1099511627775 4 = 4345761567 := fl_s fl_3 (by decide +kernel)
theorem fl_5 : q_fl 1099511627775 5 = 13003333439 := fl_s fl_4 (by decide +kernel)
theorem fl_6 : q_fl 1099511627775 6 = 30318477183 := fl_s fl_5 (by decide +kernel)
theorem fl_7 : q_fl 1099511627775 7 = 64948764671 := fl_s fl_6 (by decide +kernel)
theorem fl_8 : q_fl 1099511627775 8 = 134209339391 := fl_s fl_7 (by decide +kernel)
theorem fl_9 : q_fl 1099511627775 9 = 272730423295 := fl_s fl_8 (by decide +kernel)
theorem fl_10 : q_fl 1099511627775 10 = 549755813887 := fl_s fl_9 (by decide +kernel)
theorem fl_11 : q_fl 1099511627775 11 = 1099511627775 := fl_s fl_10 (by decide +kernel)
theorem fl_st : ∀ n, q_fl 1099511627775 (n + 11) = 1099511627775 := by
  intro n
  induction n with
  | zero => exact fl_11
  | succ n ih => exact fl_s ih (by decide +kernel)
theorem rw_d0 : q_rw q_d0 0 = 1099511627775 := by
  unfold q_rw
  rw [opn_d0, show (1099511627775 : Int64) &&& ((0 : Int64) ^^^ (-1)) = 1099511627775 by decide +kernel, fl_st 29]
  decide +kernel
theorem INV_d0 : INV q_d0 := by
  refine ⟨fun p _ => ?_, fun k _ h => absurd rfl h, fun p _ h => absurd rfl h, fun k _ _ => ⟨rfl, rfl⟩, fun k _ h => absurd rfl h, fun k _ h => absurd rfl h, rfl, fun p _ h => absurd rfl h⟩
  by_cases h : p = 0
  · exact ⟨3, by decide, if_pos h⟩
  · exact ⟨0, by decide, if_neg h⟩
theorem zi_nz : q_nz (q_zi 40 120 10) = q_d0 := by
  funext j k
  match j with
  | 0 =>
    show (if k < 10 then q_zi 40 120 10 (520 + k) else nI 1) = nI 1
    split
    · exact (if_neg (by omega)).trans ((if_neg (by omega)).trans ((if_neg (by omega)).trans (if_pos (by omega))))
    · rfl
  | 1 =>
    show (if k < 10 then q_zi 40 120 10 (530 + k) else 0) = 0
    split
    · exact (if_neg (by omega)).trans ((if_neg (by omega)).trans ((if_neg (by omega)).trans (if_neg (by omega))))
    · rfl
  | 2 =>
    show (if k < 10 then q_zi 40 120 10 (540 + k) else 0) = 0
    split
    · exact (if_neg (by omega)).trans ((if_neg (by omega)).trans ((if_neg (by omega)).trans (if_neg (by omega))))
    · rfl
  | 3 =>
    show (if k < 40 then q_zi 40 120 10 k else nI 0) = if k = 0 then nI 3 else nI 0
    by_cases h : k = 0
    · subst h; rfl
    · rw [if_neg h]
      split
      · exact (if_neg h).trans ((if_neg (by omega)).trans ((if_neg (by omega)).trans (if_neg (by omega))))
      · rfl
  | 4 =>
    show (if k < 40 then q_zi 40 120 10 (40 + k) else -1) = -1
    split
    · exact (if_neg (by omega)).trans (if_pos (by omega))
    · rfl
  | 5 =>
    show (if k < 40 then q_zi 40 120 10 (80 + k) else -1) = -1
    split
    · exact (if_neg (by omega)).trans (if_pos (by omega))
    · rfl
  | 6 =>
    show (if k < 40 then q_zi 40 120 10 (120 + k) else -1) = -1
    split
    · exact (if_neg (by omega)).trans (if_pos (by omega))
    · rfl
  | 7 =>
    show (if k < 120 then q_zi 40 120 10 (160 + k) else -1) = -1
    split
    · exact (if_neg (by omega)).trans ((if_neg (by omega)).trans (if_pos (by omega)))
    · rfl
  | 8 =>
    show (if k < 120 ∧ q_zi 40 120 10 (160 + k) ≠ -1 then q_zi 40 120 10 (280 + k) else -1) = -1
    refine if_neg (fun z => z.2 ?_)
    exact (if_neg (by omega)).trans ((if_neg (by omega)).trans (if_pos (by omega)))
  | 9 =>
    show (if k < 120 ∧ q_zi 40 120 10 (160 + k) ≠ -1 then q_zi 40 120 10 (400 + k) else -1) = -1
    refine if_neg (fun z => z.2 ?_)
    exact (if_neg (by omega)).trans ((if_neg (by omega)).trans (if_pos (by omega)))
  | n + 10 => rfl
theorem and31 (x : Int32) : ∃ k : Nat, k < 32 ∧ x &&& nI 31 = nI k := by
  refine ⟨(x &&& nI 31).toBitVec.toNat, ?_, ?_⟩
  · have e : (x &&& nI 31).toBitVec.toNat = x.toBitVec.toNat &&& 31 := by
      rw [Int32.toBitVec_and, BitVec.toNat_and]
      rfl
    rw [e]
    exact Nat.lt_of_le_of_lt Nat.and_le_right (by decide)
  · apply Int32.toBitVec_inj.mp
    show _ = BitVec.ofNat 32 _
    rw [BitVec.ofNat_toNat]
    rfl
theorem sub4 {L ii : Nat} (hL : L ≤ 2048) (hi : ii ≤ L) (h : ¬ nI L - nI 4 < nI ii) : ii + 4 ≤ L := by
  by_cases h4 : 4 ≤ L
  · have e : nI L - nI 4 = nI (L - 4) := pk_sub h4
    rw [e] at h
    have := Nat.not_lt.mp (fun z => h ((nI_ltI (by omega) (by omega)).mpr z))
    omega
  · exfalso
    rcases (show L = 0 ∨ L = 1 ∨ L = 2 ∨ L = 3 by omega) with rfl | rfl | rfl | rfl <;> rcases (show ii = 0 ∨ ii = 1 ∨ ii = 2 ∨ ii = 3 by omega) with rfl | rfl | rfl | rfl <;> first | exact h (by decide) | omega
section LN
variable {p : Program} {l : Launch} {e : Env} {R : Room} {s : State} {m : MethodId} {args : Array Value} {below : List Frame} {meth : Method} {c : Code} {H : Heap} {locs : List Loc} {cells slots : Nat} {Q : State → Prop}
variable {cc : ByteArray} {own : String} {nL pc : Nat} {ret : Option FieldType} {vs : List (Option Value)} {st st0 : List Value} {A : Nat → Prop} {D : va_G} {cl : List vw_C} {ws : va_W} {H0 : Heap} {cI cL cJ : ClassId}
theorem g_newaL (C : CX p s m args meth c cc own nL ret) {n : Nat} (hK : va_K D cl (tyL cI cL cJ) s) (hP : va_P D cl ws H) (hD : va_D A ws) (hS : va_S A H0 H locs) (hA : ∀ q, H0.size ≤ q → A q) (hn : n < 2147483648) (hb : n * componentBytes .long ≤ 536870912) (hcells : cells + 1 ≤ R.cells) (hslots : slots + n ≤ R.slots) (hd : decode cc pc = .ok (.newarray .long, 2))
    (kk : ∀ (q : Nat) (H1 : Heap), va_P D cl (ws ++ [(q, .inl (cJ, n, .inr (.inl (fun _ => 0))))]) H1 → va_D A (ws ++ [(q, .inl (cJ, n, .inr (.inl (fun _ => 0))))]) → va_S A H0 H1 locs → G p l e R s m args below meth c H1 locs (cells + 1) (slots + n) Q vs (pc + 2) (.ref q :: st)) : G p l e R s m args below meth c H locs cells slots Q vs pc (.int (nI n) :: st) := by
  intro ls h
  refine va_newa (atype := .long) (ty := .long) (a0 := (n, .inr (.inl (fun _ => 0)))) (N' := n) C.1 C.2.1 (C.2.2.2.2.1 _ wa_long) rfl hK hP hD hS hA (fun cA => rfl) (nI_pos hn) (nI_clamp hn) hb hcells hslots hd (fun q cA H1 hK1 hP1 hD1 hS1 => ?_)
  have e1 : s.vm.findClass ("[" ++ FieldType.long.toString) = some cA := (hK1.2 3 (cA, .long) rfl).2
  have e2 : s.vm.findClass ("[" ++ FieldType.long.toString) = some cJ := (hK.2 2 (cJ, .long) rfl).2
  have e3 : cA = cJ := Option.some.inj (e1.symm.trans e2)
  subst e3
  exact kk q H1 hP1 hD1 hS1 ls h
end LN
set_option maxHeartbeats 4000000 in
set_option maxRecDepth 100000 in
theorem law_loop {p : Program} {e : Env} {s : State} {m : MethodId} {below : List Frame} {meth : Method} {c : Code} (l : Launch) (hls : l.stackTraces = false) {b L : Nat} {xs : Nat → Int32} (hL : L ≤ 2048) (C0 : lw_At p s m meth c b L xs) (C : CX p s m #[Value.ref b] meth c cL_law RL 9 ret) {dC : Nat → ClassId} {dI : Nat → Nat → Nat} {cI cL cJ : ClassId} {g1 g2 : Nat} {o sa ba a e0 : Nat} {t : Nat → Nat} {om : Nat} {tm : Nat → Nat} {oa : Nat} (hK : EV dC dI cI cL cJ s) (hZ : ST g1 g2 (fun q => s.heap.size ≤ q) s s.heap) (hX : XE (fun q => s.heap.size ≤ q) s s.heap)
    {n len : Nat} {tx : Nat → Int32} {sv : Nat → LO} {x : PS} {f : Nat → Int64} {A : RW} {i : Nat → Int32} {h : Int64} {H : Heap} {locs : List Loc} (hI : LI dC dI cI cL cJ (fun q => s.heap.size ≤ q) s.heap o sa ba a e0 t om tm oa n len tx sv x f A i h H locs) :
    G p l e room_1 s m #[Value.ref b] below meth c H locs 92 8073 (lw_Z below #[Value.ref b] s) [some (.ref b), some (.ref o), some (.ref om), some (.ref oa), some (.int (nI 0)), none, none, none, none] 23 [] := by
  obtain ⟨hx, hb, hr, hml, hown, hts, hXs, hbl, hlocks, hgv⟩ := id C0
  refine g_lpC (A2 := Nat × Nat × (Nat → Int32) × (Nat → LO) × PS × (Nat → Int64) × RW × (Nat → Int32) × Int64 × Nat) (fun u H locs => LI dC dI cI cL cJ (fun q => s.heap.size ≤ q) s.heap o sa ba a e0 t om tm oa u.1 u.2.1 u.2.2.1 u.2.2.2.1 u.2.2.2.2.1 u.2.2.2.2.2.1 u.2.2.2.2.2.2.1 u.2.2.2.2.2.2.2.1 u.2.2.2.2.2.2.2.2.1 H locs ∧ u.2.2.2.2.2.2.2.2.2 ≤ L) (fun u => L - u.2.2.2.2.2.2.2.2.2) (fun u => 92 + u.2.2.2.2.2.2.2.2.2) (fun u => 8073 + 6 * u.2.2.2.2.2.2.2.2.2) (fun u => [some (.ref b), some (.ref o), some (.ref om), some (.ref oa), some (.int (nI u.2.2.2.2.2.2.2.2.2)), none, none, none, none]) (n, len, tx, sv, x, f, A, i, h, 0) ⟨hI, Nat.zero_le _⟩ rfl rfl rfl ?_
  rintro ⟨n, len, tx, sv, x, f, A, i, h, ii⟩ H locs ⟨hI, hii⟩ ih
  try dsimp only at hI hii ih ⊢
  have hS := hI.2.2.2
  refine g_iload4 C dL_law_23 ?_
  refine g_aload0 C dL_law_25 ?_
  refine g_slen C hXs hbl (Nat.not_le.mpr hbl) hS dL_law_26 ?_
  refine g_iconst C (nI 4) (by decide) dL_law_27 ?_
  refine g_isub C dL_law_28 ?_
  refine g_icmp_gt C 1623 dL_law_29 (by decide) (fun h29 => ?_) (fun h29 => ?_)
  · refine g_iconst C (nI 1) (by decide) dL_law_1623 ?_
    intro ls hl
    exact va_forget hS.2.2 (W.widen (k := 601024) (n := 7293034) (by omega) (by omega) (lw_ret (d0 := s.drawn) (Drawn.sameBut.refl s.drawn lw_cs) hx hb hr hlocks dL_law_1624))
  · have h4 := sub4 hL hii h29
    have kk : ∀ (n len : Nat) (tx : Nat → Int32) (sv : Nat → LO) (x : PS) (f : Nat → Int64) (A : RW) (i : Nat → Int32) (h : Int64) (H : Heap) (locs : List Loc), LI dC dI cI cL cJ (fun q => s.heap.size ≤ q) s.heap o sa ba a e0 t om tm oa n len tx sv x f A i h H locs → G p l e room_1 s m #[Value.ref b] below meth c H locs (92 + (ii + 4)) (8073 + 6 * (ii + 4)) (lw_Z below #[Value.ref b] s) [some (.ref b), some (.ref o), some (.ref om), some (.ref oa), some (.int (nI ii)), none, none, none, none] 1617 [] := by
      intro n len tx sv x f A i h H locs hI2
      refine g_iinc4 C (nI (ii + 4)) rfl dL_law_1617 (nI_add ii 4) ?_
      refine g_goto C 23 dL_law_1620 (by decide) ?_
      exact ih (n, len, tx, sv, x, f, A, i, h, ii + 4) H locs ⟨hI2, h4⟩ (by show L - (ii + 4) < L - ii; omega)
    refine g_aload0 C dL_law_32 ?_
    refine g_iload4 C dL_law_33 ?_
    refine g_sld C hXs hbl (Nat.not_le.mpr hbl) hS (by omega) hL dL_law_35 ?_
    refine g_bipush C (nI 31) (by decide) dL_law_36 ?_
    refine g_iand C dL_law_38 ?_
    obtain ⟨k, hk, ek⟩ := and31 (xs ii)
    rw [ek]
    rcases (show k = 0 ∨ k = 1 ∨ k = 2 ∨ k = 3 ∨ k = 4 ∨ k = 5 ∨ k = 6 ∨ k = 7 ∨ k = 8 ∨ k = 9 ∨ k = 10 ∨ k = 11 ∨ k = 12 ∨ k = 13 ∨ k = 14 ∨ k = 15 ∨ k = 16 ∨ k = 17 ∨ k = 18 ∨ k = 19 ∨ k = 20 ∨ k = 21 ∨ k = 22 ∨ k = 23 ∨ k = 24 ∨ 25 ≤ k by omega) with rfl | rfl | rfl | rfl | rfl | rfl | rfl | rfl | rfl | rfl | rfl | rfl | rfl | rfl | rfl | rfl | rfl | rfl | rfl | rfl | rfl | rfl | rfl | rfl | rfl | hk9
    · refine g_tsI C 152 dL_law_39 (by decide) (by decide) rfl (by decide) ?_
      exact lw_c0 C hls hK hZ hX hXs hbl hL h4 hI kk
    · refine g_tsI C 220 dL_law_39 (by decide) (by decide) rfl (by decide) ?_
      exact lw_c1 C hls hK hZ hX hXs hbl hL h4 hI kk
    · refine g_tsI C 276 dL_law_39 (by decide) (by decide) rfl (by decide) ?_
      exact lw_c2 C hls hK hZ hX hXs hbl hL h4 hI kk
    · refine g_tsI C 360 dL_law_39 (by decide) (by decide) rfl (by decide) ?_
      exact lw_c3 C hls hK hZ hX hXs hbl hL h4 hI kk
    · refine g_tsI C 440 dL_law_39 (by decide) (by decide) rfl (by decide) ?_
      exact lw_c4 C hls hK hZ hX hXs hbl hL h4 hI kk
    · refine g_tsI C 520 dL_law_39 (by decide) (by decide) rfl (by decide) ?_
      exact lw_c5 C hls hK hZ hX hXs hbl hL h4 hI kk
    · refine g_tsI C 588 dL_law_39 (by decide) (by decide) rfl (by decide) ?_
      exact lw_c6 C hls hK hZ hX hXs hbl hL h4 hI kk
    · refine g_tsI C 644 dL_law_39 (by decide) (by decide) rfl (by decide) ?_
      exact lw_c7 C hls hK hZ hX hXs hbl hL h4 hI kk
    · refine g_tsI C 700 dL_law_39 (by decide) (by decide) rfl (by decide) ?_
      exact lw_c8 C hls hK hZ hX hXs hbl hL h4 hI kk
    · refine g_tsI C 713 dL_law_39 (by decide) (by decide) rfl (by decide) ?_
      exact lw_c9 C hls hK hZ hX hXs hbl hL h4 hI kk
    · refine g_tsI C 726 dL_law_39 (by decide) (by decide) rfl (by decide) ?_
      exact lw_c10 C hls hK hZ hX hXs hbl hL h4 hI kk
    · refine g_tsI C 770 dL_law_39 (by decide) (by decide) rfl (by decide) ?_
      exact lw_c11 C hls hK hZ hX hXs hbl hL h4 hI kk
    · refine g_tsI C 814 dL_law_39 (by decide) (by decide) rfl (by decide) ?_
      exact lw_c12 C hls hK hZ hX hXs hbl hL h4 hI kk
    · refine g_tsI C 882 dL_law_39 (by decide) (by decide) rfl (by decide) ?_
      exact lw_c13 C hls hK hZ hX hXs hbl hL h4 hI kk
    · refine g_tsI C 962 dL_law_39 (by decide) (by decide) rfl (by decide) ?_
      exact lw_c14 C hls hK hZ hX hXs hbl hL h4 hI kk
    · refine g_tsI C 1030 dL_law_39 (by decide) (by decide) rfl (by decide) ?_
      exact lw_c15 C hls hK hZ hX hXs hbl hL h4 hI kk
    · refine g_tsI C 1086 dL_law_39 (by decide) (by decide) rfl (by decide) ?_
      exact lw_c16 C hls hK hZ hX hXs hbl hL h4 hI kk
    · refine g_tsI C 1166 dL_law_39 (by decide) (by decide) rfl (by decide) ?_
      exact lw_c17 C hls hK hZ hX hXs hbl hL h4 hI kk
    · refine g_tsI C 1246 dL_law_39 (by decide) (by decide) rfl (by decide) ?_
      exact lw_c18 C hls hK hZ hX hXs hbl hL h4 hI kk
    · refine g_tsI C 1314 dL_law_39 (by decide) (by decide) rfl (by decide) ?_
      exact lw_c19 C hls hK hZ hX hXs hbl hL h4 hI kk
    · refine g_tsI C 1370 dL_law_39 (by decide) (by decide) rfl (by decide) ?_
      exact lw_c20 C hls hK hZ hX hXs hbl hL h4 hI kk
    · refine g_tsI C 1450 dL_law_39 (by decide) (by decide) rfl (by decide) ?_
      exact lw_c21 C hls hK hZ hX hXs hbl hL h4 hI kk
    · refine g_tsI C 1506 dL_law_39 (by decide) (by decide) rfl (by decide) ?_
      exact lw_c22 C hls hK hZ hX hXs hbl hL h4 hI kk
    · refine g_tsI C 1562 dL_law_39 (by decide) (by decide) rfl (by decide) ?_
      exact lw_c23 C hls hK hZ hX hXs hbl hL h4 hI kk
    · refine g_tsI C 1603 dL_law_39 (by decide) (by decide) rfl (by decide) ?_
      exact lw_c24 C hls hK hZ hX hXs hbl hL h4 hI kk
    · refine g_tsO C 1617 dL_law_39 (Or.inr (by rw [nI_toInt (by omega)]; omega)) (by decide) ?_
      refine g_wd (k := 92 + (ii + 4)) (n := 8073 + 6 * (ii + 4)) (by omega) (by omega) ?_
      exact kk _ _ _ _ _ _ _ _ _ _ _ hI
