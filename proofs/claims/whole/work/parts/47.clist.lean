theorem cr_s {tx : Nat → Nat} {k : Nat} {x x' : PS} {E : List QE} (h : q_rd tx k = some (x, E)) (h1 : q_take x (tx k) = some x') : q_rd tx (k + 1) = some (x', if x'.1 = 0 then E ++ [q_en x] else E) := by
  show (match q_rd tx k with | none => none | some (x, E) => (match q_take x (tx k) with | none => none | some x' => some (x', if x'.1 = 0 then E ++ [q_en x] else E))) = _
  rw [h]
  show (match q_take x (tx k) with | none => none | some x' => some (x', if x'.1 = 0 then E ++ [q_en x] else E)) = _
  rw [h1]
theorem cr_f {tx : Nat → Nat} {k : Nat} {x : PS} {E : List QE} (h : q_rd tx k = some (x, E)) (h1 : q_take x (tx k) = none) : q_rd tx (k + 1) = none := by
  show (match q_rd tx k with | none => none | some (x, E) => (match q_take x (tx k) with | none => none | some x' => some (x', if x'.1 = 0 then E ++ [q_en x] else E))) = _
  rw [h]
  show (match q_take x (tx k) with | none => none | some x' => some (x', if x'.1 = 0 then E ++ [q_en x] else E)) = _
  rw [h1]
theorem cr_ft {tx : Nat → Nat} : ∀ n, q_ft tx n ≤ n := by
  intro n
  induction n with
  | zero => exact Nat.le_refl _
  | succ n ih =>
    show (if (q_rd tx (n + 1)).isSome then n + 1 else q_ft tx n) ≤ n + 1
    split <;> omega
theorem cr_back {tx : Nat → Nat} : ∀ (n k : Nat) (x : PS) (E : List QE), q_rd tx n = some (x, E) → k ≤ n → ∃ x1 E1, q_rd tx k = some (x1, E1) ∧ E1 <+: E := by
  intro n
  induction n with
  | zero => intro k x E h hk
            obtain rfl : k = 0 := by omega
            exact ⟨x, E, h, List.prefix_refl _⟩
  | succ n ih =>
    intro k x E h hk
    by_cases e : k = n + 1
    · subst e; exact ⟨x, E, h, List.prefix_refl _⟩
    · cases h0 : q_rd tx n with
      | none => rw [q_rd_none h0 (n + 1) (by omega)] at h; cases h
      | some z =>
        obtain ⟨x0, E0⟩ := z
        cases h1 : q_take x0 (tx n) with
        | none => rw [cr_f h0 h1] at h; cases h
        | some x2 =>
          rw [cr_s h0 h1] at h
          obtain ⟨y1, F1, a, b⟩ := ih k x0 E0 h0 (by omega)
          refine ⟨y1, F1, a, b.trans ?_⟩
          cases h
          split
          · exact List.prefix_append _ _
          · exact List.prefix_refl _
theorem cr_59 {x x' : PS} {c : Nat} (hx : PSr x) (h : q_take x c = some x') : x'.1 = 0 ↔ c = 59 := by
  have hk := q_take_inv hx h
  obtain ⟨⟨h1, h2, h3, h4, h5⟩, p1, p2, p3, p4, p5⟩ := hx
  obtain ⟨st, rs, fm, pl, nm⟩ := x
  simp only at h1 h2 h3 h4 h5 p1 p2 p3 p4 p5
  rcases (show st = 0 ∨ st = 1 ∨ st = 2 ∨ st = 3 ∨ st = 4 by omega) with rfl | rfl | rfl | rfl | rfl
  · have h : q_tL (0, rs, fm, pl, nm) c = some x' := h
    unfold q_tL at h
    split at h
    · cases h; exact ⟨fun z => absurd z (Nat.succ_ne_zero _), fun z => by omega⟩
    · cases h
  · have h : q_tF (1, rs, fm, pl, nm) c = some x' := h
    unfold q_tF at h
    split at h
    · cases h; exact ⟨fun z => absurd z (Nat.succ_ne_zero _), fun z => by omega⟩
    · cases h
  · have h : q_tC (2, rs, fm, pl, nm) c = some x' := h
    unfold q_tC at h
    split at h
    · cases h; exact ⟨fun z => absurd z (Nat.succ_ne_zero _), fun z => by omega⟩
    · cases h
  · have h : q_tP (3, rs, fm, pl, nm) c = some x' := h
    unfold q_tP at h
    dsimp only at h
    split at h
    · rename_i hc
      cases h; exact ⟨fun z => absurd z (Nat.succ_ne_zero _), fun z => by omega⟩
    · split at h
      · cases h
      · rename_i hd
        split at h
        · cases h; exact ⟨fun z => absurd z (Nat.succ_ne_zero _), fun z => absurd (Or.inl (by omega)) hd⟩
        · cases h
  · have h : q_tN (4, rs, fm, pl, nm) c = some x' := h
    unfold q_tN at h
    dsimp only at h
    split at h
    · rename_i hc
      cases h; exact ⟨fun _ => hc.1, fun _ => rfl⟩
    · split at h
      · cases h
      · rename_i hd
        by_cases hl : 1 ≤ 10 * nm + c - 48 ∧ 10 * nm + c - 48 ≤ (if rs = 0 then 3 else 50)
        · rw [if_pos hl] at h
          cases h; exact ⟨fun z => absurd z (Nat.succ_ne_zero _), fun z => by omega⟩
        · rw [if_neg hl] at h
          cases h
/-- a complete list: what its reader holds after k + 1 codes -/
theorem cr_list {tx : Nat → Nat} {len : Nat} {L : List QE} (hw : q_whole tx len = some L) {k : Nat} (hk : k < len) : ∃ x E, q_rd tx (k + 1) = some (x, E) ∧ PSr x ∧
    ((k + 1 = len ∨ tx (k + 1) = 59) → x.1 = 4 ∧ 0 < x.2.2.2.2 ∧ L[E.length]? = some (q_en x) ∧ (k + 1 = len → L.length = E.length + 1) ∧ (k + 1 < len → ∃ x2 E2, q_rd tx (k + 2) = some (x2, E2) ∧ E2.length = E.length + 1)) ∧
    (k + 1 < len → tx (k + 1) ≠ 59 → ∃ x2 E2, q_rd tx (k + 2) = some (x2, E2) ∧ E2.length = E.length) := by
  unfold q_whole at hw
  split at hw
  · cases hw
  · rename_i xl El hl
    split at hw
    · rename_i hc
      cases hw
      obtain ⟨x, E, h1, hE⟩ := cr_back len (k + 1) xl El hl (by omega)
      have hr := (q_rd_ok (k + 1) x E h1).1
      refine ⟨x, E, h1, hr, fun hq => ?_, fun hlt hne => ?_⟩
      · by_cases hlt : k + 1 < len
        · have h59 : tx (k + 1) = 59 := by rcases hq with z | z; · omega
                                           · exact z
          obtain ⟨x2, E2, h2, hE2⟩ := cr_back len (k + 2) xl El hl (by omega)
          cases ht : q_take x (tx (k + 1)) with
          | none => rw [cr_f h1 ht] at h2; cases h2
          | some x3 =>
            have hs := cr_s h1 ht
            have h0 := (cr_59 hr ht).mpr h59
            rw [if_pos h0] at hs
            rw [hs] at h2
            cases h2
            rcases q_take_inv hr ht with ⟨b1, b2, b3, b4, b5⟩ | ⟨b1, b2, b3⟩
            · obtain ⟨W, hW⟩ := hE2
              refine ⟨b3, b4, ?_, fun z => by omega, fun _ => ⟨_, _, hs, by rw [List.length_append]; rfl⟩⟩
              rw [← hW, List.append_assoc, List.append_assoc, List.getElem?_append_right (Nat.le_refl _), Nat.sub_self]
              rfl
            · exact absurd h0 b1
        · have e : k + 1 = len := by omega
          rw [e] at h1
          rw [h1] at hl
          cases hl
          refine ⟨hc.1, hc.2, ?_, fun _ => by rw [List.length_append]; rfl, fun z => by omega⟩
          rw [List.getElem?_append_right (Nat.le_refl _), Nat.sub_self]
          rfl
      · obtain ⟨x2, E2, h2, hE2⟩ := cr_back len (k + 2) xl El hl (by omega)
        cases ht : q_take x (tx (k + 1)) with
        | none => rw [cr_f h1 ht] at h2; cases h2
        | some x3 =>
          have hs := cr_s h1 ht
          rw [if_neg (fun z => hne ((cr_59 hr ht).mp z))] at hs
          exact ⟨_, _, hs, rfl⟩
    · cases hw
theorem cr_0 {tx : Nat → Nat} {len : Nat} {L : List QE} (hw : q_whole tx len = some L) : 0 < len ∧ ∃ x E, q_rd tx 1 = some (x, E) ∧ E.length = 0 := by
  have h0 : 0 < len := by
    apply Nat.pos_of_ne_zero
    intro z
    subst z
    exact absurd hw (by unfold q_whole; intro h; cases h)
  refine ⟨h0, ?_⟩
  obtain ⟨x, E, h1, -, -, -⟩ := cr_list hw h0
  refine ⟨x, E, h1, ?_⟩
  have h9 := (q_rd_ok 1 x E h1).2.1
  omega
theorem cr_none {tx : Nat → Nat} {len : Nat} (h : q_ft tx len < len) : q_whole tx len = none := by
  unfold q_whole
  split
  · rfl
  · rename_i z1 z2 h1
    exact absurd (q_ft_some h1) (by omega)
theorem cr_no {tx : Nat → Nat} {len : Nat} {x : PS} {E : List QE} (h : q_rd tx len = some (x, E)) (hc : ¬ (x.1 = 4 ∧ 0 < x.2.2.2.2)) : q_whole tx len = none := by
  unfold q_whole
  rw [h]
  exact if_neg hc
theorem cr_yes {tx : Nat → Nat} {len : Nat} {x : PS} {E : List QE} (h : q_rd tx len = some (x, E)) (hc : x.1 = 4 ∧ 0 < x.2.2.2.2) : q_whole tx len = some (E ++ [q_en x]) := by
  unfold q_whole
  rw [h]
  exact if_pos hc
def k_ld (tx : Nat → Nat) (len : Nat) : Nat := if (q_whole tx len).isSome then 0 else 1

set_option maxHeartbeats 4000000 in
set_option maxRecDepth 100000 in
theorem c_X2_errorIndex {l : Launch} {dC : Nat → ClassId} {dI : Nat → Nat → Nat} {cI cL cJ : ClassId} {g1 g2 : Nat} {A : Nat → Prop} {o sa ba a e : Nat} {t : Nat → Nat} {n len : Nat} {tx : Nat → Int32} {y : Int32} {d : RW} {x : PS} {sv : Nat → LO} {tn : Nat → Nat} (hl : len ≤ 60) (htx : ∀ j, j < len → tx j = nI (tn j) ∧ 33 ≤ tn j ∧ tn j ≤ 126)  : Met l yX2_errorIndex (.code yX2_errorIndex cX2_errorIndex 2 (some .int) :: WG) (rmL 4) (va_Pc [.ref o] (BDM dC dI cI cL cJ g1 g2 A o sa ba a e t n len tx y d (q_rw d 0) x sv)) (bq_M (some (.int (nI (q_ft tn len)))) (fun H => ∃ x' : PS, PSok x' ∧ (q_ft tn len = len → ∃ E, q_rd tn len = some (x', E)) ∧ BP dC dI cI cL A o sa ba a e t n len tx y d (q_rw d 0) x' sv H) A) 0 0 (A) := by
  refine bq_of [some (.ref o), none] rfl rfl (Nat.le_of_ble_eq_true rfl) (by decide) ?_
  intro P_ E_ s M_ B_ T_ K_ C hv
  obtain ⟨st, rs, fm, pl, nm⟩ := x
  obtain ⟨hP, hD, hK, hZ, hX⟩ := hv
  have hS : va_S A s.heap s.heap [] := va_S.rf
  refine g_aload0 C dX2_errorIndex_0 ?_
  refine g_get (ci := 2) (T := TX2) (N := 6) C inX2 hK hP 0 rfl rfl 5 (by decide) wf_X2_34 ⟨rfl, rfl, rfl⟩ rfl dX2_errorIndex_1 ?_
  refine g_mV (As := []) C 0 rfl (c_X0_startEntry) wl_X2_224 wi_X0_startEntry wv_X0_startEntry wn_X0 wc_X0_startEntry (by decide +kernel) ⟨rfl, rfl, by decide, by decide⟩ XDM_bl (va_recv (ci := 0) (q0 := 0) hK (P_x hP) rfl rfl) (XDM_at hK (P_x hP) (D_x hD)) rfl rfl (by simp [Value.category]) ⟨by decide, by decide⟩ hS (A_x hD) dX2_errorIndex_4 (fun H locs hP1 _ hk1 hS => ?_)
  obtain ⟨hP, hD⟩ := PD_x hP hD hP1 hk1
  refine g_iconst C (nI 0) (by decide) dX2_errorIndex_7 ?_
  refine g_istore1 C rfl dX2_errorIndex_8 ?_
  refine g_lpH (A1 := PS × List QE × Nat) (fun u H locs => q_rd tn u.2.2 = some (u.1, u.2.1) ∧ u.2.2 ≤ len ∧ va_P (dC, dI) vwCl (BW cI cL o sa ba a e t n len (svg sv) tx y d (q_rw d 0) u.1 sv) H ∧ va_D A (BW cI cL o sa ba a e t n len (svg sv) tx y d (q_rw d 0) u.1 sv) ∧ va_S A s.heap H locs) (fun u => len - u.2.2) (fun u => [some (.ref o), some (.int (nI u.2.2))]) ((0, 0, 0, none, 0), [], 0) ⟨rfl, Nat.zero_le _, hP, hD, hS⟩ rfl ?_
  rintro ⟨⟨st, rs, fm, pl, nm⟩, E, k⟩ H locs ⟨hrd, hk, hP, hD, hS⟩ ih
  try dsimp only at hrd hk hP hD hS ih ⊢
  have hx9 : PSok (st, rs, fm, pl, nm) := (q_rd_ok k _ E hrd).1.1
  refine g_iload1 C dX2_errorIndex_9 ?_
  refine g_aload0 C dX2_errorIndex_10 ?_
  refine g_get (ci := 2) (T := TX2) (N := 6) C inX2 hK hP 0 rfl rfl 4 (by decide) wf_X2_28 ⟨rfl, rfl, rfl⟩ rfl dX2_errorIndex_11 ?_
  refine g_icmp_geN C (by omega) (by omega) 47 dX2_errorIndex_14 (by decide) (fun h14 => ?_) (fun h14 => ?_)
  · refine g_aload0 C dX2_errorIndex_47 ?_
    refine g_get (ci := 2) (T := TX2) (N := 6) C inX2 hK hP 0 rfl rfl 4 (by decide) wf_X2_28 ⟨rfl, rfl, rfl⟩ rfl dX2_errorIndex_48 ?_
    have e9 : k = len := by omega
    rw [e9] at hrd
    rw [q_ft_some hrd]
    exact g_iretM C ⟨(st, rs, fm, pl, nm), hx9, fun _ => ⟨E, hrd⟩, hP, hD⟩ hS rfl dX2_errorIndex_51
  · refine g_iload1 C dX2_errorIndex_17 ?_
    refine g_bipush C (nI 60) (by decide) dX2_errorIndex_18 ?_
    refine g_icmp_geN C (by omega) (by omega) 47 dX2_errorIndex_20 (by decide) (fun h20 => ?_) (fun h20 => ?_)
    · omega
    · refine g_aload0 C dX2_errorIndex_23 ?_
      refine g_get (ci := 2) (T := TX2) (N := 6) C inX2 hK hP 0 rfl rfl 5 (by decide) wf_X2_34 ⟨rfl, rfl, rfl⟩ rfl dX2_errorIndex_24 ?_
      refine g_aload0 C dX2_errorIndex_27 ?_
      refine g_get (ci := 2) (T := TX2) (N := 6) C inX2 hK hP 0 rfl rfl 3 (by decide) wf_X2_24 ⟨rfl, rfl, rfl⟩ rfl dX2_errorIndex_28 ?_
      refine g_iload1 C dX2_errorIndex_31 ?_
      refine g_iald C hK hP 2 0 rfl rfl (by omega) (by decide) dX2_errorIndex_32 ?_
      obtain ⟨ht1, ht2, ht3⟩ := htx k (by omega)
      rw [ht1]
      refine g_mV (As := [.int (nI (tn k))]) C 1 rfl (c_X0_take hx9 (by omega)) wl_X2_227 wi_X0_take wv_X0_take wn_X0 wc_X0_take (by decide +kernel) ⟨rfl, rfl, by decide, by decide⟩ XDM_bl (va_recv (ci := 0) (q0 := 0) hK (P_x hP) rfl rfl) (XDM_at hK (P_x hP) (D_x hD)) rfl rfl (by simp [Value.category]) ⟨by decide, by decide⟩ hS (A_x hD) dX2_errorIndex_33 (fun H locs hP1 _ hk1 hS => ?_)
      obtain ⟨hP, hD⟩ := PD_x hP hD hP1 hk1
      refine g_if_neB C 41 dX2_errorIndex_36 (by decide) (fun h36 => ?_) (fun h36 => ?_)
      · refine g_iinc1 C _ rfl dX2_errorIndex_41 (nI_1 _) ?_
        refine g_goto C 9 dX2_errorIndex_44 (by decide) ?_
        obtain ⟨x2, hx2⟩ := Option.isSome_iff_exists.mp h36
        rw [hx2] at hP hD
        exact ih (x2, (if x2.1 = 0 then E ++ [q_en (st, rs, fm, pl, nm)] else E), k + 1) H locs ⟨cr_s hrd hx2, by show k + 1 ≤ len; omega, hP, hD, hS⟩ (by show len - (k + 1) < len - k; omega)
      · have hn2 := Option.not_isSome_iff_eq_none.mp h36
        rw [hn2] at hP hD
        have hv : q_ft tn len = k := q_ft_none hrd (cr_f hrd hn2) len hk
        rw [hv]
        refine g_iload1 C dX2_errorIndex_39 ?_
        exact g_iretM C ⟨(st, rs, fm, pl, nm), hx9, fun z => absurd z (by omega), hP, hD⟩ hS rfl dX2_errorIndex_40

set_option maxHeartbeats 4000000 in
set_option maxRecDepth 100000 in
theorem c_X2_firstError {l : Launch} {dC : Nat → ClassId} {dI : Nat → Nat → Nat} {cI cL cJ : ClassId} {g1 g2 : Nat} {A : Nat → Prop} {o sa ba a e : Nat} {t : Nat → Nat} {n len : Nat} {tx : Nat → Int32} {y : Int32} {d : RW} {x : PS} {sv : Nat → LO} {tn : Nat → Nat} (hl : len ≤ 60) (htx : ∀ j, j < len → tx j = nI (tn j) ∧ 33 ≤ tn j ∧ tn j ≤ 126)  : Met l yX2_firstError (.code yX2_firstError cX2_firstError 1 (some .int) :: WG) (rmL 5) (va_Pc [.ref o] (BDM dC dI cI cL cJ g1 g2 A o sa ba a e t n len tx y d (q_rw d 0) x sv)) (bq_M (some (.int (nI (q_ft tn len)))) (fun H => ∃ x' : PS, PSok x' ∧ (q_ft tn len = len → ∃ E, q_rd tn len = some (x', E)) ∧ BP dC dI cI cL A o sa ba a e t n len tx y d (q_rw d 0) x' sv H) A) 0 0 (A) := by
  refine bq_of [some (.ref o)] rfl rfl (Nat.le_of_ble_eq_true rfl) (by decide) ?_
  intro P_ E_ s M_ B_ T_ K_ C hv
  obtain ⟨hP, hD, hK, hZ, hX⟩ := hv
  have hS : va_S A s.heap s.heap [] := va_S.rf
  refine g_aload0 C dX2_firstError_0 ?_
  refine g_mV (As := []) C 0 rfl ((c_X2_errorIndex hl htx)) wl_X2_130 wi_X2_errorIndex wv_X2_errorIndex wn_X2 wc_X2_errorIndex (by decide +kernel) ⟨rfl, rfl, by decide, by decide⟩ BDM_bl (va_recv (ci := 2) (q0 := 0) hK hP rfl rfl) (BDM_at hK hP hD hZ hX hS (fun _ h => h)) rfl rfl (by simp [Value.category]) ⟨by decide, by decide⟩ hS (fun _ h => h) dX2_firstError_1 (fun H locs hP1 _ _ hS => ?_)
  have hP9 := hP1
  exact g_iretM C hP9 hS rfl dX2_firstError_4

set_option maxHeartbeats 4000000 in
set_option maxRecDepth 100000 in
theorem c_X2_carryOutEntry {l : Launch} {dC : Nat → ClassId} {dI : Nat → Nat → Nat} {cI cL cJ : ClassId} {g1 g2 : Nat} {A : Nat → Prop} {o sa ba a e : Nat} {t : Nat → Nat} {n len : Nat} {tx : Nat → Int32} {y : Int32} {d : RW} {sv : Nat → LO} {rs fm w nm : Nat} (hx1 : rs ≤ 1) (hx2 : fm ≤ 9) (hx3 : w < 40) (hx4 : 1 ≤ nm) (hx5 : nm ≤ 50) (hx6 : rs = 0 → nm ≤ 3) (hki : INV d)  : Met l yX2_carryOutEntry (.code yX2_carryOutEntry cX2_carryOutEntry 1 (some .boolean) :: WG) (rmL 4) (va_Pc [.ref o] (BDM dC dI cI cL cJ g1 g2 A o sa ba a e t n len tx y d (q_rw d 0) (4, rs, fm, some w, nm) sv)) (bq_M (some (.int (bI ((q_ldE d y (rs, fm, w, nm)).isSome = true)))) (BP dC dI cI cL A o sa ba a e t n len tx y ((q_ldE d y (rs, fm, w, nm)).getD d) (q_rw ((q_ldE d y (rs, fm, w, nm)).getD d) 0) (4, rs, fm, some w, nm) sv) A) 0 0 (A) := by
  refine bq_of [some (.ref o)] rfl rfl (Nat.le_of_ble_eq_true rfl) (by decide) ?_
  intro P_ E_ s M_ B_ T_ K_ C hv
  obtain ⟨hP, hD, hK, hZ, hX⟩ := hv
  have hS : va_S A s.heap s.heap [] := va_S.rf
  refine g_aload0 C dX2_carryOutEntry_0 ?_
  refine g_get (ci := 2) (T := TX2) (N := 6) C inX2 hK hP 0 rfl rfl 5 (by decide) wf_X2_34 ⟨rfl, rfl, rfl⟩ rfl dX2_carryOutEntry_1 ?_
  refine g_get (ci := 0) (T := TX0) (N := 5) C inX0 hK hP 14 rfl rfl 1 (by decide) wf_X2_233 ⟨rfl, rfl, rfl⟩ rfl dX2_carryOutEntry_4 ?_
  try dsimp only [oN]
  refine g_if_eqN C (by omega) 67 dX2_carryOutEntry_7 (by decide) (fun h7 => ?_) (fun h7 => ?_)
  · have hx7 := hx6 h7
    refine g_aload0 C dX2_carryOutEntry_67 ?_
    refine g_get (ci := 2) (T := TX2) (N := 6) C inX2 hK hP 0 rfl rfl 0 (by decide) wf_X2_10 ⟨rfl, rfl, rfl⟩ rfl dX2_carryOutEntry_68 ?_
    refine g_aload0 C dX2_carryOutEntry_71 ?_
    refine g_get (ci := 2) (T := TX2) (N := 6) C inX2 hK hP 0 rfl rfl 5 (by decide) wf_X2_34 ⟨rfl, rfl, rfl⟩ rfl dX2_carryOutEntry_72 ?_
    refine g_get (ci := 0) (T := TX0) (N := 5) C inX0 hK hP 14 rfl rfl 2 (by decide) wf_X2_237 ⟨rfl, rfl, rfl⟩ rfl dX2_carryOutEntry_75 ?_
    try dsimp only [oN]
    refine g_aload0 C dX2_carryOutEntry_78 ?_
    refine g_get (ci := 2) (T := TX2) (N := 6) C inX2 hK hP 0 rfl rfl 5 (by decide) wf_X2_34 ⟨rfl, rfl, rfl⟩ rfl dX2_carryOutEntry_79 ?_
    refine g_get (ci := 0) (T := TX0) (N := 5) C inX0 hK hP 14 rfl rfl 3 (by decide) wf_X2_240 ⟨rfl, rfl, rfl⟩ rfl dX2_carryOutEntry_82 ?_
    try dsimp only [oN]
    refine g_aload0 C dX2_carryOutEntry_85 ?_
    refine g_get (ci := 2) (T := TX2) (N := 6) C inX2 hK hP 0 rfl rfl 5 (by decide) wf_X2_34 ⟨rfl, rfl, rfl⟩ rfl dX2_carryOutEntry_86 ?_
    refine g_get (ci := 0) (T := TX0) (N := 5) C inX0 hK hP 14 rfl rfl 4 (by decide) wf_X2_243 ⟨rfl, rfl, rfl⟩ rfl dX2_carryOutEntry_89 ?_
    try dsimp only [oN]
    refine g_aload0 C dX2_carryOutEntry_92 ?_
    refine g_get (ci := 2) (T := TX2) (N := 6) C inX2 hK hP 0 rfl rfl 0 (by decide) wf_X2_10 ⟨rfl, rfl, rfl⟩ rfl dX2_carryOutEntry_93 ?_
    refine g_get (ci := 1) (T := TX1) (N := 12) C inX1 hK hP 3 rfl rfl 0 (by decide) wf_X2_72 ⟨rfl, rfl, rfl⟩ rfl dX2_carryOutEntry_96 ?_
    refine g_lcV4 C hK (P_n hP) hZ hS (c_X1_refusal (by omega) (by omega) hki) wl_X2_90 wi_X1_refusal wv_X1_refusal wc_X1_refusal (by decide +kernel) ⟨rfl, rfl, by decide, by decide⟩ rfl (by simp [Value.category]) ⟨by decide, by decide⟩ dX2_carryOutEntry_99 ?_
    refine g_top (q_ref_rc (q_rb_rc d (by omega))) ?_
    refine g_if_eq C 107 dX2_carryOutEntry_102 (by decide) (fun h102 => ?_) (fun h102 => ?_)
    · refine g_aload0 C dX2_carryOutEntry_107 ?_
      refine g_get (ci := 2) (T := TX2) (N := 6) C inX2 hK hP 0 rfl rfl 0 (by decide) wf_X2_10 ⟨rfl, rfl, rfl⟩ rfl dX2_carryOutEntry_108 ?_
      refine g_aload0 C dX2_carryOutEntry_111 ?_
      refine g_get (ci := 2) (T := TX2) (N := 6) C inX2 hK hP 0 rfl rfl 5 (by decide) wf_X2_34 ⟨rfl, rfl, rfl⟩ rfl dX2_carryOutEntry_112 ?_
      refine g_get (ci := 0) (T := TX0) (N := 5) C inX0 hK hP 14 rfl rfl 2 (by decide) wf_X2_237 ⟨rfl, rfl, rfl⟩ rfl dX2_carryOutEntry_115 ?_
      try dsimp only [oN]
      refine g_aload0 C dX2_carryOutEntry_118 ?_
      refine g_get (ci := 2) (T := TX2) (N := 6) C inX2 hK hP 0 rfl rfl 5 (by decide) wf_X2_34 ⟨rfl, rfl, rfl⟩ rfl dX2_carryOutEntry_119 ?_
      refine g_get (ci := 0) (T := TX0) (N := 5) C inX0 hK hP 14 rfl rfl 3 (by decide) wf_X2_240 ⟨rfl, rfl, rfl⟩ rfl dX2_carryOutEntry_122 ?_
      try dsimp only [oN]
      refine g_aload0 C dX2_carryOutEntry_125 ?_
      refine g_get (ci := 2) (T := TX2) (N := 6) C inX2 hK hP 0 rfl rfl 5 (by decide) wf_X2_34 ⟨rfl, rfl, rfl⟩ rfl dX2_carryOutEntry_126 ?_
      refine g_get (ci := 0) (T := TX0) (N := 5) C inX0 hK hP 14 rfl rfl 4 (by decide) wf_X2_243 ⟨rfl, rfl, rfl⟩ rfl dX2_carryOutEntry_129 ?_
      try dsimp only [oN]
      refine g_mV (As := [.int (nI fm), .int (nI w), .int (nI nm)]) C 3 rfl (c_X1_addBurial (by omega) (by omega) (by omega) (by omega)) wl_X2_96 wi_X1_addBurial wv_X1_addBurial wn_X1 wc_X1_addBurial (by decide +kernel) ⟨rfl, rfl, by decide, by decide⟩ LDM_bl (va_recv (ci := 1) (q0 := 0) hK (P_n hP) rfl rfl) (LDM_at hK (P_n hP) (D_n hD) hZ hS (A_n hD)) rfl rfl (by simp [Value.category]) ⟨by decide, by decide⟩ hS (A_n hD) dX2_carryOutEntry_132 (fun H locs hP1 _ hk1 hS => ?_)
      obtain ⟨hP, hD⟩ := PD_n hP hD hP1 hk1
      refine g_pop C rfl dX2_carryOutEntry_135 ?_
      refine g_iconst C (nI 1) (by decide) dX2_carryOutEntry_136 ?_
      have hq : q_ldE d y (rs, fm, w, nm) = some (q_addB d y fm w nm) := by subst h7; rw [q_ldE_b]; exact if_pos h102
      rw [hq]
      exact g_zretM C ⟨hP, hD⟩ hS (bI_t rfl) dX2_carryOutEntry_137
    · refine g_iconst C (nI 0) (by decide) dX2_carryOutEntry_105 ?_
      have hq : q_ldE d y (rs, fm, w, nm) = none := by subst h7; rw [q_ldE_b]; exact if_neg h102
      rw [hq]
      exact g_zretM C ⟨hP, hD⟩ hS (bI_f (by simp)) dX2_carryOutEntry_106
  · refine g_aload0 C dX2_carryOutEntry_10 ?_
    refine g_get (ci := 2) (T := TX2) (N := 6) C inX2 hK hP 0 rfl rfl 0 (by decide) wf_X2_10 ⟨rfl, rfl, rfl⟩ rfl dX2_carryOutEntry_11 ?_
    refine g_aload0 C dX2_carryOutEntry_14 ?_
    refine g_get (ci := 2) (T := TX2) (N := 6) C inX2 hK hP 0 rfl rfl 5 (by decide) wf_X2_34 ⟨rfl, rfl, rfl⟩ rfl dX2_carryOutEntry_15 ?_
    refine g_get (ci := 0) (T := TX0) (N := 5) C inX0 hK hP 14 rfl rfl 2 (by decide) wf_X2_237 ⟨rfl, rfl, rfl⟩ rfl dX2_carryOutEntry_18 ?_
    try dsimp only [oN]
    refine g_aload0 C dX2_carryOutEntry_21 ?_
    refine g_get (ci := 2) (T := TX2) (N := 6) C inX2 hK hP 0 rfl rfl 5 (by decide) wf_X2_34 ⟨rfl, rfl, rfl⟩ rfl dX2_carryOutEntry_22 ?_
    refine g_get (ci := 0) (T := TX0) (N := 5) C inX0 hK hP 14 rfl rfl 3 (by decide) wf_X2_240 ⟨rfl, rfl, rfl⟩ rfl dX2_carryOutEntry_25 ?_
    try dsimp only [oN]
    refine g_lcV2 C hK (P_n hP) hZ hS (c_X1_mayReserve (by omega) (by omega) hki) wl_X2_100 wi_X1_mayReserve wv_X1_mayReserve wc_X1_mayReserve (by decide +kernel) ⟨rfl, rfl, by decide, by decide⟩ rfl (by simp [Value.category]) ⟨by decide, by decide⟩ dX2_carryOutEntry_28 ?_
    refine g_if_neB C 36 dX2_carryOutEntry_31 (by decide) (fun h31 => ?_) (fun h31 => ?_)
    · refine g_aload0 C dX2_carryOutEntry_36 ?_
      refine g_get (ci := 2) (T := TX2) (N := 6) C inX2 hK hP 0 rfl rfl 0 (by decide) wf_X2_10 ⟨rfl, rfl, rfl⟩ rfl dX2_carryOutEntry_37 ?_
      refine g_aload0 C dX2_carryOutEntry_40 ?_
      refine g_get (ci := 2) (T := TX2) (N := 6) C inX2 hK hP 0 rfl rfl 5 (by decide) wf_X2_34 ⟨rfl, rfl, rfl⟩ rfl dX2_carryOutEntry_41 ?_
      refine g_get (ci := 0) (T := TX0) (N := 5) C inX0 hK hP 14 rfl rfl 2 (by decide) wf_X2_237 ⟨rfl, rfl, rfl⟩ rfl dX2_carryOutEntry_44 ?_
      try dsimp only [oN]
      refine g_aload0 C dX2_carryOutEntry_47 ?_
      refine g_get (ci := 2) (T := TX2) (N := 6) C inX2 hK hP 0 rfl rfl 5 (by decide) wf_X2_34 ⟨rfl, rfl, rfl⟩ rfl dX2_carryOutEntry_48 ?_
      refine g_get (ci := 0) (T := TX0) (N := 5) C inX0 hK hP 14 rfl rfl 3 (by decide) wf_X2_240 ⟨rfl, rfl, rfl⟩ rfl dX2_carryOutEntry_51 ?_
      try dsimp only [oN]
      refine g_aload0 C dX2_carryOutEntry_54 ?_
      refine g_get (ci := 2) (T := TX2) (N := 6) C inX2 hK hP 0 rfl rfl 5 (by decide) wf_X2_34 ⟨rfl, rfl, rfl⟩ rfl dX2_carryOutEntry_55 ?_
      refine g_get (ci := 0) (T := TX0) (N := 5) C inX0 hK hP 14 rfl rfl 4 (by decide) wf_X2_243 ⟨rfl, rfl, rfl⟩ rfl dX2_carryOutEntry_58 ?_
      try dsimp only [oN]
      refine g_mV (As := [.int (nI fm), .int (nI w), .int (nI nm)]) C 3 rfl (c_X1_addReservation (by omega) (by omega)) wl_X2_106 wi_X1_addReservation wv_X1_addReservation wn_X1 wc_X1_addReservation (by decide +kernel) ⟨rfl, rfl, by decide, by decide⟩ LDM_bl (va_recv (ci := 1) (q0 := 0) hK (P_n hP) rfl rfl) (LDM_at hK (P_n hP) (D_n hD) hZ hS (A_n hD)) rfl rfl (by simp [Value.category]) ⟨by decide, by decide⟩ hS (A_n hD) dX2_carryOutEntry_61 (fun H locs hP1 _ hk1 hS => ?_)
      obtain ⟨hP, hD⟩ := PD_n hP hD hP1 hk1
      have e9 : q_rw (q_addR d y fm w nm) 0 = q_rw d 0 := rw_addR
      rw [← e9] at hP hD
      refine g_pop C rfl dX2_carryOutEntry_64 ?_
      refine g_iconst C (nI 1) (by decide) dX2_carryOutEntry_65 ?_
      have hq : q_ldE d y (rs, fm, w, nm) = some (q_addR d y fm w nm) := by rw [q_ldE_r h7]; exact if_pos h31
      rw [hq]
      exact g_zretM C ⟨hP, hD⟩ hS (bI_t rfl) dX2_carryOutEntry_66
    · refine g_iconst C (nI 0) (by decide) dX2_carryOutEntry_34 ?_
      have hq : q_ldE d y (rs, fm, w, nm) = none := by rw [q_ldE_r h7]; exact if_neg h31
      rw [hq]
      exact g_zretM C ⟨hP, hD⟩ hS (bI_f (by simp)) dX2_carryOutEntry_35
