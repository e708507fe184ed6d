theorem P_kept {D : va_G} {cl : List vw_C} {ws : va_W} {H H1 : Heap} (hP : va_P D cl ws H) (hk : ∀ q : Nat, q < H.size → H1[q]? = H[q]?) : va_P D cl ws H1 := va_P_mem.mpr (fun q hq => by
  have h := va_P_mem.mp hP q hq
  exact h.kept (hk q.1 h.lt))
theorem LD2_at {dC : Nat → ClassId} {dI : Nat → Nat → Nat} {cI cL cJ : ClassId} {s : State} {H : Heap} {a : Nat} {t : Nat → Nat} {y : Int32} {d : RW} {r : Int64} {a2 : Nat} {t2 : Nat → Nat} {y2 : Int32} {d2 : RW} {r2 : Int64} (hK : EV dC dI cI cL cJ s) (hP : va_P (dC, dI) vwCl (LW cI a t y d r ++ LW cI a2 t2 y2 d2 r2) H) (hD : va_D (fun q => q ∈ LA a t ++ LA a2 t2) (LW cI a t y d r ++ LW cI a2 t2 y2 d2 r2)) : ∀ U : State, U.heap = H → s.WarmedH U.vm → LD2 dC dI cI cL cJ a t y d r a2 t2 y2 d2 r2 U := by
  intro U hU hW
  subst hU
  exact ⟨hP, hD, va_K.moved hW.alike hK⟩
theorem BW_mem (cI cL : ClassId) (o sa ba a e n len : Nat) (t : Nat → Nat) (g : Nat → Option Nat) (tx : Nat → Int32) (y : Int32) (d : RW) (r : Int64) (x : PS) (sv : Nat → LO) {k : Nat} (hk : k < 6) : ∃ fs : List Value, ((sv k).1, .inr (1, fs)) ∈ BW cI cL o sa ba a e t n len g tx y d r x sv := by
  obtain ⟨u, w, h⟩ := SW_split cI sv hk
  have h1 := h (sv k)
  rw [sv_set_self] at h1
  refine ⟨_, List.mem_append_right _ (List.mem_append_right _ (List.mem_append_right _ (h1.mem_iff.mpr (List.mem_append_left _ List.mem_cons_self))))⟩
theorem q_bur_cong {d d' : RW} (h : d' 7 = d 7) (p : Nat) : q_bur d' p = q_bur d p := by unfold q_bur; rw [h]
theorem rw_cong3 {d d' : RW} (h3 : d' 3 = d 3) (h7 : d' 7 = d 7) (blk : Int64) : q_rw d' blk = q_rw d blk := q_rw_cong (fun q _ => by rw [h3, q_bur_cong h7]) blk
theorem rw_addR {d : RW} {y : Int32} {f p n : Nat} : q_rw (q_addR d y f p n) 0 = q_rw d 0 := by
  unfold q_addR q_chg
  exact rw_cong3 (by rw [q_up_ne _ (by decide), q_up_ne _ (by decide), q_up_ne _ (by decide)]) (by rw [q_up_ne _ (by decide), q_up_ne _ (by decide), q_up_ne _ (by decide)]) 0
theorem rw_addV {d : RW} {f p : Nat} : q_rw (q_addV d f p) 0 = q_rw d 0 := by
  unfold q_addV q_chg
  exact rw_cong3 (by rw [q_up_ne _ (by decide), q_up_ne _ (by decide), q_up_ne _ (by decide), q_up_ne _ (by decide)]) (by rw [q_up_ne _ (by decide), q_up_ne _ (by decide), q_up_ne _ (by decide), q_up_ne _ (by decide)]) 0
theorem rw_par {d : RW} {f : Nat} {v : Int32} : q_rw (q_up d 0 f v) 0 = q_rw d 0 := rw_cong3 (by rw [q_up_ne _ (by decide)]) (by rw [q_up_ne _ (by decide)]) 0
theorem rw_kind {d : RW} {p : Nat} {v : Int32} (h : q_bur d p = 0) : q_rw (q_up d 3 p v) 0 = q_rw d 0 := q_rw_cong (fun q _ => by
  rw [q_bur_cong (q_up_ne _ (by decide) _ _), q_up_at]
  by_cases e : q = p
  · subst e; exact ⟨fun _ => Or.inr h, fun _ => Or.inr h⟩
  · rw [upd_ne e]) 0

set_option maxHeartbeats 4000000 in
set_option maxRecDepth 100000 in
theorem c_X2_dropOldest {l : Launch} {dC : Nat → ClassId} {dI : Nat → Nat → Nat} {cI cL cJ : ClassId} {g1 g2 : Nat} {A : Nat → Prop} {o sa ba a e : Nat} {t : Nat → Nat} {n len : Nat} {tx : Nat → Int32} {y : Int32} {d : RW} {x : PS} {sv : Nat → LO}  : Met l yX2_dropOldest (.code yX2_dropOldest cX2_dropOldest 3 none :: WG) (rmL 0) (va_Pc [.ref o] (BDM dC dI cI cL cJ g1 g2 A o sa ba a e t n len tx y d (q_rw d 0) x sv)) (bq_M (none) (BP dC dI cI cL A o sa ba a e t 5 len tx y d (q_rw d 0) x (sv_rot sv)) A) 0 0 (A) := by
  refine bq_of [some (.ref o), none, none] rfl rfl (Nat.le_of_ble_eq_true rfl) (by decide) ?_
  intro P_ E_ s M_ B_ T_ K_ C hv
  obtain ⟨hP, hD, hK, hZ, hX⟩ := hv
  have hS : va_S A s.heap s.heap [] := va_S.rf
  refine g_aload0 C dX2_dropOldest_0 ?_
  refine g_get (ci := 2) (T := TX2) (N := 6) C inX2 hK hP 0 rfl rfl 1 (by decide) wf_X2_16 ⟨rfl, rfl, rfl⟩ rfl dX2_dropOldest_1 ?_
  refine g_iconst C (nI 0) (by decide) dX2_dropOldest_4 ?_
  refine g_aldq C hK hP 1 rfl (by decide) (by decide) (v := (sv 0).1) rfl dX2_dropOldest_5 ?_
  refine g_astore1 C rfl dX2_dropOldest_6 ?_
  refine g_iconst C (nI 1) (by decide) dX2_dropOldest_7 ?_
  refine g_istore2 C rfl dX2_dropOldest_8 ?_
  have hP : va_P (dC, dI) vwCl (BW cI cL o sa ba a e t n len (fun j => if j + 1 < 1 then some (sv (j + 1)).1 else some (sv j).1) tx y d (q_rw d 0) x sv) s.heap := BW_g (fun j hj => (if_neg (by omega)).symm) hP
  have hD : va_D A (BW cI cL o sa ba a e t n len (fun j => if j + 1 < 1 then some (sv (j + 1)).1 else some (sv j).1) tx y d (q_rw d 0) x sv) := hD.fst rfl
  refine g_lpH (A1 := Nat) (fun i H locs => 1 ≤ i ∧ i ≤ 6 ∧ va_P (dC, dI) vwCl (BW cI cL o sa ba a e t n len (fun j => if j + 1 < i then some (sv (j + 1)).1 else some (sv j).1) tx y d (q_rw d 0) x sv) H ∧ va_D A (BW cI cL o sa ba a e t n len (fun j => if j + 1 < i then some (sv (j + 1)).1 else some (sv j).1) tx y d (q_rw d 0) x sv) ∧ va_S A s.heap H locs) (fun i => 6 - i) (fun i => [some (.ref o), some (.ref (sv 0).1), some (.int (nI i))]) 1 ⟨by decide, by decide, hP, hD, hS⟩ rfl ?_
  rintro i H locs ⟨hi1, hi6, hP, hD, hS⟩ ih
  try dsimp only at ih ⊢
  refine g_iload2 C dX2_dropOldest_9 ?_
  refine g_bipush C (nI 6) (by decide) dX2_dropOldest_10 ?_
  refine g_icmp_geN C (by omega) (by omega) 35 dX2_dropOldest_12 (by decide) (fun h12 => ?_) (fun h12 => ?_)
  · obtain rfl : i = 6 := by omega
    refine g_aload0 C dX2_dropOldest_35 ?_
    refine g_get (ci := 2) (T := TX2) (N := 6) C inX2 hK hP 0 rfl rfl 1 (by decide) wf_X2_16 ⟨rfl, rfl, rfl⟩ rfl dX2_dropOldest_36 ?_
    refine g_iconst C (nI 5) (by decide) dX2_dropOldest_39 ?_
    refine g_aload1 C dX2_dropOldest_40 ?_
    obtain ⟨fs, hfs⟩ := BW_mem cI cL o sa ba a e n len t (fun j => if j + 1 < 6 then some (sv (j + 1)).1 else some (sv j).1) tx y d (q_rw d 0) x sv (k := 0) (by decide)
    refine g_astq C hK hP hD hS 1 rfl hfs rfl (by decide) (by decide) dX2_dropOldest_41 (fun H locs hP hD hS => ?_)
    have hP : va_P (dC, dI) vwCl (BW cI cL o sa ba a e t n len (svg (sv_rot sv)) tx y d (q_rw d 0) x sv) H := BW_g (fun j hj => by show (if j = 5 then some (sv 0).1 else if j + 1 < 6 then some (sv (j + 1)).1 else some (sv j).1) = some (if j = 5 then sv 0 else sv (j + 1)).1; exact if e1 : j = 5 then (by rw [if_pos e1, if_pos e1]) else (by rw [if_neg e1, if_neg e1, if_pos (by omega)])) hP
    have hD : va_D A (BW cI cL o sa ba a e t n len (svg (sv_rot sv)) tx y d (q_rw d 0) x sv) := hD.fst rfl
    have hP : va_P (dC, dI) vwCl (BW cI cL o sa ba a e t n len (svg (sv_rot sv)) tx y d (q_rw d 0) x (sv_rot sv)) H := P_perm ((((SW_rot cI sv).append_left _).append_left _).append_left _) hP
    have hD : va_D A (BW cI cL o sa ba a e t n len (svg (sv_rot sv)) tx y d (q_rw d 0) x (sv_rot sv)) := D_perm ((((SW_rot cI sv).append_left _).append_left _).append_left _) hD
    refine g_aload0 C dX2_dropOldest_42 ?_
    refine g_iconst C (nI 5) (by decide) dX2_dropOldest_43 ?_
    refine g_put (ci := 2) (T := TX2) (N := 6) C inX2 tyX2 tyX2_ok nmX2 hK hP hD hS 0 rfl rfl 2 (by decide) wf_X2_20 ⟨rfl, rfl, rfl⟩ rfl rfl rfl (Nat.le_of_ble_eq_true rfl) dX2_dropOldest_44 (fun H locs hP hD hS => ?_)
    have hP : va_P (dC, dI) vwCl (BW cI cL o sa ba a e t 5 len (svg (sv_rot sv)) tx y d (q_rw d 0) x (sv_rot sv)) H := hP
    have hD : va_D A (BW cI cL o sa ba a e t 5 len (svg (sv_rot sv)) tx y d (q_rw d 0) x (sv_rot sv)) := hD
    exact g_vretM C ⟨hP, hD⟩ hS dX2_dropOldest_47
  · refine g_aload0 C dX2_dropOldest_15 ?_
    refine g_get (ci := 2) (T := TX2) (N := 6) C inX2 hK hP 0 rfl rfl 1 (by decide) wf_X2_16 ⟨rfl, rfl, rfl⟩ rfl dX2_dropOldest_16 ?_
    refine g_iload2 C dX2_dropOldest_19 ?_
    refine g_iconst C (nI 1) (by decide) dX2_dropOldest_20 ?_
    refine g_isubN C (by omega) dX2_dropOldest_21 ?_
    refine g_aload0 C dX2_dropOldest_22 ?_
    refine g_get (ci := 2) (T := TX2) (N := 6) C inX2 hK hP 0 rfl rfl 1 (by decide) wf_X2_16 ⟨rfl, rfl, rfl⟩ rfl dX2_dropOldest_23 ?_
    refine g_iload2 C dX2_dropOldest_26 ?_
    refine g_aldq C hK hP 1 rfl (by omega) (by decide) (v := (sv i).1) (if_neg (by omega)) dX2_dropOldest_27 ?_
    obtain ⟨fs, hfs⟩ := BW_mem cI cL o sa ba a e n len t (fun j => if j + 1 < i then some (sv (j + 1)).1 else some (sv j).1) tx y d (q_rw d 0) x sv (k := i) (by omega)
    refine g_astq C hK hP hD hS 1 rfl hfs rfl (by omega) (by decide) dX2_dropOldest_28 (fun H locs hP hD hS => ?_)
    have hP : va_P (dC, dI) vwCl (BW cI cL o sa ba a e t n len (fun j => if j + 1 < (i + 1) then some (sv (j + 1)).1 else some (sv j).1) tx y d (q_rw d 0) x sv) H := BW_g (fun j hj => by show (if j = i - 1 then some (sv i).1 else if j + 1 < i then some (sv (j + 1)).1 else some (sv j).1) = (if j + 1 < i + 1 then some (sv (j + 1)).1 else some (sv j).1); exact if e1 : j = i - 1 then (by rw [if_pos e1, if_pos (by omega), show j + 1 = i by omega]) else if e2 : j + 1 < i then (by rw [if_neg e1, if_pos e2, if_pos (by omega)]) else (by rw [if_neg e1, if_neg e2, if_neg (by omega)])) hP
    have hD : va_D A (BW cI cL o sa ba a e t n len (fun j => if j + 1 < (i + 1) then some (sv (j + 1)).1 else some (sv j).1) tx y d (q_rw d 0) x sv) := hD.fst rfl
    refine g_iinc2 C _ rfl dX2_dropOldest_29 (nI_1 _) ?_
    refine g_goto C 9 dX2_dropOldest_32 (by decide) ?_
    exact ih (i + 1) H locs ⟨by omega, by omega, hP, hD, hS⟩ (by show 6 - (i + 1) < 6 - i; omega)

set_option maxHeartbeats 4000000 in
set_option maxRecDepth 100000 in
theorem c_X2_save {l : Launch} {dC : Nat → ClassId} {dI : Nat → Nat → Nat} {cI cL cJ : ClassId} {g1 g2 : Nat} {A : Nat → Prop} {o sa ba a e : Nat} {t : Nat → Nat} {n len : Nat} {tx : Nat → Int32} {y : Int32} {d : RW} {x : PS} {sv : Nat → LO} (hn : n ≤ 6) : Met l yX2_save (.code yX2_save cX2_save 1 none :: WG) (rmL 2) (va_Pc [.ref o] (BDM dC dI cI cL cJ g1 g2 A o sa ba a e t n len tx y d (q_rw d 0) x sv)) (bq_M (none) (BP dC dI cI cL A o sa ba a e t (min (n + 1) 6) len tx y d (q_rw d 0) x (sv_save sv n y d (q_rw d 0))) A) 0 0 (A) := by
  refine bq_of [some (.ref o)] rfl rfl (Nat.le_of_ble_eq_true rfl) (by decide) ?_
  intro P_ E_ s M_ B_ T_ K_ C hv
  obtain ⟨hP, hD, hK, hZ, hX⟩ := hv
  have hS : va_S A s.heap s.heap [] := va_S.rf
  refine g_aload0 C dX2_save_0 ?_
  refine g_get (ci := 2) (T := TX2) (N := 6) C inX2 hK hP 0 rfl rfl 2 (by decide) wf_X2_20 ⟨rfl, rfl, rfl⟩ rfl dX2_save_1 ?_
  refine g_bipush C (nI 6) (by decide) dX2_save_4 ?_
  refine g_icmp_ltN C (by omega) (by omega) 13 dX2_save_6 (by decide) (fun h6 => ?_) (fun h6 => ?_)
  · refine g_aload0 C dX2_save_13 ?_
    refine g_get (ci := 2) (T := TX2) (N := 6) C inX2 hK hP 0 rfl rfl 1 (by decide) wf_X2_16 ⟨rfl, rfl, rfl⟩ rfl dX2_save_14 ?_
    refine g_aload0 C dX2_save_17 ?_
    refine g_get (ci := 2) (T := TX2) (N := 6) C inX2 hK hP 0 rfl rfl 2 (by decide) wf_X2_20 ⟨rfl, rfl, rfl⟩ rfl dX2_save_18 ?_
    refine g_aldq C hK hP 1 rfl (by omega) (by decide) (v := (sv n).1) rfl dX2_save_21 ?_
    refine g_aload0 C dX2_save_22 ?_
    refine g_get (ci := 2) (T := TX2) (N := 6) C inX2 hK hP 0 rfl rfl 0 (by decide) wf_X2_10 ⟨rfl, rfl, rfl⟩ rfl dX2_save_23 ?_
    obtain ⟨w9, hw9⟩ := pm_two cI cL o sa ba a e n len t (svg sv) tx x sv (k := n) (by omega)
    have p1 := hw9 y d (q_rw d 0) (sv n)
    rw [sv_set_self] at p1
    have hP9 := P_perm p1 hP
    have hD9 := D_perm p1 hD
    have hD8 : va_D (fun q => q ∈ LA (sv n).1 (sv n).2.1 ++ LA a t) (LWo cI (sv n) ++ LW cI a t y d (q_rw d 0)) := (D_l hD9).1
    have hA8 : ∀ q, q ∈ LA (sv n).1 (sv n).2.1 ++ LA a t → A q := (D_l hD9).2
    refine g_mV (As := [.ref a]) C 1 rfl (c_X1_copyFrom) wl_X2_144 wi_X1_copyFrom wv_X1_copyFrom wn_X1 wc_X1_copyFrom (by decide +kernel) ⟨rfl, rfl, by decide, by decide⟩ LD2_bl (va_recv (ci := 1) (q0 := 0) hK (P_l hP9) rfl rfl) (LD2_at hK (P_l hP9) hD8) rfl rfl (by simp [Value.category]) ⟨by decide, by decide⟩ hS hA8 dX2_save_26 (fun H locs hP1 _ hk1 hS => ?_)
    obtain ⟨hP, hD⟩ := PD_join hP9 hD9 hP1 (List.Perm.refl _) hk1
    have hP := P_perm (hw9 y d (q_rw d 0) (lo_cp (sv n) y d (q_rw d 0))).symm hP
    have hD := D_perm (hw9 y d (q_rw d 0) (lo_cp (sv n) y d (q_rw d 0))).symm hD
    rw [← svg_set sv n y d (q_rw d 0)] at hP hD
    refine g_aload0 C dX2_save_29 ?_
    refine g_dup C rfl dX2_save_30 ?_
    refine g_get (ci := 2) (T := TX2) (N := 6) C inX2 hK hP 0 rfl rfl 2 (by decide) wf_X2_20 ⟨rfl, rfl, rfl⟩ rfl dX2_save_31 ?_
    refine g_iconst C (nI 1) (by decide) dX2_save_34 ?_
    refine g_iaddN C dX2_save_35 ?_
    refine g_put (ci := 2) (T := TX2) (N := 6) C inX2 tyX2 tyX2_ok nmX2 hK hP hD hS 0 rfl rfl 2 (by decide) wf_X2_20 ⟨rfl, rfl, rfl⟩ rfl rfl rfl (Nat.le_of_ble_eq_true rfl) dX2_save_36 (fun H locs hP hD hS => ?_)
    have hP : va_P (dC, dI) vwCl (BW cI cL o sa ba a e t (n + 1) len (svg (sv_set sv n (lo_cp (sv n) y d (q_rw d 0)))) tx y d (q_rw d 0) x (sv_set sv n (lo_cp (sv n) y d (q_rw d 0)))) H := hP
    have hD : va_D A (BW cI cL o sa ba a e t (n + 1) len (svg (sv_set sv n (lo_cp (sv n) y d (q_rw d 0)))) tx y d (q_rw d 0) x (sv_set sv n (lo_cp (sv n) y d (q_rw d 0)))) := hD
    have e1 : min (n + 1) 6 = n + 1 := by omega
    have e2 : sv_save sv n y d (q_rw d 0) = sv_set sv n (lo_cp (sv n) y d (q_rw d 0)) := if_neg (by omega)
    rw [e1, e2]
    exact g_vretM C ⟨hP, hD⟩ hS dX2_save_39
  · refine g_aload0 C dX2_save_9 ?_
    refine g_mV (As := []) C 0 rfl (c_X2_dropOldest) wl_X2_221 wi_X2_dropOldest wv_X2_dropOldest wn_X2 wc_X2_dropOldest (by decide +kernel) ⟨rfl, rfl, by decide, by decide⟩ BDM_bl (va_recv (ci := 2) (q0 := 0) hK hP rfl rfl) (BDM_at hK hP hD hZ hX hS (fun _ h => h)) rfl rfl (by simp [Value.category]) ⟨by decide, by decide⟩ hS (fun _ h => h) dX2_save_10 (fun H locs hP1 _ _ hS => ?_)
    obtain ⟨hP, hD⟩ := hP1
    refine g_aload0 C dX2_save_13 ?_
    refine g_get (ci := 2) (T := TX2) (N := 6) C inX2 hK hP 0 rfl rfl 1 (by decide) wf_X2_16 ⟨rfl, rfl, rfl⟩ rfl dX2_save_14 ?_
    refine g_aload0 C dX2_save_17 ?_
    refine g_get (ci := 2) (T := TX2) (N := 6) C inX2 hK hP 0 rfl rfl 2 (by decide) wf_X2_20 ⟨rfl, rfl, rfl⟩ rfl dX2_save_18 ?_
    refine g_aldq C hK hP 1 rfl (by omega) (by decide) (v := ((sv_rot sv) 5).1) rfl dX2_save_21 ?_
    refine g_aload0 C dX2_save_22 ?_
    refine g_get (ci := 2) (T := TX2) (N := 6) C inX2 hK hP 0 rfl rfl 0 (by decide) wf_X2_10 ⟨rfl, rfl, rfl⟩ rfl dX2_save_23 ?_
    obtain ⟨w9, hw9⟩ := pm_two cI cL o sa ba a e 5 len t (svg (sv_rot sv)) tx x (sv_rot sv) (k := 5) (by omega)
    have p1 := hw9 y d (q_rw d 0) ((sv_rot sv) 5)
    rw [sv_set_self] at p1
    have hP9 := P_perm p1 hP
    have hD9 := D_perm p1 hD
    have hD8 : va_D (fun q => q ∈ LA ((sv_rot sv) 5).1 ((sv_rot sv) 5).2.1 ++ LA a t) (LWo cI ((sv_rot sv) 5) ++ LW cI a t y d (q_rw d 0)) := (D_l hD9).1
    have hA8 : ∀ q, q ∈ LA ((sv_rot sv) 5).1 ((sv_rot sv) 5).2.1 ++ LA a t → A q := (D_l hD9).2
    refine g_mV (As := [.ref a]) C 1 rfl (c_X1_copyFrom) wl_X2_144 wi_X1_copyFrom wv_X1_copyFrom wn_X1 wc_X1_copyFrom (by decide +kernel) ⟨rfl, rfl, by decide, by decide⟩ LD2_bl (va_recv (ci := 1) (q0 := 0) hK (P_l hP9) rfl rfl) (LD2_at hK (P_l hP9) hD8) rfl rfl (by simp [Value.category]) ⟨by decide, by decide⟩ hS hA8 dX2_save_26 (fun H locs hP1 _ hk1 hS => ?_)
    obtain ⟨hP, hD⟩ := PD_join hP9 hD9 hP1 (List.Perm.refl _) hk1
    have hP := P_perm (hw9 y d (q_rw d 0) (lo_cp ((sv_rot sv) 5) y d (q_rw d 0))).symm hP
    have hD := D_perm (hw9 y d (q_rw d 0) (lo_cp ((sv_rot sv) 5) y d (q_rw d 0))).symm hD
    rw [← svg_set (sv_rot sv) 5 y d (q_rw d 0)] at hP hD
    refine g_aload0 C dX2_save_29 ?_
    refine g_dup C rfl dX2_save_30 ?_
    refine g_get (ci := 2) (T := TX2) (N := 6) C inX2 hK hP 0 rfl rfl 2 (by decide) wf_X2_20 ⟨rfl, rfl, rfl⟩ rfl dX2_save_31 ?_
    refine g_iconst C (nI 1) (by decide) dX2_save_34 ?_
    refine g_iaddN C dX2_save_35 ?_
    refine g_put (ci := 2) (T := TX2) (N := 6) C inX2 tyX2 tyX2_ok nmX2 hK hP hD hS 0 rfl rfl 2 (by decide) wf_X2_20 ⟨rfl, rfl, rfl⟩ rfl rfl rfl (Nat.le_of_ble_eq_true rfl) dX2_save_36 (fun H locs hP hD hS => ?_)
    have hP : va_P (dC, dI) vwCl (BW cI cL o sa ba a e t (5 + 1) len (svg (sv_set (sv_rot sv) 5 (lo_cp ((sv_rot sv) 5) y d (q_rw d 0)))) tx y d (q_rw d 0) x (sv_set (sv_rot sv) 5 (lo_cp ((sv_rot sv) 5) y d (q_rw d 0)))) H := hP
    have hD : va_D A (BW cI cL o sa ba a e t (5 + 1) len (svg (sv_set (sv_rot sv) 5 (lo_cp ((sv_rot sv) 5) y d (q_rw d 0)))) tx y d (q_rw d 0) x (sv_set (sv_rot sv) 5 (lo_cp ((sv_rot sv) 5) y d (q_rw d 0)))) := hD
    have e1 : min (n + 1) 6 = 5 + 1 := by omega
    have e2 : sv_save sv n y d (q_rw d 0) = sv_set (sv_rot sv) 5 (lo_cp (sv_rot sv 5) y d (q_rw d 0)) := if_pos (by omega)
    rw [e1, e2]
    exact g_vretM C ⟨hP, hD⟩ hS dX2_save_39
