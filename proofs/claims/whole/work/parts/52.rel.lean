/-! what holds between the class and the reference -/
def SR (v : LO) (r : Nat → Int32) (j : Nat) : Prop := v.2.2.2.1 = q_nz (fun x => r (551 * j + x)) ∧ v.2.2.1 = r (551 * j + 550) ∧ v.2.2.2.2 = q_rw v.2.2.2.1 0 ∧ INV v.2.2.2.1 ∧ ∃ yn : Nat, yn ≤ 2000 ∧ v.2.2.1 = nI yn
def TXR (tx : Nat → Int32) (r : Nat → Int32) (len : Nat) : Prop := ∃ tn : Nat → Nat, ∀ j, j < len → tx j = nI (tn j) ∧ r j = nI (tn j) ∧ 33 ≤ tn j ∧ tn j ≤ 126
def RLs (n len : Nat) (tx : Nat → Int32) (sv : Nat → LO) (A : RW) (i : Nat → Int32) : Prop :=
  n ≤ 6 ∧ len ≤ 60 ∧ i 0 = nI n ∧ i 1 = nI len ∧ INV (q_nz (A 0)) ∧ (∃ yn : Nat, yn ≤ 2000 ∧ A 0 550 = nI yn) ∧ TXR tx (A 2) len ∧ ∀ j, j < n → SR (sv j) (A 1) j
theorem SR_cong {v : LO} {r r' : Nat → Int32} {j j' : Nat} (h : SR v r j) (he : ∀ x, x < 551 → r' (551 * j' + x) = r (551 * j + x)) : SR v r' j' := by
  obtain ⟨a, b, c, d, e⟩ := h
  exact ⟨a.trans (q_nz_ext (fun x hx => (he x (by omega)).symm)), b.trans (he 550 (by omega)).symm, c, d, e⟩
theorem RLs_cong {n len : Nat} {tx : Nat → Int32} {sv : Nat → LO} {A A' : RW} {i i' : Nat → Int32} (h : RLs n len tx sv A i) (h0 : A' 0 = A 0) (h1 : A' 1 = A 1) (h2 : A' 2 = A 2) (i0 : i' 0 = i 0) (i1 : i' 1 = i 1) : RLs n len tx sv A' i' := by
  unfold RLs
  rw [h0, h1, h2, i0, i1]
  exact h
theorem RLs_save {n len len' : Nat} {tx tx' : Nat → Int32} {sv : Nat → LO} {A A' : RW} {i i' : Nat → Int32} (h : RLs n len tx sv A i) (h1 : A' 1 = q_rs (A 1) (A 0) n) (i0 : i' 0 = nI (min (n + 1) 6)) (hI : INV (q_nz (A' 0))) (hy : ∃ yn : Nat, yn ≤ 2000 ∧ A' 0 550 = nI yn) (hl : len' ≤ 60) (i1 : i' 1 = nI len') (ht : TXR tx' (A' 2) len') : RLs (min (n + 1) 6) len' tx' (sv_save sv n (A 0 550) (q_nz (A 0)) (q_rw (q_nz (A 0)) 0)) A' i' := by
  obtain ⟨a1, a2, a3, a4, a5, a6, a7, a8⟩ := h
  refine ⟨by omega, hl, i0, i1, hI, hy, ht, fun j hj => ?_⟩
  rw [h1]
  by_cases hn : n = 6
  · subst hn
    rw [show sv_save sv 6 (A 0 550) (q_nz (A 0)) (q_rw (q_nz (A 0)) 0) = sv_set (sv_rot sv) 5 (lo_cp (sv_rot sv 5) (A 0 550) (q_nz (A 0)) (q_rw (q_nz (A 0)) 0)) from if_pos rfl, show q_rs (A 1) (A 0) 6 = q_r2 (q_r1 (A 1) 2755) (A 0) 5 551 from if_pos rfl]
    by_cases h5 : j = 5
    · subst h5
      rw [show sv_set (sv_rot sv) 5 (lo_cp (sv_rot sv 5) (A 0 550) (q_nz (A 0)) (q_rw (q_nz (A 0)) 0)) 5 = lo_cp (sv_rot sv 5) (A 0 550) (q_nz (A 0)) (q_rw (q_nz (A 0)) 0) from if_pos rfl]
      have e : ∀ x, x < 551 → q_r2 (q_r1 (A 1) 2755) (A 0) 5 551 (551 * 5 + x) = A 0 x := fun x hx => (if_pos (by omega)).trans (by rw [show 551 * 5 + x - 551 * 5 = x by omega])
      exact ⟨q_nz_ext (fun x hx => (e x (by omega)).symm), (e 550 (by omega)).symm, rfl, a5, a6⟩
    · rw [show sv_set (sv_rot sv) 5 (lo_cp (sv_rot sv 5) (A 0 550) (q_nz (A 0)) (q_rw (q_nz (A 0)) 0)) j = sv (j + 1) from (if_neg h5).trans (if_neg h5)]
      exact SR_cong (a8 (j + 1) (by omega)) (fun x hx => (if_neg (by omega)).trans ((if_pos (by omega)).trans (by rw [show 551 + (551 * j + x) = 551 * (j + 1) + x by omega])))
  · rw [show sv_save sv n (A 0 550) (q_nz (A 0)) (q_rw (q_nz (A 0)) 0) = sv_set sv n (lo_cp (sv n) (A 0 550) (q_nz (A 0)) (q_rw (q_nz (A 0)) 0)) from if_neg hn, show q_rs (A 1) (A 0) n = q_r2 (A 1) (A 0) n 551 from if_neg hn]
    by_cases h5 : j = n
    · subst h5
      rw [show sv_set sv j (lo_cp (sv j) (A 0 550) (q_nz (A 0)) (q_rw (q_nz (A 0)) 0)) j = lo_cp (sv j) (A 0 550) (q_nz (A 0)) (q_rw (q_nz (A 0)) 0) from if_pos rfl]
      have e : ∀ x, x < 551 → q_r2 (A 1) (A 0) j 551 (551 * j + x) = A 0 x := fun x hx => (if_pos (by omega)).trans (by rw [show 551 * j + x - 551 * j = x by omega])
      exact ⟨q_nz_ext (fun x hx => (e x (by omega)).symm), (e 550 (by omega)).symm, rfl, a5, a6⟩
    · rw [show sv_set sv n (lo_cp (sv n) (A 0 550) (q_nz (A 0)) (q_rw (q_nz (A 0)) 0)) j = sv j from if_neg h5]
      exact SR_cong (a8 j (by omega)) (fun x hx => if_neg (by omega))
theorem RLs_undo {n len : Nat} {tx : Nat → Int32} {sv : Nat → LO} {A A' : RW} {i i' : Nat → Int32} (h : RLs n len tx sv A i) (hn : n ≠ 0) (h0 : A' 0 = q_ru (A 0) (A 1) (n - 1) 551) (h1 : A' 1 = A 1) (h2 : A' 2 = A 2) (i0 : i' 0 = nI (n - 1)) (i1 : i' 1 = i 1) : RLs (n - 1) len tx sv A' i' ∧ (sv (n - 1)).2.2.1 = A' 0 550 ∧ (sv (n - 1)).2.2.2.1 = q_nz (A' 0) ∧ (sv (n - 1)).2.2.2.2 = q_rw (q_nz (A' 0)) 0 := by
  obtain ⟨a1, a2, a3, a4, a5, a6, a7, a8⟩ := h
  obtain ⟨s1, s2, s3, s4, s5⟩ := a8 (n - 1) (by omega)
  have e1 : q_nz (A' 0) = (sv (n - 1)).2.2.2.1 := by
    rw [h0, s1]
    exact q_nz_ext (fun x hx => if_pos (by omega))
  have e2 : A' 0 550 = (sv (n - 1)).2.2.1 := by
    rw [h0, s2]
    exact if_pos (by omega)
  refine ⟨⟨by omega, a2, i0, i1.trans a4, by rw [e1]; exact s4, by rw [e2]; exact s5, by rw [h2]; exact a7, fun j hj => by rw [h1]; exact a8 j (by omega)⟩, e2.symm, e1.symm, by rw [e1]; exact s3⟩
theorem TXR_cong {tx r r' : Nat → Int32} {len : Nat} (h : TXR tx r len) (he : r' = r) : TXR tx r' len := by subst he; exact h
theorem TXR_0 {tx r : Nat → Int32} : TXR tx r 0 := ⟨fun _ => 0, fun j hj => absurd hj (Nat.not_lt_zero _)⟩
theorem TXR_app {tx r : Nat → Int32} {len : Nat} {c : Int32} (h : TXR tx r len) (hc : nI 33 ≤ c ∧ c ≤ nI 126) : TXR (upd tx len c) (upd r len c) (len + 1) := by
  obtain ⟨tn, h⟩ := h
  obtain ⟨m, bl, bh, rfl⟩ := q_rng (by decide) (by decide) hc
  refine ⟨fun j => if j = len then m else tn j, fun j hj => ?_⟩
  by_cases e : j = len
  · subst e
    refine ⟨?_, ?_, ?_, ?_⟩
    · show (if j = j then nI m else tx j) = nI (if j = j then m else tn j); rw [if_pos rfl, if_pos rfl]
    · show (if j = j then nI m else r j) = nI (if j = j then m else tn j); rw [if_pos rfl, if_pos rfl]
    · show 33 ≤ (if j = j then m else tn j); rw [if_pos rfl]; exact bl
    · show (if j = j then m else tn j) ≤ 126; rw [if_pos rfl]; exact bh
  · obtain ⟨b1, b2, b3, b4⟩ := h j (by omega)
    refine ⟨?_, ?_, ?_, ?_⟩
    · show (if j = len then nI m else tx j) = nI (if j = len then m else tn j); rw [if_neg e, if_neg e]; exact b1
    · show (if j = len then nI m else r j) = nI (if j = len then m else tn j); rw [if_neg e, if_neg e]; exact b2
    · show 33 ≤ (if j = len then m else tn j); rw [if_neg e]; exact b3
    · show (if j = len then m else tn j) ≤ 126; rw [if_neg e]; exact b4
/-! the codes -/
theorem k4 {P1 P2 P3 : Prop} [Decidable P1] [Decidable P2] [Decidable P3] : ((if P1 then 1 else if P2 then 2 else if P3 then 3 else 0 : Nat) = 0 ∨ (if P1 then 1 else if P2 then 2 else if P3 then 3 else 0 : Nat) = 1 ∨ (if P1 then 1 else if P2 then 2 else if P3 then 3 else 0 : Nat) = 2 ∨ (if P1 then 1 else if P2 then 2 else if P3 then 3 else 0 : Nat) = 3) := by
  split
  · exact Or.inr (Or.inl rfl)
  · split
    · exact Or.inr (Or.inr (Or.inl rfl))
    · split
      · exact Or.inr (Or.inr (Or.inr rfl))
      · exact Or.inl rfl
theorem k3 {P1 P2 : Prop} [Decidable P1] [Decidable P2] : ((if P1 then 1 else if P2 then 2 else 0 : Nat) = 0 ∨ (if P1 then 1 else if P2 then 2 else 0 : Nat) = 1 ∨ (if P1 then 1 else if P2 then 2 else 0 : Nat) = 2) := by
  split
  · exact Or.inr (Or.inl rfl)
  · split
    · exact Or.inr (Or.inr rfl)
    · exact Or.inl rfl
theorem k2 {P1 : Prop} [Decidable P1] : ((if P1 then 1 else 0 : Nat) = 0 ∨ (if P1 then 1 else 0 : Nat) = 1) := by
  split
  · exact Or.inr rfl
  · exact Or.inl rfl
theorem k40 {P1 P2 P3 : Prop} [Decidable P1] [Decidable P2] [Decidable P3] (h : (if P1 then 1 else if P2 then 2 else if P3 then 3 else 0 : Nat) = 0) : ¬ P1 ∧ ¬ P2 ∧ ¬ P3 := by
  by_cases h1 : P1
  · rw [if_pos h1] at h; exact absurd h (by decide)
  · rw [if_neg h1] at h
    by_cases h2 : P2
    · rw [if_pos h2] at h; exact absurd h (by decide)
    · rw [if_neg h2] at h
      by_cases h3 : P3
      · rw [if_pos h3] at h; exact absurd h (by decide)
      · exact ⟨h1, h2, h3⟩
theorem k30 {P1 P2 : Prop} [Decidable P1] [Decidable P2] (h : (if P1 then 1 else if P2 then 2 else 0 : Nat) = 0) : ¬ P1 ∧ ¬ P2 := by
  by_cases h1 : P1
  · rw [if_pos h1] at h; exact absurd h (by decide)
  · rw [if_neg h1] at h
    by_cases h2 : P2
    · rw [if_pos h2] at h; exact absurd h (by decide)
    · exact ⟨h1, h2⟩
theorem k20 {P1 : Prop} [Decidable P1] (h : (if P1 then 1 else 0 : Nat) = 0) : ¬ P1 := by
  by_cases h1 : P1
  · rw [if_pos h1] at h; exact absurd h (by decide)
  · exact h1
theorem op_lay {z : Nat → Int32} {p kv : Int32} (hI : INV (q_nz z)) (hk : k_lay (q_nz z) p kv = 0) : q_nz (upd z (q_n p) kv) = q_up (q_nz z) 3 (q_n p) kv ∧ upd z (q_n p) kv 550 = z 550 ∧ INV (q_up (q_nz z) 3 (q_n p) kv) := by
  obtain ⟨h1, h2, h3⟩ := k40 hk
  replace h1 := Decidable.not_not.mp h1
  replace h2 := Decidable.not_not.mp h2
  replace h3 := Decidable.not_not.mp h3
  obtain ⟨m, bl, bh, rfl⟩ := q_rng (by decide) (by decide) h1
  obtain ⟨k, -, ch, rfl⟩ := q_rng (by decide) (by decide) h2
  rw [q_n_nI (by omega)] at h3 ⊢
  exact ⟨nz_kind (by omega), if_neg (by omega), INV_kind hI bl (by omega) ch h3.1 h3.2.1⟩
theorem op_pass {z : Nat → Int32} {v : Int32} (hy : ∃ yn : Nat, yn ≤ 2000 ∧ z 550 = nI yn) (hk : k_pass (z 550) v = 0) : q_nz (upd z 550 (z 550 + v)) = q_nz z ∧ upd z 550 (z 550 + v) 550 = z 550 + v ∧ ∃ yn : Nat, yn ≤ 2000 ∧ z 550 + v = nI yn := by
  obtain ⟨h1, h2⟩ := k30 hk
  replace h1 := Decidable.not_not.mp h1
  obtain ⟨m, bl, bh, rfl⟩ := q_rng (by decide) (by decide) h1
  obtain ⟨yn, hyn, e⟩ := hy
  refine ⟨q_nz_y z _, if_pos rfl, yn + m, ?_, by rw [e, nI_add]⟩
  rw [e, nI_add] at h2
  exact Nat.not_lt.mp (fun z => h2 ((nI_ltI (by decide) (by omega)).mpr z))
theorem op_par {z : Nat → Int32} {f w : Int32} (hI : INV (q_nz z)) (hk : k_par f = 0) : q_nz (upd z (520 + q_n f) w) = q_up (q_nz z) 0 (q_n f) w ∧ upd z (520 + q_n f) w 550 = z 550 ∧ INV (q_up (q_nz z) 0 (q_n f) w) := by
  have h1 := Decidable.not_not.mp (k20 hk)
  obtain ⟨m, -, bh, rfl⟩ := q_rng (by decide) (by decide) h1
  rw [q_n_nI (by omega)]
  exact ⟨nz_par (by omega), if_neg (by omega), INV_par hI⟩
theorem op_bury {z : Nat → Int32} {f p dep : Int32} (hI : INV (q_nz z)) (hy : ∃ yn : Nat, yn ≤ 2000 ∧ z 550 = nI yn) (hk : k_bury (q_nz z) (z 550) f p dep = 0) : q_nz (q_zb z (q_fee (q_nz z) (z 550) (q_n f) (q_n p) (q_n dep)) (q_n f) (3 * q_n p + q_n dep - 1)) = q_addB (q_nz z) (z 550) (q_n f) (q_n p) (q_n dep) ∧ q_zb z (q_fee (q_nz z) (z 550) (q_n f) (q_n p) (q_n dep)) (q_n f) (3 * q_n p + q_n dep - 1) 550 = z 550 ∧ INV (q_addB (q_nz z) (z 550) (q_n f) (q_n p) (q_n dep)) := by
  obtain ⟨h1, h2, h3⟩ := k40 hk
  obtain ⟨hf, hp⟩ := Decidable.not_not.mp h1
  replace h2 := Decidable.not_not.mp h2
  obtain ⟨m1, -, b1, rfl⟩ := q_rng (by decide) (by decide) hf
  obtain ⟨m2, -, b2, rfl⟩ := q_rng (by decide) (by decide) hp
  obtain ⟨m3, c3, b3, rfl⟩ := q_rng (by decide) (by decide) h2
  obtain ⟨yn, hyn, e⟩ := hy
  rw [q_n_nI (by omega), q_n_nI (by omega)] at h3
  rw [q_n_nI (by omega), q_n_nI (by omega), q_n_nI (by omega)]
  exact ⟨nz_addB (by omega) (by omega) c3 b3 rfl, zb_y (by omega) (by omega), INV_addB hI (by rw [e]; exact (nI_leI (by decide) (by omega)).mpr (Nat.zero_le _)) (by omega) (by omega) c3 b3 (q_ref_kind (Decidable.not_not.mp h3))⟩
theorem op_res {z : Nat → Int32} {f p v : Int32} (hI : INV (q_nz z)) (hk : k_res (q_nz z) (z 550) f p v = 0) : q_nz (q_zrs z (z 550) (q_n f) (q_n p) (q_n v)) = q_addR (q_nz z) (z 550) (q_n f) (q_n p) (q_n v) ∧ q_zrs z (z 550) (q_n f) (q_n p) (q_n v) 550 = z 550 ∧ INV (q_addR (q_nz z) (z 550) (q_n f) (q_n p) (q_n v)) ∧ q_zcr (q_zr2 z (q_zup z (z 550) (q_n p) (q_n v)) (q_n f) (q_n p)) (q_n f) (q_n v) = q_pr (q_nz z) (q_n f) (nI (2 * q_n v)) := by
  obtain ⟨h1, h2, h3⟩ := k40 hk
  obtain ⟨hf, hp⟩ := Decidable.not_not.mp h1
  replace h2 := Decidable.not_not.mp h2
  replace h3 := Decidable.not_not.mp h3
  obtain ⟨m1, -, b1, rfl⟩ := q_rng (by decide) (by decide) hf
  obtain ⟨m2, -, b2, rfl⟩ := q_rng (by decide) (by decide) hp
  obtain ⟨m3, c3, b3, rfl⟩ := q_rng (by decide) (by decide) h2
  rw [q_n_nI (show m2 < 2147483648 by omega)] at h3
  rw [q_n_nI (by omega), q_n_nI (by omega), q_n_nI (by omega)]
  obtain ⟨n1, n2⟩ := nz_addR (n := m3) (show m1 < 10 by omega) (show m2 < 40 by omega) (show m3 ≤ 50 by omega) rfl h3.2.1 h3.2.2
  exact ⟨n1, zrs_y (by omega) (by omega), INV_addR hI, n2⟩
theorem op_vau {z : Nat → Int32} {f p : Int32} (hI : INV (q_nz z)) (hk : k_vau (q_nz z) (z 550) f p = 0) : q_nz (q_zp (q_zv3 z (q_n f) (q_n p)) (q_zvc (q_zv3 z (q_n f) (q_n p)) (q_n f)) (q_n f)) = q_addV (q_nz z) (q_n f) (q_n p) ∧ q_zp (q_zv3 z (q_n f) (q_n p)) (q_zvc (q_zv3 z (q_n f) (q_n p)) (q_n f)) (q_n f) 550 = z 550 ∧ INV (q_addV (q_nz z) (q_n f) (q_n p)) ∧ q_zvc (q_zv3 z (q_n f) (q_n p)) (q_n f) = q_pr (q_nz z) (q_n f) (nI 100) := by
  obtain ⟨h1, h3⟩ := k30 hk
  obtain ⟨hf, hp⟩ := Decidable.not_not.mp h1
  replace h3 := Decidable.not_not.mp h3
  obtain ⟨m1, -, b1, rfl⟩ := q_rng (by decide) (by decide) hf
  obtain ⟨m2, -, b2, rfl⟩ := q_rng (by decide) (by decide) hp
  rw [q_n_nI (show m2 < 2147483648 by omega)] at h3
  rw [q_n_nI (by omega), q_n_nI (by omega)]
  obtain ⟨n1, n2⟩ := nz_addV (z := z) (show m1 < 10 by omega) (show m2 < 40 by omega)
  exact ⟨n1, zv_y (by omega) (by omega), INV_addV hI (by omega) h3.1, n2⟩
theorem op_clr {z : Nat → Int32} {p : Int32} (hI : INV (q_nz z)) (hk : k_clr (q_nz z) (z 550) p = 0) : q_nz (q_zc z (q_n p) 3) = q_rm (q_nz z) (q_n p) 3 ∧ q_zc z (q_n p) 3 550 = z 550 ∧ INV (q_rm (q_nz z) (q_n p) 3) := by
  obtain ⟨h1, -⟩ := k30 hk
  obtain ⟨m1, -, b1, rfl⟩ := q_rng (by decide) (by decide) (Decidable.not_not.mp h1)
  rw [q_n_nI (by omega)]
  exact ⟨nz_rm (by omega) 3 (Nat.le_refl _), zc_y (by omega) 3 (Nat.le_refl _), INV_rm hI 3⟩
