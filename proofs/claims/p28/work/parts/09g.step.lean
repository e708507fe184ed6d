noncomputable def q_rc (d : RW) (p : Nat) : Bool := @decide (p = 0 ∨ ∃ s q : Nat, s < 4 ∧ q_bsd p s = some q ∧ q_rn (q_op d (-1)) 40 q) (Classical.propDecidable _)
theorem q_wn_iff (w : Nat → Int32) (p : Nat) : ∀ n, q_wn w p n = true ↔ (p = 0 ∨ ∃ s q : Nat, s < n ∧ q_bsd p s = some q ∧ w q = nI 1) := by
  intro n
  induction n with
  | zero => simp [q_wn]
  | succ n ih =>
    show (q_wn w p n || q_w1 w (q_bsd p n)) = true ↔ _
    rw [Bool.or_eq_true, ih]
    constructor
    · rintro ((h | ⟨s, q, h1, h2, h3⟩) | h)
      · exact Or.inl h
      · exact Or.inr ⟨s, q, by omega, h2, h3⟩
      · cases hq : q_bsd p n with
        | none => rw [hq] at h; exact absurd h (by simp [q_w1])
        | some q => rw [hq] at h; exact Or.inr ⟨n, q, by omega, hq, by simpa [q_w1] using h⟩
    · rintro (h | ⟨s, q, h1, h2, h3⟩)
      · exact Or.inl (Or.inl h)
      · by_cases e : s = n
        · subst e; exact Or.inr (by rw [h2]; simp [q_w1, h3])
        · exact Or.inl (Or.inr ⟨s, q, by omega, h2, h3⟩)
theorem q_wr_rc {d : RW} {w : Nat → Int32} (hw : ∀ p, p < 40 → (w p = nI 1 ↔ q_rn (q_op d (-1)) 40 p)) {p : Nat} (hp : p < 40) : q_wr w p = q_rc d p := by
  have e : (p = 0 ∨ ∃ s q : Nat, s < 4 ∧ q_bsd p s = some q ∧ w q = nI 1) ↔ (p = 0 ∨ ∃ s q : Nat, s < 4 ∧ q_bsd p s = some q ∧ q_rn (q_op d (-1)) 40 q) := by
    constructor
    · rintro (h | ⟨s, q, h1, h2, h3⟩)
      · exact Or.inl h
      · exact Or.inr ⟨s, q, h1, h2, (hw q (q_bsd_lt hp h2)).mp h3⟩
    · rintro (h | ⟨s, q, h1, h2, h3⟩)
      · exact Or.inl h
      · exact Or.inr ⟨s, q, h1, h2, (hw q (q_bsd_lt hp h2)).mpr h3⟩
  have e2 := (q_wn_iff w p 4).trans e
  unfold q_wr q_rc
  cases hb : q_wn w p 4 with
  | true => exact (@decide_eq_true _ (Classical.propDecidable _) (e2.mp hb)).symm
  | false => exact (@decide_eq_false _ (Classical.propDecidable _) (fun z => by rw [e2.mpr z] at hb; cases hb)).symm
theorem q_ref_rc {d : RW} {y : Int32} {rc rc2 : Nat → Bool} {f : Int32} {p dep : Nat} (h : rc p = rc2 p) : q_ref d y rc f p dep = q_ref d y rc2 f p dep := by unfold q_ref; rw [h]
theorem q_rng {v : Int32} {a b : Nat} (ha : a < 2147483648) (hb : b < 2147483648) (h : nI a ≤ v ∧ v ≤ nI b) : ∃ n : Nat, a ≤ n ∧ n ≤ b ∧ v = nI n := by
  have h0 : ¬ v < 0 := by
    intro z
    have h1 := h.1
    rw [Int32.le_iff_toInt_le, nI_toInt ha] at h1
    rw [Int32.lt_iff_toInt_lt, Int32.toInt_zero] at z
    omega
  obtain ⟨n, hn, rfl⟩ := nI_of h0
  exact ⟨n, (nI_leI ha (by omega)).mp h.1, (nI_leI (by omega) hb).mp h.2, rfl⟩
/-- the number behind an argument -/
abbrev q_n (v : Int32) : Nat := v.toNatClampNeg
theorem q_n_nI {n : Nat} (h : n < 2147483648) : q_n (nI n) = n := nI_clamp h
abbrev q_isP (v : Int32) : Prop := nI 0 ≤ v ∧ v ≤ nI 39
abbrev q_isF (v : Int32) : Prop := nI 0 ≤ v ∧ v ≤ nI 9
/-- the codes: 0 where a call answers, else the exception's place in the throws clause -/
def k_lay (d : RW) (p kv : Int32) : Nat := if ¬ (nI 1 ≤ p ∧ p ≤ nI 39) then 1 else if ¬ (nI 0 ≤ kv ∧ kv ≤ nI 3) then 2 else if ¬ (q_bur d (q_n p) = 0 ∧ d 4 (q_n p) = -1 ∧ d 5 (q_n p) = -1) then 3 else 0
def k_pass (y v : Int32) : Nat := if ¬ (nI 1 ≤ v ∧ v ≤ nI 100) then 1 else if nI 2000 < y + v then 2 else 0
def k_par (f : Int32) : Nat := if ¬ q_isF f then 1 else 0
noncomputable def k_bury (d : RW) (y f p dep : Int32) : Nat := if ¬ (q_isF f ∧ q_isP p) then 1 else if ¬ (nI 1 ≤ dep ∧ dep ≤ nI 3) then 2 else if q_ref d y (q_rc d) f (q_n p) (q_n dep) ≠ nI 0 then 3 else 0
def k_res (d : RW) (y f p v : Int32) : Nat := if ¬ (q_isF f ∧ q_isP p) then 1 else if ¬ (nI 1 ≤ v ∧ v ≤ nI 50) then 2 else if ¬ (d 3 (q_n p) ≠ nI 3 ∧ d 4 (q_n p) = -1 ∧ ¬ q_oth (q_hold d y (q_n p)) f) then 3 else 0
noncomputable def k_vau (d : RW) (y f p : Int32) : Nat := if ¬ (q_isF f ∧ q_isP p) then 1 else if ¬ (d 3 (q_n p) ≠ nI 3 ∧ d 3 (q_n p) ≠ nI 2 ∧ d 4 (q_n p) = -1 ∧ q_bur d (q_n p) = 0 ∧ ¬ q_oth (q_hold d y (q_n p)) f ∧ q_rc d (q_n p) = true) then 2 else 0
def k_clr (d : RW) (y p : Int32) : Nat := if ¬ q_isP p then 1 else if 0 < q_rsn d y (q_n p) then 2 else 0
def k_app (len : Nat) (c : Int32) : Nat := if ¬ (nI 33 ≤ c ∧ c ≤ nI 126) then 1 else if len = 60 then 2 else 0
/-- what a call of the reference leaves: the code, z', the saved rows one more where it answers -/
def PM (dC : Nat → ClassId) (dI : Nat → Nat → Nat) (cI : ClassId) (o : Nat) (t : Nat → Nat) (z0 r0 t0 : Nat → Int32) (l0 : Int32) (n cd : Nat) (z' : Nat → Int32) (H : Heap) : Prop :=
  ∃ (A' : RW) (i' : Nat → Int32) (h' : Int64), va_P (dC, dI) vwCl (MW cI o t A' i' h') H ∧ A' 0 = z' ∧ A' 1 = (if cd = 0 then q_rs r0 z0 n else r0) ∧ i' 0 = nI (if cd = 0 then min (n + 1) 6 else n) ∧ A' 2 = t0 ∧ i' 1 = l0 ∧ i' 2 = nI cd
/-- two rows z that agree below 550 are the same ground -/
theorem q_nz_ext {z z' : Nat → Int32} (h : ∀ x, x < 550 → z x = z' x) : q_nz z = q_nz z' := by
  funext j k
  unfold q_nz
  split
  · split <;> first | exact h _ (by omega) | rfl
  · split <;> first | exact h _ (by omega) | rfl
  · split <;> first | exact h _ (by omega) | rfl
  · split <;> first | exact h _ (by omega) | rfl
  · split <;> first | exact h _ (by omega) | rfl
  · split <;> first | exact h _ (by omega) | rfl
  · split <;> first | exact h _ (by omega) | rfl
  · split <;> first | exact h _ (by omega) | rfl
  · by_cases hk : k < 120
    · rw [h (160 + k) (by omega), h (280 + k) (by omega)]
    · rw [if_neg (fun q => hk q.1), if_neg (fun q => hk q.1)]
  · by_cases hk : k < 120
    · rw [h (160 + k) (by omega), h (400 + k) (by omega)]
    · rw [if_neg (fun q => hk q.1), if_neg (fun q => hk q.1)]
  · rfl
theorem q_nz_y (z : Nat → Int32) (v : Int32) : q_nz (upd z 550 v) = q_nz z := q_nz_ext (fun x hx => if_neg (by omega))
theorem q_ref_le {d : RW} {y : Int32} {rc : Nat → Bool} {f : Int32} {p dep : Nat} : q_ref d y rc f p dep ≤ 0 ↔ q_ref d y rc f p dep = nI 0 := by
  have key : ∃ k : Nat, k < 8 ∧ q_ref d y rc f p dep = nI k := by
    unfold q_ref q_vref
    repeat' split
    all_goals first | exact ⟨0, by decide, rfl⟩ | exact ⟨1, by decide, rfl⟩ | exact ⟨2, by decide, rfl⟩ | exact ⟨3, by decide, rfl⟩ | exact ⟨4, by decide, rfl⟩ | exact ⟨5, by decide, rfl⟩ | exact ⟨6, by decide, rfl⟩ | exact ⟨7, by decide, rfl⟩
  obtain ⟨k, hk, e⟩ := key
  rw [e]
  rcases Nat.eq_zero_or_pos k with h | h
  · subst h; exact ⟨fun _ => rfl, fun _ => by decide⟩
  · exact ⟨fun z => absurd z (nI_nle h (by omega)), fun z => absurd ((nI_eq (by omega) (by decide)).mp z) (by omega)⟩
def q_zr2 (z : Nat → Int32) (up : Int32) (f p : Nat) : Nat → Int32 := upd (upd z (120 + p) up) (80 + p) (nI f)
def q_zp (z : Nat → Int32) (cost : Int32) (f : Nat) : Nat → Int32 := upd z (530 + f) (z (530 + f) + cost)
def q_z3 (z : Nat → Int32) (fee : Int32) (f k : Nat) : Nat → Int32 := upd (upd (upd z (160 + k) (nI f)) (280 + k) (z 550)) (400 + k) fee
def q_zb (z : Nat → Int32) (fee : Int32) (f k : Nat) : Nat → Int32 := upd (q_zp (q_z3 z fee f k) fee f) (540 + f) (q_zp (q_z3 z fee f k) fee f (540 + f) + nI 1)
def q_zup (z : Nat → Int32) (now : Int32) (p n : Nat) : Int32 := if q_kept (q_nz z) now p then q_nz z 6 p + nI n else z 550 + nI n
def q_zcr (z : Nat → Int32) (f n : Nat) : Int32 := if q_nz z 0 f = nI 1 then nI (2 * n) else nI (4 * n)
def q_zrs (z : Nat → Int32) (now : Int32) (f p n : Nat) : Nat → Int32 := q_zp (q_zr2 z (q_zup z now p n) f p) (q_zcr (q_zr2 z (q_zup z now p n) f p) f n) f
def q_zv3 (z : Nat → Int32) (f p : Nat) : Nat → Int32 := upd (upd (upd z (40 + p) (nI f)) (80 + p) (-1)) (120 + p) (-1)
def q_zvc (z : Nat → Int32) (f : Nat) : Int32 := if q_nz z 0 f = nI 1 then nI 100 else nI 200
def q_zc (z : Nat → Int32) (p : Nat) : Nat → Nat → Int32
  | 0 => z
  | j + 1 => upd (upd (upd (q_zc z p j) (160 + (3 * p + j)) (-1)) (280 + (3 * p + j)) (nI 0)) (400 + (3 * p + j)) (nI 0)
def q_ru (z r : Nat → Int32) (m k : Nat) : Nat → Int32 := fun x => if x < k then r (551 * m + x) else z x
theorem q_ru_0 (z r : Nat → Int32) (m : Nat) : q_ru z r m 0 = z := by funext x; exact if_neg (Nat.not_lt_zero x)
theorem q_ru_s (z r : Nat → Int32) (m k : Nat) : upd (q_ru z r m k) k (r (551 * m + k)) = q_ru z r m (k + 1) := by
  funext x
  show (if x = k then r (551 * m + k) else if x < k then r (551 * m + x) else z x) = if x < k + 1 then r (551 * m + x) else z x
  by_cases h : x = k
  · subst h; rw [if_pos rfl, if_pos (by omega)]
  · rw [if_neg h]
    by_cases h2 : x < k
    · rw [if_pos h2, if_pos (by omega)]
    · rw [if_neg h2, if_neg (by omega)]
def k_pw (p w : Int32) : Nat := if ¬ q_isP p then 1 else if ¬ (nI 0 ≤ w ∧ w ≤ nI 8) then 2 else 0
def k_fw (f w : Int32) : Nat := if ¬ q_isF f then 1 else if ¬ (nI 0 ≤ w ∧ w ≤ nI 5) then 2 else 0
def k_w (w : Int32) : Nat := if ¬ (nI 0 ≤ w ∧ w ≤ nI 8) then 1 else 0
def k_bl (p dep w : Int32) : Nat := if ¬ (q_isP p ∧ nI 1 ≤ dep ∧ dep ≤ nI 3) then 1 else if ¬ (nI 0 ≤ w ∧ w ≤ nI 3) then 2 else 0
def k_fpd (f p dep : Int32) : Nat := if ¬ (q_isF f ∧ q_isP p) then 1 else if ¬ (nI 1 ≤ dep ∧ dep ≤ nI 3) then 2 else 0
def k_fp (f p : Int32) : Nat := if ¬ (q_isF f ∧ q_isP p) then 1 else 0
def k_p (p : Int32) : Nat := if ¬ q_isP p then 1 else 0
theorem q_pp_rc {d : RW} {y : Int32} {rc rc2 : Nat → Bool} {p what : Nat} (h : rc p = rc2 p) : q_pp d y rc p what = q_pp d y rc2 p what := by unfold q_pp; rw [h]
theorem q_ct2_rc {d : RW} {y : Int32} {rc rc2 : Nat → Bool} {what : Nat} : ∀ n, (∀ p, p < n → rc p = rc2 p) → q_ct2 d y rc what n = q_ct2 d y rc2 what n := by
  intro n
  induction n with
  | zero => intro _; rfl
  | succ n ih =>
    intro h
    show ((q_ct2 d y rc what n + _) + nI (q_i2 d rc what n)) + _ = ((q_ct2 d y rc2 what n + _) + nI (q_i2 d rc2 what n)) + _
    rw [ih (fun p hp => h p (by omega)), show q_i2 d rc what n = q_i2 d rc2 what n by unfold q_i2; rw [h n (by omega)]]
theorem q_ctM_rc {d : RW} {y y2 s : Int32} {rc rc2 : Nat → Bool} {what : Nat} (h : ∀ p, p < 40 → rc p = rc2 p) : q_ctM d y y2 s rc what = q_ctM d y y2 s rc2 what := by unfold q_ctM; rw [q_ct2_rc 40 h]
theorem q_ow_rc {d : RW} {y : Int32} {rc rc2 : Nat → Bool} {f p : Nat} (h : rc p = rc2 p) : ∀ n, q_ow d y rc f p n = q_ow d y rc2 f p n := by
  intro n
  induction n with
  | zero => rfl
  | succ n ih => unfold q_ow; rw [ih, q_ref_rc h]
theorem q_bestM_rc {d : RW} {y : Int32} {rc rc2 : Nat → Bool} {f : Nat} : ∀ n, (∀ p, p < n → rc p = rc2 p) → q_bestM d y rc f n = q_bestM d y rc2 f n := by
  intro n
  induction n with
  | zero => intro _; rfl
  | succ n ih =>
    intro h
    unfold q_bestM
    rw [ih (fun p hp => h p (by omega)), q_ow_rc (h n (by omega))]
/-- the greatest of n depths that is not refused -/
def q_dpM (d : RW) (y : Int32) (rc : Nat → Bool) (f : Int32) (p : Nat) : Nat → Int32
  | 0 => -1
  | n + 1 => if q_ref d y rc f p (n + 1) = 0 then nI (n + 1) else q_dpM d y rc f p n
/-- the first year from 101 - m on, of m years, counted from yn, in which a burial is not refused -/
def q_yf (d : RW) (rc : Nat → Bool) (f : Int32) (p dep yn : Nat) : Nat → Int32
  | 0 => -1
  | m + 1 => if q_ref d (nI (yn + (100 - m))) rc f p dep = 0 then nI (yn + (100 - m)) else q_yf d rc f p dep yn m
/-- what a call that changes nothing leaves -/
def PQ (dC : Nat → ClassId) (dI : Nat → Nat → Nat) (cI : ClassId) (o : Nat) (t : Nat → Nat) (z0 r0 t0 : Nat → Int32) (s0 l0 : Int32) (cd : Nat) (H : Heap) : Prop :=
  ∃ (A' : RW) (i' : Nat → Int32) (h' : Int64), va_P (dC, dI) vwCl (MW cI o t A' i' h') H ∧ A' 0 = z0 ∧ A' 1 = r0 ∧ A' 2 = t0 ∧ i' 0 = s0 ∧ i' 1 = l0 ∧ i' 2 = nI cd
theorem upd_self (f : Nat → Int32) (k : Nat) : upd f k (f k) = f := by funext x; show (if x = k then f k else f x) = f x; split <;> first | (rename_i e; rw [e]) | rfl
noncomputable def q_rcb (d : RW) (b : Int32) (p : Nat) : Bool := @decide (p = 0 ∨ ∃ s q : Nat, s < 4 ∧ q_bsd p s = some q ∧ q_rn (q_op d b) 40 q) (Classical.propDecidable _)
theorem q_wr_rcb {d : RW} {b : Int32} {w : Nat → Int32} (hw : ∀ p, p < 40 → (w p = nI 1 ↔ q_rn (q_op d b) 40 p)) {p : Nat} (hp : p < 40) : q_wr w p = q_rcb d b p := by
  have e : (p = 0 ∨ ∃ s q : Nat, s < 4 ∧ q_bsd p s = some q ∧ w q = nI 1) ↔ (p = 0 ∨ ∃ s q : Nat, s < 4 ∧ q_bsd p s = some q ∧ q_rn (q_op d b) 40 q) := by
    constructor
    · rintro (h | ⟨s, q, h1, h2, h3⟩)
      · exact Or.inl h
      · exact Or.inr ⟨s, q, h1, h2, (hw q (q_bsd_lt hp h2)).mp h3⟩
    · rintro (h | ⟨s, q, h1, h2, h3⟩)
      · exact Or.inl h
      · exact Or.inr ⟨s, q, h1, h2, (hw q (q_bsd_lt hp h2)).mpr h3⟩
  have e2 := (q_wn_iff w p 4).trans e
  unfold q_wr q_rcb
  cases hb : q_wn w p 4 with
  | true => exact (@decide_eq_true _ (Classical.propDecidable _) (e2.mp hb)).symm
  | false => exact (@decide_eq_false _ (Classical.propDecidable _) (fun z => by rw [e2.mpr z] at hb; cases hb)).symm
abbrev q_cuP (d : RW) (rc : Nat → Bool) (m p : Nat) : Prop := p ≠ m ∧ d 3 p ≠ nI 3 ∧ rc p = true
def q_cu (d : RW) (rc : Nat → Bool) (m : Nat) : Nat := q_cn (fun p => q_cuP d rc m p) 40
abbrev q_nan (b : UInt64) : Prop := ¬ Op.cmpValue (FP.dcmp b b) CmpOp.l = 0
def q_d2b (b : UInt64) : Int64 := if q_nan b then 9221120237041090560 else b.toInt64
def q_mixv (h v : Int64) : Int64 := 31 * h + v
/-- h mixed with n numbers -/
def q_mxs (g : Nat → Int32) (h : Int64) : Nat → Int64
  | 0 => h
  | n + 1 => q_mixv (q_mxs g h n) (g n).toInt64
noncomputable def q_dgP (d : RW) (y : Int32) (h : Int64) : Nat → Int64
  | 0 => h
  | p + 1 => q_mixv (q_mxs (fun k => q_bp d y (p * 3 + k / 4) (k % 4)) (q_mxs (fun k => q_pp d y (q_rc d) p k) (q_dgP d y h p) 9) 12) (q_yoM d y p 3).toInt64
noncomputable def q_dgF (d : RW) (y : Int32) (h : Int64) : Nat → Int64
  | 0 => h
  | f + 1 => q_mixv (q_mxs (fun k => q_fpM d y f k) (q_dgF d y h f) 6) (oN (q_bestM d y (q_rc d) f 40).1).toInt64
noncomputable def q_dig (d : RW) (y s : Int32) (len : Nat) (tx : Nat → Int32) : Int64 :=
  q_mxs tx (q_mixv (q_mixv (q_dgF d y (q_dgP d y (q_mxs (fun k => q_ctM d y y s (q_rc d) k) 2267 9) 40) 10) (q_d2b (q_meanM d))) (nI len).toInt64) len
theorem q_cu_rc {d : RW} {rc rc2 : Nat → Bool} {m : Nat} (h : ∀ k, k < 40 → rc k = rc2 k) : q_cu d rc m = q_cu d rc2 m := q_cn_congr 40 (fun k hk => by show (k ≠ m ∧ d 3 k ≠ nI 3 ∧ rc k = true) ↔ (k ≠ m ∧ d 3 k ≠ nI 3 ∧ rc2 k = true); rw [h k hk])
theorem MW_D {K : Nat → Prop} {cI : ClassId} {o : Nat} {t : Nat → Nat} {A A' : RW} {i i' : Nat → Int32} {h h' : Int64} (hD : va_D K (MW cI o t A i h)) : va_D K (MW cI o t A' i' h') := hD.fst rfl
