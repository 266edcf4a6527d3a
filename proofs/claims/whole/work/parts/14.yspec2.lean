-- more words for the reference
def dk_wk (x : Int32) : Prop := (¬ x < 3 ∧ x ≤ 6) ∨ x = 13
theorem dk_wk_iff (x : Int32) : dk_wk x ↔ dk_cE x := by
  unfold dk_wk dk_cE
  have e3 : (3 : Int32).toInt = 3 := by decide
  have e4 : (4 : Int32).toInt = 4 := by decide
  have e5 : (5 : Int32).toInt = 5 := by decide
  have e6 : (6 : Int32).toInt = 6 := by decide
  have e13 : (13 : Int32).toInt = 13 := by decide
  simp only [← Int32.toInt_inj, Int32.lt_iff_toInt_lt, Int32.le_iff_toInt_le]
  omega
def dk_g1 (x : Int32) : Prop := ¬ x < 0 ∧ x ≤ 14
def dk_g2 (t : Nat) (x : Int32) : Prop := dk_g1 x ∧ ¬ (dk_ph t = 0 ∧ dk_wk x) ∧ ¬ (dk_ph t = 4 ∧ (dk_wk x ∨ x = 7 ∨ x = 8))
theorem dk_may_iff (t : Nat) (x pr mo : Int32) : dk_may t x pr mo ↔ (dk_g2 t x ∧ ¬ (x = 5 ∧ (dk_ph t = 2 ∧ 4 < pr ∨ dk_ph t = 3 ∧ mo = 0))) := by
  have p0 : dk_ph t = 0 ↔ t < 100 := by unfold dk_ph; (repeat' split) <;> omega
  have p2 : dk_ph t = 2 ↔ (700 ≤ t ∧ t < 800) := by unfold dk_ph; (repeat' split) <;> omega
  have p3 : dk_ph t = 3 ↔ (800 ≤ t ∧ t < 900) := by unfold dk_ph; (repeat' split) <;> omega
  have p4 : dk_ph t = 4 ↔ 900 ≤ t := by unfold dk_ph; (repeat' split) <;> omega
  unfold dk_may dk_g2 dk_g1 dk_cS
  rw [p0, p2, p3, p4, dk_wk_iff]
  constructor
  · rintro ⟨h1, h2, h3, h4, h5, h6⟩
    refine ⟨⟨⟨h1, h2⟩, fun q => h3 q.1 q.2, fun q => h6 q.1 q.2⟩, ?_⟩
    rintro ⟨q1, ⟨⟨a, b⟩, c⟩ | ⟨⟨a, b⟩, c⟩⟩
    · exact (h4 a b).elim (fun z => z q1) (fun z => (Int32.not_le.mpr c) z)
    · exact (h5 a b).elim (fun z => z q1) (fun z => z c)
  · rintro ⟨⟨⟨h1, h2⟩, h3, h6⟩, h⟩
    refine ⟨h1, h2, fun a q => h3 ⟨a, q⟩, fun a b => ?_, fun a b => ?_, fun a q => h6 ⟨a, q⟩⟩
    · by_cases q : x = 5
      · exact Or.inr (dk_inl (fun z => h ⟨q, Or.inl ⟨⟨a, b⟩, z⟩⟩))
      · exact Or.inl q
    · by_cases q : x = 5
      · exact Or.inr (fun z => h ⟨q, Or.inr ⟨⟨a, b⟩, z⟩⟩)
      · exact Or.inl q
theorem dk_nR_b {t : Nat} (h : t < 1000) : dk_nR t ≤ 1150 := by
  unfold dk_nR dk_rU; (repeat' split) <;> omega
theorem dk_nP_b (t : Nat) : dk_nP t ≤ 1000 := by
  unfold dk_nP; (repeat' split) <;> omega
/-- what the reference's move answers and does -/
def dk_ok (O : Nat → Int64) (mo : Nat → Int32) (mb : Nat → Int64) (k j : Nat) (v : Int64) : Prop := dk_in v 10000000000000000 ∧ dk_in (dk_y3 O mo mb k j + v) 9000000000000000000 ∧ dk_in (if v < 0 then dk_yw mo mb (nI j) k - v else dk_yc mo mb (nI j) k + v) 9000000000000000000
def dk_ymv (O : Nat → Int64) (mo : Nat → Int32) (mb : Nat → Int64) (k : Nat) (x : Int32) (v : Int64) (r : Int32) (k2 : Nat) (mo2 : Nat → Int32) (mb2 : Nat → Int64) : Prop :=
  (r = -1 ∧ k2 = k ∧ mo2 = mo ∧ mb2 = mb ∧ ((x < 0 ∨ nI 200 ≤ x) ∨ ∃ j : Nat, j < 200 ∧ x = nI j ∧ ¬ dk_ok O mo mb k j v)) ∨
  (r = 0 ∧ k2 = k ∧ mo2 = mo ∧ mb2 = mb ∧ v = 0 ∧ ∃ j : Nat, j < 200 ∧ x = nI j ∧ dk_ok O mo mb k j v) ∨
  (r = 1 ∧ ∃ j : Nat, j < 200 ∧ x = nI j ∧ ¬ v = 0 ∧ dk_ok O mo mb k j v ∧ k2 = k + 1 ∧ mo2 = upd mo k (nI j) ∧ mb2 = vp_updL mb k v)
/-- the digits of z from the place of 10 ^ (D - 1) down -/
def dk_dd : Nat → Nat → List Nat
  | 0, _ => []
  | k + 1, z => (48 + z / 10 ^ k % 10) :: dk_dd k z
theorem dk_dd_len (D z : Nat) : (dk_dd D z).length = D := by
  induction D with
  | zero => rfl
  | succ k ih => show (dk_dd k z).length + 1 = k + 1; rw [ih]
theorem dk_dg_dd (k z : Nat) (h : k = 0 ∨ 10 ^ k ≤ z) : dk_dg k z = dk_dd (k + 1) z := by
  induction k with
  | zero => show [48 + z % 10] = [48 + z / 10 ^ 0 % 10]; rw [Nat.pow_zero, Nat.div_one]
  | succ k ih =>
    have a : 10 ^ (k + 1) = 10 ^ k * 10 := Nat.pow_succ ..
    have hz : 10 ^ (k + 1) ≤ z := by rcases h with h | h <;> omega
    show (if 10 ^ (k + 1) ≤ z then [48 + z / 10 ^ (k + 1) % 10] else []) ++ dk_dg k z = (48 + z / 10 ^ (k + 1) % 10) :: dk_dd (k + 1) z
    rw [if_pos hz, ih (Or.inr (by omega))]; rfl
theorem dk_dg_drop (m j z : Nat) (h : z < 10 ^ (m + 1)) : dk_dg (m + j) z = dk_dg m z := by
  induction j with
  | zero => rfl
  | succ j ih =>
    have a : 10 ^ (m + 1) ≤ 10 ^ (m + j + 1) := Nat.pow_le_pow_right (by decide) (by omega)
    show (if 10 ^ (m + j + 1) ≤ z then [48 + z / 10 ^ (m + j + 1) % 10] else []) ++ dk_dg (m + j) z = _
    rw [if_neg (by omega), ih]; rfl
theorem dk_dg_D {D z : Nat} (h1 : 1 ≤ D) (h19 : D ≤ 19) (h : D = 1 ∨ 10 ^ (D - 1) ≤ z) (hz : z < 10 ^ D) : dk_dg 18 z = dk_dd D z := by
  obtain ⟨k, rfl⟩ : ∃ k, D = k + 1 := ⟨D - 1, by omega⟩
  have a := dk_dg_drop k (18 - k) z hz
  rw [show k + (18 - k) = 18 from by omega] at a
  rw [a]
  exact dk_dg_dd k z (h.elim (fun q => Or.inl (by omega)) (fun q => Or.inr q))
theorem dk_t10 : (lN 10).toInt = 10 := by decide
theorem dk_dv (w : Int64) : (w / lN 10).toInt.natAbs = w.toInt.natAbs / 10 := by
  rw [Int64.toInt_div_of_ne_right _ _ (by decide), dk_t10, Int.natAbs_tdiv]; rfl
theorem dk_rm (w : Int64) : (w - w / lN 10 * lN 10).toInt.natAbs = w.toInt.natAbs % 10 := by
  have q1 : (w / lN 10).toInt = w.toInt.tdiv 10 := by rw [Int64.toInt_div_of_ne_right _ _ (by decide), dk_t10]
  have q2 := dk_dv w
  have a := w.toInt_lt
  have b := w.le_toInt
  have c : (w.toInt.tmod 10).natAbs = w.toInt.natAbs % 10 := by rw [Int.natAbs_tmod]; rfl
  have d : w.toInt.tmod 10 = w.toInt - 10 * w.toInt.tdiv 10 := Int.tmod_def _ _
  rw [q1] at q2
  have e1 : (w / lN 10 * lN 10).toInt = w.toInt.tdiv 10 * 10 := by
    rw [Int64.toInt_mul, q1, dk_t10]
    exact Int.bmod_eq_of_le (by omega) (by omega)
  have e2 : (w - w / lN 10 * lN 10).toInt = w.toInt.tmod 10 := by
    rw [Int64.toInt_sub, e1, d]
    rw [d] at c
    have f : w.toInt - w.toInt.tdiv 10 * 10 = w.toInt - 10 * w.toInt.tdiv 10 := by omega
    rw [f]
    exact Int.bmod_eq_of_le (by omega) (by omega)
  rw [e2, c]
theorem dk_z0 {w : Int64} : w = 0 ↔ w.toInt.natAbs = 0 := by
  rw [← Int64.toInt_inj, dk_l0]; omega
theorem dk_abs0 {w : Int64} {z : Nat} (hz : w.toInt.natAbs = z) (h : z < 10) (hp : 0 ≤ w) : w = lN z := by
  rw [dk_absP hp, hz]
theorem dk_abs1 {w : Int64} {z : Nat} (hz : w.toInt.natAbs = z) (h : z < 10) (hp : ¬ 0 ≤ w) : -w = lN z := by
  rw [dk_absN hp (by omega), hz]
theorem dk_sm1 {D : Nat} (h : 1 ≤ D) : nI D - 1 = nI D + (-1) := by
  obtain ⟨k, rfl⟩ : ∃ k, D = k + 1 := ⟨D - 1, by omega⟩
  rw [nI_pred, pk_m1]
theorem dk_divs (z k : Nat) : z / 10 ^ k / 10 = z / 10 ^ (k + 1) := by
  rw [Nat.div_div_eq_div_mul, Nat.pow_succ]
theorem dk_div0 {z D : Nat} : z / 10 ^ D = 0 ↔ z < 10 ^ D := by
  rw [Nat.div_eq_zero_iff]
  have a : 0 < 10 ^ D := Nat.pow_pos (by decide)
  omega
theorem dk_z19 (v : Int64) : v.toInt.natAbs < 10 ^ 19 := by
  have a := v.toInt_lt
  have b := v.le_toInt
  omega
theorem dk_no4 {x : Int32} (h : x ≤ 4) (h3 : 3 ≤ x) (hsw : x.toInt < 0 ∨ 4 < x.toInt) : False := by
  have e4 : (4 : Int32).toInt = 4 := by decide
  have e3 : (3 : Int32).toInt = 3 := by decide
  rw [Int32.le_iff_toInt_le] at h h3
  omega
theorem dk_18 {z D : Nat} (h : 10 ^ D ≤ z) (hz : z < 10 ^ 19) (h19 : D ≤ 19) : D ≤ 18 := by
  rcases Nat.lt_or_ge D 19 with q | q
  · omega
  · have e : D = 19 := by omega
    rw [e] at h
    omega
