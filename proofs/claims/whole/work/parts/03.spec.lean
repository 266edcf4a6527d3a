-- what the answers are, in my words
theorem dk_lnl {a b : Int64} (h : ¬ a < b) : b ≤ a := by
  rw [Int64.le_iff_toInt_le]; rw [Int64.lt_iff_toInt_lt] at h; omega
theorem dk_lnle {a b : Int64} (h : a < b) : ¬ b ≤ a := by
  rw [Int64.le_iff_toInt_le]; rw [Int64.lt_iff_toInt_lt] at h; omega
theorem dk_inl {a b : Int32} (h : ¬ a < b) : b ≤ a := by
  rw [Int32.le_iff_toInt_le]; rw [Int32.lt_iff_toInt_lt] at h; omega
theorem dk_inle {a b : Int32} (h : ¬ a ≤ b) : b < a := by
  rw [Int32.lt_iff_toInt_lt]; rw [Int32.le_iff_toInt_le] at h; omega
theorem dk_pos {x : Int32} (h0 : ¬ x < 0) (h : ¬ nI 200 ≤ x) : ∃ j : Nat, j < 200 ∧ x = nI j := by
  rcases pk_ix x (n := 200) (by omega) with q | q | q
  · exact absurd q h0
  · exact absurd q h
  · exact q
theorem dk_min {a b : Nat} (ha : a < 2 ^ 31) (hb : b < 2 ^ 31) : (if nI b < nI a then nI b else nI a) = nI (min a b) := by
  by_cases h : b < a
  · rw [if_pos ((nI_ltI hb ha).mpr h), Nat.min_eq_right (by omega)]
  · rw [if_neg (fun q => h ((nI_ltI hb ha).mp q)), Nat.min_eq_left (by omega)]
theorem dk_ticks {x : Int32} (h1 : ¬ x < 1) (h2 : x ≤ nI 100000) : ∃ n : Nat, 1 ≤ n ∧ n ≤ 100000 ∧ x = nI n := by
  have h0 : ¬ x < 0 := fun q => h1 (by
    rw [Int32.lt_iff_toInt_lt] at q ⊢
    have e0 : (0 : Int32).toInt = 0 := by decide
    have e1 : (1 : Int32).toInt = 1 := by decide
    omega)
  obtain ⟨j, hj, rfl⟩ := nI_of h0
  refine ⟨j, ?_, (nI_leI hj (by omega)).mp h2, rfl⟩
  rcases Nat.eq_zero_or_pos j with q | q
  · rw [q] at h1; exact absurd (by decide) h1
  · exact q
/-- a number that a switch over 0 .. 4 reads -/
theorem dk_sw5 (x : Int32) : x = 0 ∨ x = 1 ∨ x = 2 ∨ x = 3 ∨ x = 4 ∨ (x.toInt < 0 ∨ 4 < x.toInt) := by
  have e0 : (0 : Int32).toInt = 0 := by decide
  have e1 : (1 : Int32).toInt = 1 := by decide
  have e2 : (2 : Int32).toInt = 2 := by decide
  have e3 : (3 : Int32).toInt = 3 := by decide
  have e4 : (4 : Int32).toInt = 4 := by decide
  simp only [← Int32.toInt_inj]
  omega
def dk_iR (t : Nat) : Prop := 150 ≤ t ∧ t ≤ 900 ∧ t % 50 = 0
def dk_rU (t : Nat) : Nat := if t < 150 then 0 else (min t 900 - 150) / 50 + 1
def dk_nR (t : Nat) : Nat := if 900 ≤ t then 1150 else 150 + dk_rU t * 50
def dk_nP (t : Nat) : Nat := if t < 100 then 100 else if t < 700 then 700 else if t < 800 then 800 else if t < 900 then 900 else 1000
def dk_ph (t : Nat) : Nat := if t < 100 then 0 else if t < 700 then 1 else if t < 800 then 2 else if t < 900 then 3 else 4
def dk_pA (t : Nat) : Nat := (if 150 ≤ t ∧ t ≤ 900 ∧ t % 50 = 0 then 1 else 0) + (if t = 900 then 2 else 0) + (if t = 0 then 4 else 0)
def dk_cE (x : Int32) : Prop := x = 3 ∨ x = 4 ∨ x = 5 ∨ x = 6 ∨ x = 13
def dk_cS (x : Int32) : Prop := dk_cE x ∨ x = 7 ∨ x = 8
def dk_may (t : Nat) (x pr mo : Int32) : Prop := ¬ x < 0 ∧ x ≤ 14 ∧ (t < 100 → ¬ dk_cE x) ∧ (700 ≤ t → t < 800 → ¬ x = 5 ∨ pr ≤ 4) ∧ (800 ≤ t → t < 900 → ¬ x = 5 ∨ ¬ mo = 0) ∧ (900 ≤ t → ¬ dk_cS x)
def dk_look (d : Int32) (t : Nat) (x r : Int32) : Prop := (x = 0 ∧ r = d) ∨ (x = 1 ∧ r = nI t) ∨ (x = 2 ∧ r = nI (dk_ph t)) ∨ (x = 3 ∧ r = nI (dk_nR t - t)) ∨ (x = 4 ∧ r = nI (dk_nP t - t)) ∨ ((x.toInt < 0 ∨ 4 < x.toInt) ∧ r = -1)
/-- what the beginning of b days makes of opening, went, came, moved -/
def dk_Op (b : Nat) (fo fw fc fn fm go gw gc gm : Nat → Int64) : Prop := (b = 0 ∧ go = fo ∧ gw = fw ∧ gc = fc ∧ gm = fm) ∨ (0 < b ∧ ∀ j, j < 200 → go j = fn j ∧ gw j = 0 ∧ gc j = 0 ∧ gm j = 0)
def dk_in (v b : Int64) : Prop := -b ≤ v ∧ v ≤ b
def dk_neg (v : Int64) : Int64 := if v < 0 then -v else 0
def dk_ps (v : Int64) : Int64 := if 0 < v then v else 0
theorem dk_rU_le (t : Nat) : dk_rU t ≤ 16 := by
  unfold dk_rU; split <;> omega
theorem dk_rU_mono {a b : Nat} (h : a ≤ b) : dk_rU a ≤ dk_rU b := by
  unfold dk_rU; (repeat' split) <;> omega
theorem dk_nR_lt {t : Nat} (h : t < 1000) : t < dk_nR t ∧ dk_nR t < 2000 := by
  unfold dk_nR dk_rU; (repeat' split) <;> omega
theorem dk_nP_lt {t : Nat} (h : t < 1000) : t < dk_nP t ∧ dk_nP t < 2000 := by
  unfold dk_nP; (repeat' split) <;> omega
/-- characters put into a row from place n on -/
def dk_ap (f : Nat → Int32) (n : Nat) : List Nat → Nat → Int32
  | [] => f
  | c :: cs => dk_ap (upd f n (nI c)) (n + 1) cs
theorem dk_ap_app (f : Nat → Int32) (n : Nat) (a b : List Nat) : dk_ap f n (a ++ b) = dk_ap (dk_ap f n a) (n + a.length) b := by
  induction a generalizing f n with
  | nil => rfl
  | cons c cs ih =>
    show dk_ap (upd f n (nI c)) (n + 1) (cs ++ b) = _
    rw [ih, List.length_cons, show n + 1 + cs.length = n + (cs.length + 1) from by omega]
    rfl
theorem dk_ap_lo (f : Nat → Int32) (n : Nat) (a : List Nat) {i : Nat} (h : i < n) : dk_ap f n a i = f i := by
  induction a generalizing f n with
  | nil => rfl
  | cons c cs ih =>
    show dk_ap (upd f n (nI c)) (n + 1) cs i = _
    rw [ih _ _ (by omega), pk_un (by omega)]
theorem dk_ap_at (f : Nat → Int32) (n : Nat) (a : List Nat) {i : Nat} (h : i < a.length) : dk_ap f n a (n + i) = nI (a.getD i 0) := by
  induction a generalizing f n i with
  | nil => exact absurd h (Nat.not_lt_zero _)
  | cons c cs ih =>
    cases i with
    | zero =>
      show dk_ap (upd f n (nI c)) (n + 1) cs (n + 0) = _
      rw [dk_ap_lo _ _ _ (by omega), Nat.add_zero, pk_us]; rfl
    | succ i =>
      show dk_ap (upd f n (nI c)) (n + 1) cs (n + (i + 1)) = _
      rw [show n + (i + 1) = n + 1 + i from by omega, ih _ _ (by simpa using h)]; rfl
/-- the digits of z from the place of 10 ^ k down, none ahead of the first that isn't 0 but the last -/
def dk_dg : Nat → Nat → List Nat
  | 0, z => [48 + z % 10]
  | k + 1, z => (if 10 ^ (k + 1) ≤ z then [48 + z / 10 ^ (k + 1) % 10] else []) ++ dk_dg k z
/-- a number in digits, - before one below 0 -/
def dk_num (v : Int64) : List Nat := (if v < 0 then [45] else []) ++ dk_dg 18 (v.toInt.natAbs)
theorem dk_dg_len (k z : Nat) : (dk_dg k z).length ≤ k + 1 := by
  induction k with
  | zero => exact Nat.le_refl _
  | succ k ih =>
    show ((if 10 ^ (k + 1) ≤ z then [48 + z / 10 ^ (k + 1) % 10] else []) ++ dk_dg k z).length ≤ _
    rw [List.length_append]
    split
    · rw [List.length_singleton]; omega
    · rw [List.length_nil]; omega
theorem dk_num_len (v : Int64) : (dk_num v).length ≤ 20 := by
  unfold dk_num
  rw [List.length_append]
  have h := dk_dg_len 18 v.toInt.natAbs
  split
  · rw [List.length_singleton]; omega
  · rw [List.length_nil]; omega
/-- the row of a position -/
def dk_txt (a b c d e : Int64) : List Nat := dk_num a ++ ([32] ++ (dk_num b ++ ([32] ++ (dk_num c ++ ([32] ++ (dk_num d ++ ([32] ++ dk_num e)))))))
theorem dk_txt_len (a b c d e : Int64) : (dk_txt a b c d e).length ≤ 104 := by
  unfold dk_txt
  have h1 := dk_num_len a
  have h2 := dk_num_len b
  have h3 := dk_num_len c
  have h4 := dk_num_len d
  have h5 := dk_num_len e
  simp only [List.length_append, List.length_singleton]
  omega
theorem dk_ap_nil (f : Nat → Int32) (n : Nat) : dk_ap f n [] = f := rfl
theorem dk_ap_cons (f : Nat → Int32) (n c : Nat) (cs : List Nat) : dk_ap f n (c :: cs) = dk_ap (upd f n (nI c)) (n + 1) cs := rfl
theorem dk_l0 : (0 : Int64).toInt = 0 := by decide
theorem dk_llt0 {v : Int64} (h : ¬ 0 ≤ v) : v < 0 := by
  rw [Int64.lt_iff_toInt_lt]; rw [Int64.le_iff_toInt_le] at h; omega
theorem dk_lge0 {v : Int64} (h : 0 ≤ v) : ¬ v < 0 := by
  rw [Int64.lt_iff_toInt_lt]; rw [Int64.le_iff_toInt_le] at h; omega
theorem dk_neg_ge {v : Int64} (h : 0 ≤ v) : (0 : Int64) = dk_neg v := by
  unfold dk_neg; rw [if_neg (dk_lge0 h)]
theorem dk_neg_lt {v : Int64} (h : ¬ 0 ≤ v) : -v = dk_neg v := by
  unfold dk_neg; rw [if_pos (dk_llt0 h)]
theorem dk_ps_le {v : Int64} (h : v ≤ 0) : (0 : Int64) = dk_ps v := by
  unfold dk_ps; rw [if_neg (fun q => dk_lnle q h)]
theorem dk_ps_gt {v : Int64} (h : ¬ v ≤ 0) : v = dk_ps v := by
  unfold dk_ps; rw [if_pos (by rw [Int64.lt_iff_toInt_lt]; rw [Int64.le_iff_toInt_le] at h; omega)]
theorem dk_lanti {v : Int64} (h : 0 ≤ v) (h2 : v ≤ 0) : v = 0 := by
  rw [Int64.le_iff_toInt_le] at h h2; exact Int64.toInt_inj.mp (by omega)
theorem dk_lnle' {v : Int64} (h : ¬ 0 ≤ v) : v ≤ 0 := by
  rw [Int64.le_iff_toInt_le] at h ⊢; omega
theorem dk_p10 {k : Nat} (h : k ≤ 18) : 0 < 10 ^ k ∧ 10 ^ k ≤ 1000000000000000000 := ⟨Nat.pow_pos (by decide), Nat.le_trans (Nat.pow_le_pow_right (by decide) h) (by decide)⟩
theorem dk_lne {n : Nat} (h0 : 0 < n) (h : n < 2 ^ 63) : ¬ lN n = 0 := fun q => by
  have a := pk_lT h
  rw [q, dk_l0] at a; omega
theorem dk_lpos {n : Nat} (h0 : 0 < n) (h : n < 2 ^ 63) : ¬ lN n ≤ 0 := fun q => by
  rw [Int64.le_iff_toInt_le, pk_lT h, dk_l0] at q; omega
theorem dk_dlt {z k m : Nat} (h : z < m) : z / k < m := Nat.lt_of_le_of_lt (Nat.div_le_self _ _) h
theorem dk_chr {n : Nat} (h : n < 65536) : ((nI n).toUInt32 % 65536).toInt32 = nI n := by
  rw [pk_char, pk_tn (by omega), Nat.mod_eq_of_lt h]
theorem dk_absP {v : Int64} (h : 0 ≤ v) : v = lN v.toInt.natAbs := by
  rw [Int64.le_iff_toInt_le, dk_l0] at h
  have a := v.toInt_lt
  exact Int64.toInt_inj.mp (by rw [pk_lT (by omega)]; omega)
theorem dk_negT {v : Int64} (h : -9223372036854775808 < v.toInt) : (-v).toInt = -v.toInt := by
  have a := v.toInt_lt
  rw [Int64.toInt_neg]
  exact Int.bmod_eq_of_le (by omega) (by omega)
theorem dk_absN {v : Int64} (h : ¬ 0 ≤ v) (hv : -9223372036854775808 < v.toInt) : -v = lN v.toInt.natAbs := by
  rw [Int64.le_iff_toInt_le, dk_l0] at h
  have a := v.toInt_lt
  exact Int64.toInt_inj.mp (by rw [pk_lT (by omega), dk_negT hv]; omega)
theorem dk_skip_le (t n : Nat) (h : t < 1000) : dk_rU t ≤ (t + n) / 1000 * 16 + dk_rU ((t + n) % 1000) := by
  have a := dk_rU_le t
  rcases Nat.eq_zero_or_pos ((t + n) / 1000) with q | q
  · have b := dk_rU_mono (a := t) (b := (t + n) % 1000) (by omega)
    omega
  · omega
/-- what move answers and does -/
def dk_mv (x : Int32) (v : Int64) (fw fc fn fm : Nat → Int64) (r : Int32) (gw gc gn gm : Nat → Int64) : Prop :=
  (r = -1 ∧ gw = fw ∧ gc = fc ∧ gn = fn ∧ gm = fm ∧ ((x < 0 ∨ nI 200 ≤ x) ∨ ¬ dk_in v 10000000000000000 ∨ ∃ j : Nat, j < 200 ∧ x = nI j ∧ ¬ v = 0 ∧ ¬ (dk_in (fn j + v) 9000000000000000000 ∧ dk_in (fw j + dk_neg v) 9000000000000000000 ∧ dk_in (fc j + dk_ps v) 9000000000000000000))) ∨
  (r = 0 ∧ gw = fw ∧ gc = fc ∧ gn = fn ∧ gm = fm ∧ v = 0 ∧ ∃ j : Nat, j < 200 ∧ x = nI j) ∨
  (r = 1 ∧ ∃ j : Nat, j < 200 ∧ x = nI j ∧ dk_in v 10000000000000000 ∧ ¬ v = 0 ∧ dk_in (fn j + v) 9000000000000000000 ∧ dk_in (fw j + dk_neg v) 9000000000000000000 ∧ dk_in (fc j + dk_ps v) 9000000000000000000 ∧ gw = vp_updL fw j (fw j + dk_neg v) ∧ gc = vp_updL fc j (fc j + dk_ps v) ∧ gn = vp_updL fn j (fn j + v) ∧ gm = vp_updL fm j (fm j + 1))
theorem dk_dg_lt (k : Nat) {z : Nat} (h : z < 10) : dk_dg k z = [48 + z] := by
  induction k with
  | zero => show [48 + z % 10] = _; rw [Nat.mod_eq_of_lt h]
  | succ k ih =>
    show (if 10 ^ (k + 1) ≤ z then [48 + z / 10 ^ (k + 1) % 10] else []) ++ dk_dg k z = _
    have a : 10 ^ (k + 1) = 10 ^ k * 10 := Nat.pow_succ ..
    have b : 0 < 10 ^ k := Nat.pow_pos (by decide)
    rw [if_neg (by omega), ih]; rfl
theorem dk_dg_s (k z : Nat) (h : 10 ≤ z) : dk_dg (k + 1) z = dk_dg k (z / 10) ++ [48 + z % 10] := by
  induction k with
  | zero =>
    show (if 10 ^ (0 + 1) ≤ z then [48 + z / 10 ^ (0 + 1) % 10] else []) ++ [48 + z % 10] = [48 + z / 10 % 10] ++ [48 + z % 10]
    rw [if_pos (by simpa using h)]
  | succ k ih =>
    show (if 10 ^ (k + 1 + 1) ≤ z then [48 + z / 10 ^ (k + 1 + 1) % 10] else []) ++ dk_dg (k + 1) z = ((if 10 ^ (k + 1) ≤ z / 10 then [48 + z / 10 / 10 ^ (k + 1) % 10] else []) ++ dk_dg k (z / 10)) ++ [48 + z % 10]
    rw [ih, Nat.div_div_eq_div_mul, show 10 * 10 ^ (k + 1) = 10 ^ (k + 1 + 1) from by rw [Nat.pow_succ 10 (k + 1), Nat.mul_comm]]
    have e : (10 ^ (k + 1) ≤ z / 10) ↔ (10 ^ (k + 1 + 1) ≤ z) := by rw [Nat.le_div_iff_mul_le (by decide), ← Nat.pow_succ]
    by_cases q : 10 ^ (k + 1 + 1) ≤ z
    · rw [if_pos q, if_pos (e.mpr q), List.append_assoc]
    · rw [if_neg q, if_neg (fun w => q (e.mp w)), List.append_assoc]
