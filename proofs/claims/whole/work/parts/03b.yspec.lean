-- the reference's state in my words: what went, came, how often, by its list of moves
def dk_yw (mo : Nat → Int32) (mb : Nat → Int64) (p : Int32) : Nat → Int64
  | 0 => 0
  | k + 1 => if mo k = p then (if mb k < 0 then dk_yw mo mb p k - mb k else dk_yw mo mb p k) else dk_yw mo mb p k
def dk_yc (mo : Nat → Int32) (mb : Nat → Int64) (p : Int32) : Nat → Int64
  | 0 => 0
  | k + 1 => if mo k = p then (if 0 < mb k then dk_yc mo mb p k + mb k else dk_yc mo mb p k) else dk_yc mo mb p k
def dk_yn (mo : Nat → Int32) (p : Int32) : Nat → Nat
  | 0 => 0
  | k + 1 => if mo k = p then dk_yn mo p k + 1 else dk_yn mo p k
def dk_y3 (O : Nat → Int64) (mo : Nat → Int32) (mb : Nat → Int64) (k j : Nat) : Int64 := O j - dk_yw mo mb (nI j) k + dk_yc mo mb (nI j) k
theorem dk_yw_n {mo : Nat → Int32} {mb : Nat → Int64} {p : Int32} {i : Nat} (h : mo i = p) (h2 : ¬ 0 ≤ mb i) : dk_yw mo mb p i - mb i = dk_yw mo mb p (i + 1) := by
  show _ = if mo i = p then (if mb i < 0 then dk_yw mo mb p i - mb i else dk_yw mo mb p i) else dk_yw mo mb p i
  rw [if_pos h, if_pos (dk_llt0 h2)]
theorem dk_yw_p {mo : Nat → Int32} {mb : Nat → Int64} {p : Int32} {i : Nat} (h : mo i = p) (h2 : 0 ≤ mb i) : dk_yw mo mb p i = dk_yw mo mb p (i + 1) := by
  show _ = if mo i = p then (if mb i < 0 then dk_yw mo mb p i - mb i else dk_yw mo mb p i) else dk_yw mo mb p i
  rw [if_pos h, if_neg (dk_lge0 h2)]
theorem dk_yw_ne {mo : Nat → Int32} {mb : Nat → Int64} {p : Int32} {i : Nat} (h : ¬ mo i = p) : dk_yw mo mb p (i + 1) = dk_yw mo mb p i := by
  show (if mo i = p then (if mb i < 0 then dk_yw mo mb p i - mb i else dk_yw mo mb p i) else dk_yw mo mb p i) = _
  rw [if_neg h]
theorem dk_gt0 {v : Int64} (h : ¬ v ≤ 0) : 0 < v := by
  rw [Int64.lt_iff_toInt_lt]; rw [Int64.le_iff_toInt_le] at h; omega
theorem dk_yc_p {mo : Nat → Int32} {mb : Nat → Int64} {p : Int32} {i : Nat} (h : mo i = p) (h2 : ¬ mb i ≤ 0) : dk_yc mo mb p i + mb i = dk_yc mo mb p (i + 1) := by
  show _ = if mo i = p then (if 0 < mb i then dk_yc mo mb p i + mb i else dk_yc mo mb p i) else dk_yc mo mb p i
  rw [if_pos h, if_pos (dk_gt0 h2)]
theorem dk_yc_n {mo : Nat → Int32} {mb : Nat → Int64} {p : Int32} {i : Nat} (h : mo i = p) (h2 : mb i ≤ 0) : dk_yc mo mb p i = dk_yc mo mb p (i + 1) := by
  show _ = if mo i = p then (if 0 < mb i then dk_yc mo mb p i + mb i else dk_yc mo mb p i) else dk_yc mo mb p i
  rw [if_pos h, if_neg (fun q => dk_lnle q h2)]
theorem dk_yc_ne {mo : Nat → Int32} {mb : Nat → Int64} {p : Int32} {i : Nat} (h : ¬ mo i = p) : dk_yc mo mb p (i + 1) = dk_yc mo mb p i := by
  show (if mo i = p then (if 0 < mb i then dk_yc mo mb p i + mb i else dk_yc mo mb p i) else dk_yc mo mb p i) = _
  rw [if_neg h]
theorem dk_yn_s {mo : Nat → Int32} {p : Int32} {i : Nat} (h : mo i = p) : dk_yn mo p i + 1 = dk_yn mo p (i + 1) := by
  show _ = if mo i = p then dk_yn mo p i + 1 else dk_yn mo p i
  rw [if_pos h]
theorem dk_yn_ne {mo : Nat → Int32} {p : Int32} {i : Nat} (h : ¬ mo i = p) : dk_yn mo p (i + 1) = dk_yn mo p i := by
  show (if mo i = p then dk_yn mo p i + 1 else dk_yn mo p i) = _
  rw [if_neg h]
theorem dk_yn_le (mo : Nat → Int32) (p : Int32) (k : Nat) : dk_yn mo p k ≤ k := by
  induction k with
  | zero => exact Nat.le_refl _
  | succ k ih =>
    show (if mo k = p then dk_yn mo p k + 1 else dk_yn mo p k) ≤ _
    split <;> omega
/-- how often gridlock has been resolved when tick T of all has come -/
def dk_R (T : Nat) : Nat := T / 1000 * 16 + dk_rU (T % 1000)
theorem dk_R_s (T : Nat) : dk_R (T + 1) = dk_R T + dk_pA ((T + 1) % 1000) % 2 := by
  unfold dk_R dk_rU dk_pA
  (repeat' split) <;> omega
theorem dk_R_le (T n : Nat) : dk_R T ≤ dk_R (T + n) := by
  induction n with
  | zero => exact Nat.le_refl _
  | succ n ih => have a := dk_R_s (T + n); rw [Nat.add_assoc] at a; omega
theorem dk_pA_lt (t : Nat) : dk_pA t < 8 := by
  unfold dk_pA; (repeat' split) <;> omega
theorem dk_nR_no {t n : Nat} (ht : t < 1000) (h1 : 1 ≤ n) (h : t + n < dk_nR t) : ¬ dk_iR ((t + n) % 1000) := by
  unfold dk_nR dk_rU at h; unfold dk_iR
  revert h; (repeat' split) <;> omega
theorem dk_nR_yes {t : Nat} (ht : t < 1000) : dk_iR (dk_nR t % 1000) := by
  unfold dk_nR dk_rU dk_iR
  (repeat' split) <;> omega
theorem dk_nP_no {t n : Nat} (ht : t < 1000) (h1 : 1 ≤ n) (h : t + n < dk_nP t) : dk_ph ((t + n) % 1000) = dk_ph t := by
  unfold dk_nP at h; unfold dk_ph
  revert h; (repeat' split) <;> omega
theorem dk_nP_yes {t : Nat} (ht : t < 1000) : dk_ph (dk_nP t % 1000) ≠ dk_ph t := by
  unfold dk_nP dk_ph
  (repeat' split) <;> omega
theorem dk_ph_lt (t : Nat) : dk_ph t < 5 := by
  unfold dk_ph; (repeat' split) <;> omega
/-- what b beginnings of days make of the reference's opening and moves -/
def dk_YS (b : Nat) (O : Nat → Int64) (mo : Nat → Int32) (mb : Nat → Int64) (k : Nat) (O2 : Nat → Int64) (k2 : Nat) : Prop := (b = 0 ∧ O2 = O ∧ k2 = k) ∨ (0 < b ∧ k2 = 0 ∧ ∀ j : Nat, j < 200 → O2 j = dk_y3 O mo mb k j)
theorem dk_y3_0 (O : Nat → Int64) (mo : Nat → Int32) (mb : Nat → Int64) (j : Nat) : dk_y3 O mo mb 0 j = O j := by
  show O j - 0 + 0 = O j
  rw [Int64.sub_zero, Int64.add_zero]
theorem dk_YS_s {b b2 : Nat} {O O2 O3 : Nat → Int64} {mo : Nat → Int32} {mb : Nat → Int64} {k k2 k3 : Nat} (h : dk_YS b O mo mb k O2 k2) (h2 : dk_YS b2 O2 mo mb k2 O3 k3) : dk_YS (b + b2) O mo mb k O3 k3 := by
  rcases h with ⟨rfl, rfl, rfl⟩ | ⟨hb, rfl, hO⟩
  · rw [Nat.zero_add]; exact h2
  · rcases h2 with ⟨rfl, rfl, rfl⟩ | ⟨hb2, rfl, hO2⟩
    · exact Or.inr ⟨hb, rfl, hO⟩
    · exact Or.inr ⟨by omega, rfl, fun j hj => by rw [hO2 j hj, dk_y3_0, hO j hj]⟩
theorem dk_out {x : Int32} {j : Nat} (hj : j < 200) (h : x < 0 ∨ nI 200 ≤ x) : ¬ x = nI j := fun q => by
  subst q
  rcases h with h | h
  · exact nI_pos (by omega) h
  · exact nI_ge hj (by omega) h
theorem dk_nI_inj {i j : Nat} (hi : i < 200) (hj : j < 200) (h : nI i = nI j) : i = j := (nI_eq (by omega) (by omega)).mp h
/-- what a row holds, by five columns -/
def dk_row (f0 f1 f2 f3 f4 : Nat → Int64) (x y : Int32) (r : Int64) : Prop := (r = 0 ∧ (x < 0 ∨ nI 200 ≤ x)) ∨ ∃ j : Nat, j < 200 ∧ x = nI j ∧ ((y = 0 ∧ r = f0 j) ∨ (y = 1 ∧ r = f1 j) ∨ (y = 2 ∧ r = f2 j) ∨ (y = 3 ∧ r = f3 j) ∨ (y = 4 ∧ r = f4 j) ∨ ((y.toInt < 0 ∨ 4 < y.toInt) ∧ r = 0))
def dk_col (f0 f1 f2 f3 f4 : Nat → Int64) (y : Int32) : Nat → Int64 := if y = 0 then f0 else if y = 1 then f1 else if y = 2 then f2 else if y = 3 then f3 else if y = 4 then f4 else fun _ => 0
theorem dk_col_of {f0 f1 f2 f3 f4 : Nat → Int64} {y : Int32} {r : Int64} {j : Nat} (h : (y = 0 ∧ r = f0 j) ∨ (y = 1 ∧ r = f1 j) ∨ (y = 2 ∧ r = f2 j) ∨ (y = 3 ∧ r = f3 j) ∨ (y = 4 ∧ r = f4 j) ∨ ((y.toInt < 0 ∨ 4 < y.toInt) ∧ r = 0)) : r = dk_col f0 f1 f2 f3 f4 y j := by
  unfold dk_col
  rcases h with ⟨rfl, rfl⟩ | ⟨rfl, rfl⟩ | ⟨rfl, rfl⟩ | ⟨rfl, rfl⟩ | ⟨rfl, rfl⟩ | ⟨hy, rfl⟩
  · rw [if_pos rfl]
  · rw [if_neg (by decide), if_pos rfl]
  · rw [if_neg (by decide), if_neg (by decide), if_pos rfl]
  · rw [if_neg (by decide), if_neg (by decide), if_neg (by decide), if_pos rfl]
  · rw [if_neg (by decide), if_neg (by decide), if_neg (by decide), if_neg (by decide), if_pos rfl]
  · have e0 : (0 : Int32).toInt = 0 := by decide
    have e1 : (1 : Int32).toInt = 1 := by decide
    have e2 : (2 : Int32).toInt = 2 := by decide
    have e3 : (3 : Int32).toInt = 3 := by decide
    have e4 : (4 : Int32).toInt = 4 := by decide
    rw [if_neg (fun q => by rw [q] at hy; omega), if_neg (fun q => by rw [q] at hy; omega), if_neg (fun q => by rw [q] at hy; omega), if_neg (fun q => by rw [q] at hy; omega), if_neg (fun q => by rw [q] at hy; omega)]
theorem dk_row_in {f0 f1 f2 f3 f4 : Nat → Int64} {y : Int32} {r : Int64} {j : Nat} (hj : j < 200) (h : dk_row f0 f1 f2 f3 f4 (nI j) y r) : r = dk_col f0 f1 f2 f3 f4 y j := by
  rcases h with ⟨-, h⟩ | ⟨i, hi, e, h⟩
  · exact absurd rfl (dk_out hj h)
  · have q := dk_nI_inj hj hi e
    subst q
    exact dk_col_of h
theorem dk_row_eq {f0 f1 f2 f3 f4 g0 g1 g2 g3 g4 : Nat → Int64} {x y : Int32} {r r2 : Int64} (hg : ∀ j : Nat, j < 200 → f0 j = g0 j ∧ f1 j = g1 j ∧ f2 j = g2 j ∧ f3 j = g3 j ∧ f4 j = g4 j) (h : dk_row f0 f1 f2 f3 f4 x y r) (h2 : dk_row g0 g1 g2 g3 g4 x y r2) : r = r2 := by
  rcases h with ⟨rfl, h⟩ | ⟨j, hj, rfl, h⟩
  · rcases h2 with ⟨rfl, -⟩ | ⟨j, hj, e, -⟩
    · rfl
    · exact absurd e (dk_out hj h)
  · rw [dk_col_of h, dk_row_in hj h2]
    obtain ⟨a, b, c, d, e⟩ := hg j hj
    unfold dk_col
    (repeat' split) <;> first | assumption | rfl
/-- what at answers -/
def dk_at (f : Nat → Int32) (n : Nat) (x r : Int32) : Prop := (∃ j : Nat, j < n ∧ x = nI j ∧ r = f j) ∨ (r = -1 ∧ (x < 0 ∨ nI n ≤ x))
theorem dk_at_eq {f g : Nat → Int32} {n : Nat} {x r r2 : Int32} (hn : n < 2 ^ 31) (hg : ∀ j : Nat, j < n → f j = g j) (h : dk_at f n x r) (h2 : dk_at g n x r2) : r = r2 := by
  have no : ∀ j : Nat, j < n → ¬ (nI j < 0 ∨ nI n ≤ nI j) := fun j hj q => by
    rcases q with q | q
    · exact nI_pos (by omega) q
    · exact nI_ge hj hn q
  rcases h with ⟨j, hj, rfl, rfl⟩ | ⟨rfl, h⟩
  · rcases h2 with ⟨i, hi, e, rfl⟩ | ⟨rfl, h2⟩
    · have q := (nI_eq (by omega) (by omega)).mp e
      subst q
      exact hg j hj
    · exact absurd h2 (no j hj)
  · rcases h2 with ⟨i, hi, rfl, rfl⟩ | ⟨rfl, h2⟩
    · exact absurd h (no i hi)
    · rfl
theorem dk_look_eq {d : Int32} {t : Nat} {x r r2 : Int32} (h : dk_look d t x r) (h2 : dk_look d t x r2) : r = r2 := by
  have key : ∀ r : Int32, dk_look d t x r → r = if x = 0 then d else if x = 1 then nI t else if x = 2 then nI (dk_ph t) else if x = 3 then nI (dk_nR t - t) else if x = 4 then nI (dk_nP t - t) else -1 := by
    intro r h
    rcases h with ⟨rfl, rfl⟩ | ⟨rfl, rfl⟩ | ⟨rfl, rfl⟩ | ⟨rfl, rfl⟩ | ⟨rfl, rfl⟩ | ⟨hy, rfl⟩
    · rw [if_pos rfl]
    · rw [if_neg (by decide), if_pos rfl]
    · rw [if_neg (by decide), if_neg (by decide), if_pos rfl]
    · rw [if_neg (by decide), if_neg (by decide), if_neg (by decide), if_pos rfl]
    · rw [if_neg (by decide), if_neg (by decide), if_neg (by decide), if_neg (by decide), if_pos rfl]
    · have e0 : (0 : Int32).toInt = 0 := by decide
      have e1 : (1 : Int32).toInt = 1 := by decide
      have e2 : (2 : Int32).toInt = 2 := by decide
      have e3 : (3 : Int32).toInt = 3 := by decide
      have e4 : (4 : Int32).toInt = 4 := by decide
      rw [if_neg (fun q => by rw [q] at hy; omega), if_neg (fun q => by rw [q] at hy; omega), if_neg (fun q => by rw [q] at hy; omega), if_neg (fun q => by rw [q] at hy; omega), if_neg (fun q => by rw [q] at hy; omega)]
  rw [key r h, key r2 h2]
/-- whether a position is told -/
def dk_tld (P : Nat → Prop) (x : Int32) : Prop := ∃ j : Nat, j < 200 ∧ x = nI j ∧ P j
theorem dk_tld_out {P : Nat → Prop} {x : Int32} (h : x < 0 ∨ nI 200 ≤ x) : ¬ dk_tld P x := fun ⟨_, hj, e, _⟩ => dk_out hj h e
theorem dk_tld_no {P : Nat → Prop} {j : Nat} (hj : j < 200) (h : ¬ P j) : ¬ dk_tld P (nI j) := fun ⟨i, hi, e, q⟩ => by
  have a := dk_nI_inj hj hi e
  subst a
  exact h q
theorem dk_R_lt {T : Nat} (h : T < 100000000) : dk_R T < 2000000 := by
  unfold dk_R
  have a := dk_rU_le (T % 1000)
  omega
