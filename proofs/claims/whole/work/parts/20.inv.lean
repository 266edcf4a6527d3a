-- the class and the reference side by side: what holds between them after q calls
def dk_Inv (q : Nat) (d : Int32) (t n : Nat) (fo fw fc fn fm : Nat → Int64) (fl : Nat → Int32) (T k : Nat) (O : Nat → Int64) (mo : Nat → Int32) (mb : Nat → Int64) (tx : Nat → Int32) : Prop :=
  t = T % 1000 ∧ d = nI (T / 1000) ∧ T ≤ q * 100000 ∧ k ≤ q ∧ n ≤ 104 ∧ (∀ i : Nat, i < n → fl i = tx i) ∧
  ∀ j : Nat, j < 200 → (fo j = O j ∧ fw j = dk_yw mo mb (nI j) k ∧ fc j = dk_yc mo mb (nI j) k ∧ fn j = dk_y3 O mo mb k j ∧ fm j = lN (dk_yn mo (nI j) k)) ∧
    (dk_in (fo j) 9000000000000000000 ∧ dk_in (fw j) 9000000000000000000 ∧ dk_in (fc j) 9000000000000000000 ∧ dk_in (fn j) 9000000000000000000)
theorem dk_Inv_mono {q q2 : Nat} {d : Int32} {t n : Nat} {fo fw fc fn fm : Nat → Int64} {fl : Nat → Int32} {T k : Nat} {O : Nat → Int64} {mo : Nat → Int32} {mb : Nat → Int64} {tx : Nat → Int32} (h : q ≤ q2) (hI : dk_Inv q d t n fo fw fc fn fm fl T k O mo mb tx) : dk_Inv q2 d t n fo fw fc fn fm fl T k O mo mb tx := by
  obtain ⟨h1, h2, h3, h4, h5, h6, h7⟩ := hI
  exact ⟨h1, h2, Nat.le_trans h3 (Nat.mul_le_mul_right _ h), Nat.le_trans h4 h, h5, h6, h7⟩
theorem dk_in0 : dk_in 0 9000000000000000000 := ⟨by decide, by decide⟩
theorem dk_Inv_adv {q : Nat} {d : Int32} {t n : Nat} {fo fw fc fn fm go gw gc gm : Nat → Int64} {fl : Nat → Int32} {T k k2 : Nat} {O O2 : Nat → Int64} {mo : Nat → Int32} {mb : Nat → Int64} {tx : Nat → Int32} (a : Nat) (ha : a ≤ 100000) (hI : dk_Inv q d t n fo fw fc fn fm fl T k O mo mb tx) (hop : dk_Op ((t + a) / 1000) fo fw fc fn fm go gw gc gm) (hys : dk_YS ((T + a) / 1000 - T / 1000) O mo mb k O2 k2) :
    dk_Inv (q + 1) (d + nI ((t + a) / 1000)) ((t + a) % 1000) n go gw gc fn gm fl (T + a) k2 O2 mo mb tx := by
  obtain ⟨h1, h2, h3, h4, h5, h6, h7⟩ := hI
  have hb : (t + a) / 1000 = (T + a) / 1000 - T / 1000 := by omega
  refine ⟨by omega, by rw [h2, nI_add]; exact congrArg nI (by omega), by omega, ?_, h5, h6, ?_⟩
  · rcases hys with ⟨-, -, e⟩ | ⟨-, e, -⟩ <;> omega
  · intro j hj
    obtain ⟨⟨e1, e2, e3, e4, e5⟩, b1, b2, b3, b4⟩ := h7 j hj
    rcases hop with ⟨z, rfl, rfl, rfl, rfl⟩ | ⟨z, hop⟩
    · rcases hys with ⟨-, rfl, rfl⟩ | ⟨z2, -⟩
      · exact ⟨⟨e1, e2, e3, e4, e5⟩, b1, b2, b3, b4⟩
      · exact absurd z2 (by omega)
    · rcases hys with ⟨z2, -⟩ | ⟨-, rfl, hO⟩
      · exact absurd z (by omega)
      · obtain ⟨o1, o2, o3, o4⟩ := hop j hj
        refine ⟨⟨by rw [o1, e4, hO j hj], by rw [o2]; rfl, by rw [o3]; rfl, by rw [dk_y3_0, hO j hj, e4], by rw [o4]; rfl⟩, by rw [o1]; exact b4, by rw [o2]; exact dk_in0, by rw [o3]; exact dk_in0, b4⟩
theorem dk_sk_out {n : Nat} (h1 : 1 ≤ n) (h2 : n ≤ 100000) : ¬ (nI n < 1 ∨ nI 100000 < nI n) := fun q => by
  rcases q with q | q
  · have a : nI n < nI 1 := q
    have b := (nI_ltI (by omega) (by omega)).mp a
    omega
  · have b := (nI_ltI (by omega) (by omega)).mp q
    omega
theorem dk_bool {P : Prop} {r r2 : Int32} (h : (r = 1 ∧ P) ∨ (r = 0 ∧ ¬ P)) (h2 : (r2 = 1 ∧ P) ∨ (r2 = 0 ∧ ¬ P)) : r = r2 := by
  rcases h with ⟨rfl, h⟩ | ⟨rfl, h⟩ <;> rcases h2 with ⟨rfl, h2⟩ | ⟨rfl, h2⟩ <;> first | rfl | exact absurd h h2 | exact absurd h2 h
theorem dk_bool2 {P Q : Prop} {r r2 : Int32} (e : P ↔ Q) (h : (r = 1 ∧ P) ∨ (r = 0 ∧ ¬ P)) (h2 : (r2 = 1 ∧ Q) ∨ (r2 = 0 ∧ ¬ Q)) : r = r2 := by
  rw [← e] at h2
  exact dk_bool h h2
theorem dk_tld_congr {P Q : Nat → Prop} {x : Int32} (e : ∀ j : Nat, j < 200 → (P j ↔ Q j)) : dk_tld P x ↔ dk_tld Q x :=
  ⟨fun ⟨j, hj, a, b⟩ => ⟨j, hj, a, (e j hj).mp b⟩, fun ⟨j, hj, a, b⟩ => ⟨j, hj, a, (e j hj).mpr b⟩⟩
theorem dk_lN0 {n : Nat} (h : n < 2 ^ 31) : lN n = 0 ↔ lN n ≤ 0 := by
  rw [← Int64.toInt_inj, Int64.le_iff_toInt_le, lN_toInt h, dk_l0]; omega
theorem dk_in_lo {v : Int64} (h : dk_in v 9000000000000000000) : -9223372036854775808 < v.toInt := by
  have a := h.1
  rw [Int64.le_iff_toInt_le] at a
  have e : (-9000000000000000000 : Int64).toInt = -9000000000000000000 := by decide
  rw [e] at a
  omega
theorem dk_skip_r {t T n : Nat} (ht : t = T % 1000) : (t + n) / 1000 * 16 + dk_rU ((t + n) % 1000) - dk_rU t = dk_R (T + n) - dk_R T := by
  unfold dk_R
  rw [show (T + n) % 1000 = (t + n) % 1000 from by omega, ← ht]
  omega
-- the list of moves, one longer
theorem dk_yw_upd (mo : Nat → Int32) (mb : Nat → Int64) (k : Nat) (a : Int32) (v : Int64) (p : Int32) : ∀ i : Nat, i ≤ k → dk_yw (upd mo k a) (vp_updL mb k v) p i = dk_yw mo mb p i := by
  intro i
  induction i with
  | zero => intro _; rfl
  | succ i ih =>
    intro h
    show (if upd mo k a i = p then (if vp_updL mb k v i < 0 then dk_yw (upd mo k a) (vp_updL mb k v) p i - vp_updL mb k v i else dk_yw (upd mo k a) (vp_updL mb k v) p i) else dk_yw (upd mo k a) (vp_updL mb k v) p i) = (if mo i = p then (if mb i < 0 then dk_yw mo mb p i - mb i else dk_yw mo mb p i) else dk_yw mo mb p i)
    rw [ih (by omega), pk_un (by omega), pk_uLn (by omega)]
theorem dk_yc_upd (mo : Nat → Int32) (mb : Nat → Int64) (k : Nat) (a : Int32) (v : Int64) (p : Int32) : ∀ i : Nat, i ≤ k → dk_yc (upd mo k a) (vp_updL mb k v) p i = dk_yc mo mb p i := by
  intro i
  induction i with
  | zero => intro _; rfl
  | succ i ih =>
    intro h
    show (if upd mo k a i = p then (if 0 < vp_updL mb k v i then dk_yc (upd mo k a) (vp_updL mb k v) p i + vp_updL mb k v i else dk_yc (upd mo k a) (vp_updL mb k v) p i) else dk_yc (upd mo k a) (vp_updL mb k v) p i) = (if mo i = p then (if 0 < mb i then dk_yc mo mb p i + mb i else dk_yc mo mb p i) else dk_yc mo mb p i)
    rw [ih (by omega), pk_un (by omega), pk_uLn (by omega)]
theorem dk_yn_upd (mo : Nat → Int32) (k : Nat) (a : Int32) (p : Int32) : ∀ i : Nat, i ≤ k → dk_yn (upd mo k a) p i = dk_yn mo p i := by
  intro i
  induction i with
  | zero => intro _; rfl
  | succ i ih =>
    intro h
    show (if upd mo k a i = p then dk_yn (upd mo k a) p i + 1 else dk_yn (upd mo k a) p i) = (if mo i = p then dk_yn mo p i + 1 else dk_yn mo p i)
    rw [ih (by omega), pk_un (by omega)]
theorem dk_yw_new {mo : Nat → Int32} {mb : Nat → Int64} {k : Nat} {v : Int64} {p : Int32} : dk_yw (upd mo k p) (vp_updL mb k v) p (k + 1) = dk_yw mo mb p k + dk_neg v := by
  show (if upd mo k p k = p then (if vp_updL mb k v k < 0 then dk_yw (upd mo k p) (vp_updL mb k v) p k - vp_updL mb k v k else dk_yw (upd mo k p) (vp_updL mb k v) p k) else dk_yw (upd mo k p) (vp_updL mb k v) p k) = _
  rw [pk_us, if_pos rfl, pk_uLs, dk_yw_upd mo mb k p v p k (Nat.le_refl k)]
  unfold dk_neg
  by_cases h : v < 0
  · rw [if_pos h, if_pos h, Int64.sub_eq_add_neg]
  · rw [if_neg h, if_neg h, Int64.add_zero]
theorem dk_yc_new {mo : Nat → Int32} {mb : Nat → Int64} {k : Nat} {v : Int64} {p : Int32} : dk_yc (upd mo k p) (vp_updL mb k v) p (k + 1) = dk_yc mo mb p k + dk_ps v := by
  show (if upd mo k p k = p then (if 0 < vp_updL mb k v k then dk_yc (upd mo k p) (vp_updL mb k v) p k + vp_updL mb k v k else dk_yc (upd mo k p) (vp_updL mb k v) p k) else dk_yc (upd mo k p) (vp_updL mb k v) p k) = _
  rw [pk_us, if_pos rfl, pk_uLs, dk_yc_upd mo mb k p v p k (Nat.le_refl k)]
  unfold dk_ps
  by_cases h : 0 < v
  · rw [if_pos h, if_pos h]
  · rw [if_neg h, if_neg h, Int64.add_zero]
theorem dk_yn_new {mo : Nat → Int32} {k : Nat} {p : Int32} : dk_yn (upd mo k p) p (k + 1) = dk_yn mo p k + 1 := by
  show (if upd mo k p k = p then dk_yn (upd mo k p) p k + 1 else dk_yn (upd mo k p) p k) = _
  rw [pk_us, if_pos rfl, dk_yn_upd mo k p p k (Nat.le_refl k)]
theorem dk_yw_oth {mo : Nat → Int32} {mb : Nat → Int64} {k : Nat} {v : Int64} {a p : Int32} (h : ¬ a = p) : dk_yw (upd mo k a) (vp_updL mb k v) p (k + 1) = dk_yw mo mb p k := by
  show (if upd mo k a k = p then (if vp_updL mb k v k < 0 then dk_yw (upd mo k a) (vp_updL mb k v) p k - vp_updL mb k v k else dk_yw (upd mo k a) (vp_updL mb k v) p k) else dk_yw (upd mo k a) (vp_updL mb k v) p k) = _
  rw [pk_us, if_neg h, dk_yw_upd mo mb k a v p k (Nat.le_refl k)]
theorem dk_yc_oth {mo : Nat → Int32} {mb : Nat → Int64} {k : Nat} {v : Int64} {a p : Int32} (h : ¬ a = p) : dk_yc (upd mo k a) (vp_updL mb k v) p (k + 1) = dk_yc mo mb p k := by
  show (if upd mo k a k = p then (if 0 < vp_updL mb k v k then dk_yc (upd mo k a) (vp_updL mb k v) p k + vp_updL mb k v k else dk_yc (upd mo k a) (vp_updL mb k v) p k) else dk_yc (upd mo k a) (vp_updL mb k v) p k) = _
  rw [pk_us, if_neg h, dk_yc_upd mo mb k a v p k (Nat.le_refl k)]
theorem dk_yn_oth {mo : Nat → Int32} {k : Nat} {a p : Int32} (h : ¬ a = p) : dk_yn (upd mo k a) p (k + 1) = dk_yn mo p k := by
  show (if upd mo k a k = p then dk_yn (upd mo k a) p k + 1 else dk_yn (upd mo k a) p k) = _
  rw [pk_us, if_neg h, dk_yn_upd mo k a p k (Nat.le_refl k)]
theorem dk_split (v : Int64) : -(dk_neg v) + dk_ps v = v := by
  unfold dk_neg dk_ps
  by_cases h : v < 0
  · rw [if_pos h, if_neg (fun q => by rw [Int64.lt_iff_toInt_lt] at h q; omega), Int64.neg_neg, Int64.add_zero]
  · by_cases h2 : 0 < v
    · rw [if_neg h, if_pos h2]
      rw [show (-(0 : Int64)) = 0 from by decide, Int64.zero_add]
    · rw [if_neg h, if_neg h2]
      have e : v = 0 := Int64.toInt_inj.mp (by rw [Int64.lt_iff_toInt_lt, dk_l0] at h h2; rw [dk_l0]; omega)
      rw [e]; decide
theorem dk_y3_new {O : Nat → Int64} {mo : Nat → Int32} {mb : Nat → Int64} {k j : Nat} {v : Int64} : dk_y3 O (upd mo k (nI j)) (vp_updL mb k v) (k + 1) j = dk_y3 O mo mb k j + v := by
  unfold dk_y3
  rw [dk_yw_new, dk_yc_new]
  have e : ∀ a b c x y : Int64, a - (b + x) + (c + y) = a - b + c + (-x + y) := fun a b c x y => by
    rw [Int64.sub_eq_add_neg, Int64.sub_eq_add_neg, Int64.neg_add, Int64.sub_eq_add_neg]
    ac_rfl
  rw [e, dk_split]
/-- the class and the reference take the same moves -/
theorem dk_ok_iff {q : Nat} {d : Int32} {t n : Nat} {fo fw fc fn fm : Nat → Int64} {fl : Nat → Int32} {T k : Nat} {O : Nat → Int64} {mo : Nat → Int32} {mb : Nat → Int64} {tx : Nat → Int32} (hI : dk_Inv q d t n fo fw fc fn fm fl T k O mo mb tx) {j : Nat} (hj : j < 200) (v : Int64) :
    dk_ok O mo mb k j v ↔ (dk_in v 10000000000000000 ∧ dk_in (fn j + v) 9000000000000000000 ∧ dk_in (fw j + dk_neg v) 9000000000000000000 ∧ dk_in (fc j + dk_ps v) 9000000000000000000) := by
  obtain ⟨⟨e1, e2, e3, e4, e5⟩, b1, b2, b3, b4⟩ := hI.2.2.2.2.2.2 j hj
  unfold dk_ok
  rw [← e4, ← e2, ← e3]
  by_cases h : v < 0
  · have hn : dk_neg v = -v := by unfold dk_neg; rw [if_pos h]
    have hp : dk_ps v = 0 := by unfold dk_ps; rw [if_neg (fun q => by rw [Int64.lt_iff_toInt_lt] at h q; omega)]
    rw [if_pos h, hn, hp, Int64.add_zero, Int64.sub_eq_add_neg]
    exact ⟨fun ⟨x, y, z⟩ => ⟨x, y, z, b3⟩, fun ⟨x, y, z, _⟩ => ⟨x, y, z⟩⟩
  · have hn : dk_neg v = 0 := by unfold dk_neg; rw [if_neg h]
    have hp : dk_ps v = v := by
      unfold dk_ps
      by_cases h2 : 0 < v
      · rw [if_pos h2]
      · rw [if_neg h2]
        exact (Int64.toInt_inj.mp (by rw [Int64.lt_iff_toInt_lt, dk_l0] at h h2; rw [dk_l0]; omega)).symm
    rw [if_neg h, hn, hp, Int64.add_zero]
    exact ⟨fun ⟨x, y, z⟩ => ⟨x, y, b2, z⟩, fun ⟨x, y, _, z⟩ => ⟨x, y, z⟩⟩
theorem dk_Inv_mv {q : Nat} {d : Int32} {t n : Nat} {fo fw fc fn fm gw gc gn gm : Nat → Int64} {fl : Nat → Int32} {T k k2 : Nat} {O : Nat → Int64} {mo mo2 : Nat → Int32} {mb mb2 : Nat → Int64} {tx : Nat → Int32} {x r r2 : Int32} {v : Int64} (hI : dk_Inv q d t n fo fw fc fn fm fl T k O mo mb tx) (h : dk_mv x v fw fc fn fm r gw gc gn gm) (h2 : dk_ymv O mo mb k x v r2 k2 mo2 mb2) :
    r = r2 ∧ dk_Inv (q + 1) d t n fo gw gc gn gm fl T k2 O mo2 mb2 tx := by
  have hm := dk_Inv_mono (Nat.le_succ q) hI
  rcases h with ⟨rfl, rfl, rfl, rfl, rfl, h⟩ | ⟨rfl, rfl, rfl, rfl, rfl, hv, j, hj, rfl⟩ | ⟨rfl, j, hj, rfl, m1, hv, m2, m3, m4, rfl, rfl, rfl, rfl⟩
  · rcases h2 with ⟨rfl, rfl, rfl, rfl, -⟩ | ⟨rfl, rfl, rfl, rfl, hv, j, hj, rfl, hok⟩ | ⟨rfl, j, hj, rfl, hv, hok, rfl, rfl, rfl⟩
    · exact ⟨rfl, hm⟩
    · exfalso
      have a := (dk_ok_iff hI hj v).mp hok
      rcases h with h | h | ⟨i, hi, e, hv2, -⟩
      · exact dk_out hj h rfl
      · exact h a.1
      · exact hv2 hv
    · exfalso
      have a := (dk_ok_iff hI hj v).mp hok
      rcases h with h | h | ⟨i, hi, e, hv2, h⟩
      · exact dk_out hj h rfl
      · exact h a.1
      · have z := dk_nI_inj hj hi e
        subst z
        exact h a.2
  · rcases h2 with ⟨rfl, rfl, rfl, rfl, h2⟩ | ⟨rfl, rfl, rfl, rfl, -⟩ | ⟨rfl, i, hi, e, hv2, -⟩
    · exfalso
      rcases h2 with h2 | ⟨i, hi, e, hok⟩
      · exact dk_out hj h2 rfl
      · have z := dk_nI_inj hj hi e
        subst z
        refine hok ((dk_ok_iff hI hj v).mpr ?_)
        obtain ⟨-, b1, b2, b3, b4⟩ := hI.2.2.2.2.2.2 j hj
        rw [hv, show dk_neg 0 = 0 from by decide, show dk_ps 0 = 0 from by decide, Int64.add_zero, Int64.add_zero, Int64.add_zero]
        exact ⟨⟨by decide, by decide⟩, b4, b2, b3⟩
    · exact ⟨rfl, hm⟩
    · exact absurd hv hv2
  · have hok := (dk_ok_iff hI hj v).mpr ⟨m1, m2, m3, m4⟩
    rcases h2 with ⟨rfl, rfl, rfl, rfl, h2⟩ | ⟨rfl, rfl, rfl, rfl, hv2, -⟩ | ⟨rfl, i, hi, e, -, -, rfl, rfl, rfl⟩
    · exfalso
      rcases h2 with h2 | ⟨i, hi, e, h2⟩
      · exact dk_out hj h2 rfl
      · have z := dk_nI_inj hj hi e
        subst z
        exact h2 hok
    · exact absurd hv2 hv
    · have z := dk_nI_inj hj hi e
      subst z
      obtain ⟨h1, h2, h3, h4, h5, h6, h7⟩ := hI
      refine ⟨rfl, h1, h2, Nat.le_trans h3 (Nat.mul_le_mul_right _ (Nat.le_succ q)), Nat.succ_le_succ h4, h5, h6, ?_⟩
      intro i hi
      obtain ⟨⟨e1, e2, e3, e4, e5⟩, b1, b2, b3, b4⟩ := h7 i hi
      by_cases z : i = j
      · subst z
        rw [pk_uLs, pk_uLs, pk_uLs, pk_uLs, dk_yw_new, dk_yc_new, dk_yn_new, dk_y3_new, ← e2, ← e3, ← e4, e5, lN_1]
        exact ⟨⟨e1, rfl, rfl, rfl, rfl⟩, b1, m3, m4, m2⟩
      · have z2 : ¬ nI j = nI i := fun w => z (dk_nI_inj hi hj w.symm)
        rw [pk_uLn z, pk_uLn z, pk_uLn z, pk_uLn z, dk_yw_oth z2, dk_yc_oth z2, dk_yn_oth z2]
        refine ⟨⟨e1, e2, e3, ?_, e5⟩, b1, b2, b3, b4⟩
        unfold dk_y3
        rw [dk_yw_oth z2, dk_yc_oth z2]
        exact e4
theorem dk_Inv_sk {q : Nat} {d e2 : Int32} {t t2 n : Nat} {fo fw fc fn fm go gw gc gm : Nat → Int64} {fl : Nat → Int32} {T T2 k k2 : Nat} {O O2 : Nat → Int64} {mo : Nat → Int32} {mb : Nat → Int64} {tx : Nat → Int32} {x r r2 : Int32} (hI : dk_Inv q d t n fo fw fc fn fm fl T k O mo mb tx)
    (h : (r = -1 ∧ (x < 1 ∨ nI 100000 < x) ∧ e2 = d ∧ t2 = t ∧ go = fo ∧ gw = fw ∧ gc = fc ∧ gm = fm) ∨ (∃ n : Nat, 1 ≤ n ∧ n ≤ 100000 ∧ x = nI n ∧ e2 = d + nI ((t + n) / 1000) ∧ t2 = (t + n) % 1000 ∧ dk_Op ((t + n) / 1000) fo fw fc fn fm go gw gc gm ∧ r = nI ((t + n) / 1000 * 16 + dk_rU ((t + n) % 1000) - dk_rU t)))
    (h2 : (r2 = -1 ∧ (x < 1 ∨ nI 100000 < x) ∧ O2 = O ∧ k2 = k ∧ T2 = T) ∨ (∃ n : Nat, 1 ≤ n ∧ n ≤ 100000 ∧ x = nI n ∧ T2 = T + n ∧ dk_YS ((T + n) / 1000 - T / 1000) O mo mb k O2 k2 ∧ r2 = nI (dk_R (T + n) - dk_R T))) :
    r = r2 ∧ dk_Inv (q + 1) e2 t2 n go gw gc fn gm fl T2 k2 O2 mo mb tx := by
  rcases h with ⟨rfl, ho, rfl, rfl, rfl, rfl, rfl, rfl⟩ | ⟨a, h1, h3, rfl, rfl, rfl, hop, rfl⟩
  · rcases h2 with ⟨rfl, -, rfl, rfl, rfl⟩ | ⟨a, h1, h3, rfl, -⟩
    · exact ⟨rfl, dk_Inv_mono (Nat.le_succ q) hI⟩
    · exact absurd ho (dk_sk_out h1 h3)
  · rcases h2 with ⟨-, ho, -⟩ | ⟨a2, h4, h5, e, rfl, hys, rfl⟩
    · exact absurd ho (dk_sk_out h1 h3)
    · have z := (nI_eq (by omega) (by omega)).mp e
      subst z
      exact ⟨congrArg nI (dk_skip_r hI.1), dk_Inv_adv a h3 hI hop hys⟩
theorem dk_Inv_wr {q : Nat} {d : Int32} {t n : Nat} {fo fw fc fn fm : Nat → Int64} {fl gl : Nat → Int32} {T k : Nat} {O : Nat → Int64} {mo : Nat → Int32} {mb : Nat → Int64} {tx tx2 : Nat → Int32} {x r r2 ll2 w2 : Int32} (hI : dk_Inv q d t n fo fw fc fn fm fl T k O mo mb tx)
    (h : (r = -1 ∧ (x < 0 ∨ nI 200 ≤ x) ∧ ll2 = nI n ∧ gl = fl) ∨ ∃ j : Nat, j < 200 ∧ x = nI j ∧ r = nI (dk_txt (fo j) (fw j) (fc j) (fn j) (fm j)).length ∧ ll2 = nI (dk_txt (fo j) (fw j) (fc j) (fn j) (fm j)).length ∧ gl = dk_ap fl 0 (dk_txt (fo j) (fw j) (fc j) (fn j) (fm j)))
    (h2 : (r2 = -1 ∧ (x < 0 ∨ nI 200 ≤ x) ∧ w2 = nI n ∧ tx2 = tx) ∨ ∃ j : Nat, j < 200 ∧ x = nI j ∧ r2 = nI (dk_txt (O j) (dk_yw mo mb (nI j) k) (dk_yc mo mb (nI j) k) (dk_y3 O mo mb k j) (lN (dk_yn mo (nI j) k))).length ∧ w2 = nI (dk_txt (O j) (dk_yw mo mb (nI j) k) (dk_yc mo mb (nI j) k) (dk_y3 O mo mb k j) (lN (dk_yn mo (nI j) k))).length ∧ tx2 = dk_ap tx 0 (dk_txt (O j) (dk_yw mo mb (nI j) k) (dk_yc mo mb (nI j) k) (dk_y3 O mo mb k j) (lN (dk_yn mo (nI j) k)))) :
    r = r2 ∧ ∃ n2 : Nat, ll2 = nI n2 ∧ w2 = nI n2 ∧ dk_Inv (q + 1) d t n2 fo fw fc fn fm gl T k O mo mb tx2 := by
  rcases h with ⟨rfl, ho, rfl, rfl⟩ | ⟨j, hj, rfl, rfl, rfl, rfl⟩
  · rcases h2 with ⟨rfl, -, rfl, rfl⟩ | ⟨j, hj, rfl, -⟩
    · exact ⟨rfl, n, rfl, rfl, dk_Inv_mono (Nat.le_succ q) hI⟩
    · exact absurd rfl (dk_out hj ho)
  · rcases h2 with ⟨-, ho, -⟩ | ⟨i, hi, e, rfl, rfl, rfl⟩
    · exact absurd rfl (dk_out hj ho)
    · have z := dk_nI_inj hj hi e
      subst z
      obtain ⟨h1, h2, h3, h4, h5, h6, h7⟩ := hI
      obtain ⟨⟨e1, e2, e3, e4, e5⟩, -⟩ := id (h7 j hj)
      rw [← e1, ← e2, ← e3, ← e4, ← e5]
      refine ⟨rfl, _, rfl, rfl, h1, h2, Nat.le_trans h3 (Nat.mul_le_mul_right _ (Nat.le_succ q)), Nat.le_succ_of_le h4, dk_txt_len _ _ _ _ _, ?_, h7⟩
      intro i hi
      have a := dk_ap_at fl 0 _ hi
      have b := dk_ap_at tx 0 _ hi
      rw [Nat.zero_add] at a b
      rw [a, b]
