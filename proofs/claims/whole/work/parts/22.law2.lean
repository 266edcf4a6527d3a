set_option maxHeartbeats 4000000 in
set_option maxRecDepth 100000 in
/-- the law: row -/
theorem law_row {p : Program} {l : Launch} {e : Env} {s : State} {m : MethodId} {below : List Frame} {meth : Method} {c : Code} {dC : Nat → ClassId} {dI : Nat → Nat → Nat} {b L : Nat} {xs : Nat → Int32} {h0 qo qw qc qn qm ql g0 a1 a2 a3 a4 : Nat} {k1 k2 k3 k4 k5 k6 i1 i2 i3 i4 : ClassId} (hL : L ≤ 2048) (C0 : lw_At p s m meth c b L xs) (hK : va_K (dC, dI) vwCl [(k1, .long), (k2, .long), (k3, .long), (k4, .long), (k5, .long), (k6, .char), (i1, .long), (i2, .int), (i3, .long), (i4, .int)] s) (i q : Nat) (hi : i + 4 ≤ L) (hq : q ≤ 511) (d : Int32) (t n : Nat) (fo fw fc fn fm : Nat → Int64) (fl : Nat → Int32) (T k : Nat) (O : Nat → Int64) (mo : Nat → Int32) (mb : Nat → Int64) (tx : Nat → Int32) (hI : dk_Inv q d t n fo fw fc fn fm fl T k O mo mb tx) (H : Heap) (locs : List Loc) (hP : va_P (dC, dI) vwCl [(h0, .inr (0, [.int d, .int (nI t), .ref qo, .ref qw, .ref qc, .ref qn, .ref qm, .ref ql, .int (nI n)])), (qo, .inl (k1, 200, .inr (.inl fo))), (qw, .inl (k2, 200, .inr (.inl fw))), (qc, .inl (k3, 200, .inr (.inl fc))), (qn, .inl (k4, 200, .inr (.inl fn))), (qm, .inl (k5, 200, .inr (.inl fm))), (ql, .inl (k6, 104, .inl fl)), (g0, .inr (1, [.long (lN T), .ref a1, .int (nI k), .ref a2, .ref a3, .int (nI n), .ref a4])), (a1, .inl (i1, 200, .inr (.inl O))), (a2, .inl (i2, 520, .inl mo)), (a3, .inl (i3, 520, .inr (.inl mb))), (a4, .inl (i4, 120, .inl tx))] H) (hD : va_D (fun q : Nat => s.heap.size ≤ q) [(h0, .inr (0, [.int d, .int (nI t), .ref qo, .ref qw, .ref qc, .ref qn, .ref qm, .ref ql, .int (nI n)])), (qo, .inl (k1, 200, .inr (.inl fo))), (qw, .inl (k2, 200, .inr (.inl fw))), (qc, .inl (k3, 200, .inr (.inl fc))), (qn, .inl (k4, 200, .inr (.inl fn))), (qm, .inl (k5, 200, .inr (.inl fm))), (ql, .inl (k6, 104, .inl fl)), (g0, .inr (1, [.long (lN T), .ref a1, .int (nI k), .ref a2, .ref a3, .int (nI n), .ref a4])), (a1, .inl (i1, 200, .inr (.inl O))), (a2, .inl (i2, 520, .inl mo)), (a3, .inl (i3, 520, .inr (.inl mb))), (a4, .inl (i4, 120, .inl tx))]) (hS : va_S (fun q : Nat => s.heap.size ≤ q) s.heap H locs) (ls : Array Slot) (hl : lv_has ls 4 [(0, .ref b), (1, .ref h0), (2, .ref g0), (3, .int (nI i))]) (kk : ∀ (d : Int32) (t n : Nat) (fo fw fc fn fm : Nat → Int64) (fl : Nat → Int32) (T k : Nat) (O : Nat → Int64) (mo : Nat → Int32) (mb : Nat → Int64) (tx : Nat → Int32), dk_Inv (q + 1) d t n fo fw fc fn fm fl T k O mo mb tx → ∀ (H : Heap) (locs : List Loc), va_P (dC, dI) vwCl [(h0, .inr (0, [.int d, .int (nI t), .ref qo, .ref qw, .ref qc, .ref qn, .ref qm, .ref ql, .int (nI n)])), (qo, .inl (k1, 200, .inr (.inl fo))), (qw, .inl (k2, 200, .inr (.inl fw))), (qc, .inl (k3, 200, .inr (.inl fc))), (qn, .inl (k4, 200, .inr (.inl fn))), (qm, .inl (k5, 200, .inr (.inl fm))), (ql, .inl (k6, 104, .inl fl)), (g0, .inr (1, [.long (lN T), .ref a1, .int (nI k), .ref a2, .ref a3, .int (nI n), .ref a4])), (a1, .inl (i1, 200, .inr (.inl O))), (a2, .inl (i2, 520, .inl mo)), (a3, .inl (i3, 520, .inr (.inl mb))), (a4, .inl (i4, 120, .inl tx))] H → va_D (fun q : Nat => s.heap.size ≤ q) [(h0, .inr (0, [.int d, .int (nI t), .ref qo, .ref qw, .ref qc, .ref qn, .ref qm, .ref ql, .int (nI n)])), (qo, .inl (k1, 200, .inr (.inl fo))), (qw, .inl (k2, 200, .inr (.inl fw))), (qc, .inl (k3, 200, .inr (.inl fc))), (qn, .inl (k4, 200, .inr (.inl fn))), (qm, .inl (k5, 200, .inr (.inl fm))), (ql, .inl (k6, 104, .inl fl)), (g0, .inr (1, [.long (lN T), .ref a1, .int (nI k), .ref a2, .ref a3, .int (nI n), .ref a4])), (a1, .inl (i1, 200, .inr (.inl O))), (a2, .inl (i2, 520, .inl mo)), (a3, .inl (i3, 520, .inr (.inl mb))), (a4, .inl (i4, 120, .inl tx))] → va_S (fun q : Nat => s.heap.size ≤ q) s.heap H locs → ∀ ls : Array Slot, lv_has ls 4 [(0, .ref b), (1, .ref h0), (2, .ref g0), (3, .int (nI i))] → W p l e room_1 s m #[Value.ref b] below meth c H locs 12 2480 (lw_Z below #[Value.ref b] s) (F0 m 368 ls [])) : W p l e room_1 s m #[Value.ref b] below meth c H locs 12 2480 (lw_Z below #[Value.ref b] s) (F0 m 265 ls []) := by
  obtain ⟨hx, hb, hr, hml, hown0, hts0, hX, hbl, hlocks, hgv⟩ := C0
  have hts : ∀ w ∈ wsL_law, w.before #[Value.ref b] s = true := fun w h => hts0 w (wsL_law_in w h)
  have hown : s.vm.findClass RL = some m.cls := hown0
  have hA : ∀ q : Nat, s.heap.size ≤ q → (fun q : Nat => s.heap.size ≤ q) q := fun _ h => h
  have hbA : ¬ (fun q : Nat => s.heap.size ≤ q) b := Nat.not_le.mpr hbl
  obtain ⟨v1, v2, v3, v4, v5, v6, v7⟩ := id hI
  have ht9 : t < 1000 := by rw [v1]; exact Nat.mod_lt _ (by decide)
  have hT9 : T ≤ 51100000 := Nat.le_trans v3 (Nat.mul_le_mul_right 100000 hq)
  refine lv_aload_n hx hb dL_law_265 rfl (lv_at hl 1 rfl) ?_
  refine lv_aload_n hx hb dL_law_266 rfl (lv_at hl 0 rfl) ?_
  refine lv_iload_n hx hb dL_law_267 rfl (lv_at hl 3 rfl) ?_
  refine lv_iconst (v := 1) hx hb dL_law_268 (by decide) ?_
  refine lv_iadd hx hb dL_law_269 ?_
  refine dk_asi (y := nI (i + 1)) (nI_add i 1) ?_
  refine dk_sld hx hb hX hbl hbA hS (j := i + 1) (by omega) (by omega) dL_law_270 ?_
  refine lv_aload_n hx hb dL_law_271 rfl (lv_at hl 0 rfl) ?_
  refine lv_iload_n hx hb dL_law_272 rfl (lv_at hl 3 rfl) ?_
  refine lv_iconst (v := 2) hx hb dL_law_273 (by decide) ?_
  refine lv_iadd hx hb dL_law_274 ?_
  refine dk_asi (y := nI (i + 2)) (nI_add i 2) ?_
  refine dk_sld hx hb hX hbl hbA hS (j := i + 2) (by omega) (by omega) dL_law_275 ?_
  have hPc := hP.sub (ws' := [(h0, .inr (0, [.int d, .int (nI t), .ref qo, .ref qw, .ref qc, .ref qn, .ref qm, .ref ql, .int (nI n)])), (qo, .inl (k1, 200, .inr (.inl fo))), (qw, .inl (k2, 200, .inr (.inl fw))), (qc, .inl (k3, 200, .inr (.inl fc))), (qn, .inl (k4, 200, .inr (.inl fn))), (qm, .inl (k5, 200, .inr (.inl fm)))]) [0, 1, 2, 3, 4, 5] rfl
  have hKc := hK.sub (tys' := [(k1, .long), (k2, .long), (k3, .long), (k4, .long), (k5, .long)]) [0, 1, 2, 3, 4] rfl
  refine va_calll (va_runV (As := [.int (xs (i + 1)), .int (xs (i + 2))]) (rest := []) ⟨hx, hb, hml, hown, hts⟩ (cX_row l dC dI h0 qo qw qc qn qm ql k1 k2 k3 k4 k5 d (nI n) (nI t) fo fw fc fn fm (xs (i + 1)) (xs (i + 2))) (cwV 2 hts gL_law_X0_row rfl rfl rfl (by decide +kernel) ⟨Nat.le_of_ble_eq_true rfl, Nat.le_of_ble_eq_true rfl⟩) (dk_rV hPc hKc (ci := 0) (q0 := 0) rfl rfl) rfl rfl hl.1 rfl (lv_room (Nat.le_of_ble_eq_true rfl)) dL_law_276 ⟨Nat.le_of_ble_eq_true rfl, Nat.le_of_ble_eq_true rfl⟩) hS (fun q _ h => False.elim h) (fun q h => False.elim h) (fun rx u8 t8 H1 locs ht8 hvm8 hw hB hz1 hk1 hS => ?_)
  try dsimp only at hw
  have hP := dk_kept hP hk1
  generalize H1 = H at hP hS ⊢
  have hwx := hw
  refine lv_aload_n hx hb dL_law_279 rfl (lv_at hl 2 rfl) ?_
  refine lv_aload_n hx hb dL_law_280 rfl (lv_at hl 0 rfl) ?_
  refine lv_iload_n hx hb dL_law_281 rfl (lv_at hl 3 rfl) ?_
  refine lv_iconst (v := 1) hx hb dL_law_282 (by decide) ?_
  refine lv_iadd hx hb dL_law_283 ?_
  refine dk_asi (y := nI (i + 1)) (nI_add i 1) ?_
  refine dk_sld hx hb hX hbl hbA hS (j := i + 1) (by omega) (by omega) dL_law_284 ?_
  refine lv_aload_n hx hb dL_law_285 rfl (lv_at hl 0 rfl) ?_
  refine lv_iload_n hx hb dL_law_286 rfl (lv_at hl 3 rfl) ?_
  refine lv_iconst (v := 2) hx hb dL_law_287 (by decide) ?_
  refine lv_iadd hx hb dL_law_288 ?_
  refine dk_asi (y := nI (i + 2)) (nI_add i 2) ?_
  refine dk_sld hx hb hX hbl hbA hS (j := i + 2) (by omega) (by omega) dL_law_289 ?_
  have hPc := hP.sub (ws' := [(g0, .inr (1, [.long (lN T), .ref a1, .int (nI k), .ref a2, .ref a3, .int (nI n), .ref a4])), (a1, .inl (i1, 200, .inr (.inl O))), (a2, .inl (i2, 520, .inl mo)), (a3, .inl (i3, 520, .inr (.inl mb)))]) [7, 8, 9, 10] rfl
  have hKc := hK.sub (tys' := [(i1, .long), (i2, .int), (i3, .long)]) [6, 7, 8] rfl
  refine va_calll (va_runV (As := [.int (xs (i + 1)), .int (xs (i + 2))]) (rest := [.long rx]) ⟨hx, hb, hml, hown, hts⟩ (cY_row l dC dI g0 a1 a2 a3 a4 i1 i2 i3 (lN T) k (by omega) (nI n) O mo mb (xs (i + 1)) (xs (i + 2))) (cwV 2 hts gL_law_X1_row rfl rfl rfl (by decide +kernel) ⟨Nat.le_of_ble_eq_true rfl, Nat.le_of_ble_eq_true rfl⟩) (dk_rV hPc hKc (ci := 1) (q0 := 0) rfl rfl) rfl rfl hl.1 rfl (lv_room (Nat.le_of_ble_eq_true rfl)) dL_law_290 ⟨Nat.le_of_ble_eq_true rfl, Nat.le_of_ble_eq_true rfl⟩) hS (fun q _ h => False.elim h) (fun q h => False.elim h) (fun ry u8 t8 H1 locs ht8 hvm8 hw hB hz1 hk1 hS => ?_)
  try dsimp only at hw
  have hP := dk_kept hP hk1
  generalize H1 = H at hP hS ⊢
  have hwy := hw
  have req : rx = ry := dk_row_eq (fun j hj => (v7 j hj).1) hwx hwy
  refine W.lcmp hx hb dL_law_293 ?_
  refine lv_if_eq (tgt := 368) hx hb dL_law_294 (by decide) (fun _ => ?_) (fun c9 => absurd ((lg_cmp_eq _ _).mpr req) c9)
  exact kk d t n fo fw fc fn fm fl T k O mo mb tx (dk_Inv_mono (Nat.le_succ q) hI) H locs hP hD hS ls hl
set_option maxHeartbeats 4000000 in
set_option maxRecDepth 100000 in
/-- the law: isTold -/
theorem law_isTold {p : Program} {l : Launch} {e : Env} {s : State} {m : MethodId} {below : List Frame} {meth : Method} {c : Code} {dC : Nat → ClassId} {dI : Nat → Nat → Nat} {b L : Nat} {xs : Nat → Int32} {h0 qo qw qc qn qm ql g0 a1 a2 a3 a4 : Nat} {k1 k2 k3 k4 k5 k6 i1 i2 i3 i4 : ClassId} (hL : L ≤ 2048) (C0 : lw_At p s m meth c b L xs) (hK : va_K (dC, dI) vwCl [(k1, .long), (k2, .long), (k3, .long), (k4, .long), (k5, .long), (k6, .char), (i1, .long), (i2, .int), (i3, .long), (i4, .int)] s) (i q : Nat) (hi : i + 4 ≤ L) (hq : q ≤ 511) (d : Int32) (t n : Nat) (fo fw fc fn fm : Nat → Int64) (fl : Nat → Int32) (T k : Nat) (O : Nat → Int64) (mo : Nat → Int32) (mb : Nat → Int64) (tx : Nat → Int32) (hI : dk_Inv q d t n fo fw fc fn fm fl T k O mo mb tx) (H : Heap) (locs : List Loc) (hP : va_P (dC, dI) vwCl [(h0, .inr (0, [.int d, .int (nI t), .ref qo, .ref qw, .ref qc, .ref qn, .ref qm, .ref ql, .int (nI n)])), (qo, .inl (k1, 200, .inr (.inl fo))), (qw, .inl (k2, 200, .inr (.inl fw))), (qc, .inl (k3, 200, .inr (.inl fc))), (qn, .inl (k4, 200, .inr (.inl fn))), (qm, .inl (k5, 200, .inr (.inl fm))), (ql, .inl (k6, 104, .inl fl)), (g0, .inr (1, [.long (lN T), .ref a1, .int (nI k), .ref a2, .ref a3, .int (nI n), .ref a4])), (a1, .inl (i1, 200, .inr (.inl O))), (a2, .inl (i2, 520, .inl mo)), (a3, .inl (i3, 520, .inr (.inl mb))), (a4, .inl (i4, 120, .inl tx))] H) (hD : va_D (fun q : Nat => s.heap.size ≤ q) [(h0, .inr (0, [.int d, .int (nI t), .ref qo, .ref qw, .ref qc, .ref qn, .ref qm, .ref ql, .int (nI n)])), (qo, .inl (k1, 200, .inr (.inl fo))), (qw, .inl (k2, 200, .inr (.inl fw))), (qc, .inl (k3, 200, .inr (.inl fc))), (qn, .inl (k4, 200, .inr (.inl fn))), (qm, .inl (k5, 200, .inr (.inl fm))), (ql, .inl (k6, 104, .inl fl)), (g0, .inr (1, [.long (lN T), .ref a1, .int (nI k), .ref a2, .ref a3, .int (nI n), .ref a4])), (a1, .inl (i1, 200, .inr (.inl O))), (a2, .inl (i2, 520, .inl mo)), (a3, .inl (i3, 520, .inr (.inl mb))), (a4, .inl (i4, 120, .inl tx))]) (hS : va_S (fun q : Nat => s.heap.size ≤ q) s.heap H locs) (ls : Array Slot) (hl : lv_has ls 4 [(0, .ref b), (1, .ref h0), (2, .ref g0), (3, .int (nI i))]) (kk : ∀ (d : Int32) (t n : Nat) (fo fw fc fn fm : Nat → Int64) (fl : Nat → Int32) (T k : Nat) (O : Nat → Int64) (mo : Nat → Int32) (mb : Nat → Int64) (tx : Nat → Int32), dk_Inv (q + 1) d t n fo fw fc fn fm fl T k O mo mb tx → ∀ (H : Heap) (locs : List Loc), va_P (dC, dI) vwCl [(h0, .inr (0, [.int d, .int (nI t), .ref qo, .ref qw, .ref qc, .ref qn, .ref qm, .ref ql, .int (nI n)])), (qo, .inl (k1, 200, .inr (.inl fo))), (qw, .inl (k2, 200, .inr (.inl fw))), (qc, .inl (k3, 200, .inr (.inl fc))), (qn, .inl (k4, 200, .inr (.inl fn))), (qm, .inl (k5, 200, .inr (.inl fm))), (ql, .inl (k6, 104, .inl fl)), (g0, .inr (1, [.long (lN T), .ref a1, .int (nI k), .ref a2, .ref a3, .int (nI n), .ref a4])), (a1, .inl (i1, 200, .inr (.inl O))), (a2, .inl (i2, 520, .inl mo)), (a3, .inl (i3, 520, .inr (.inl mb))), (a4, .inl (i4, 120, .inl tx))] H → va_D (fun q : Nat => s.heap.size ≤ q) [(h0, .inr (0, [.int d, .int (nI t), .ref qo, .ref qw, .ref qc, .ref qn, .ref qm, .ref ql, .int (nI n)])), (qo, .inl (k1, 200, .inr (.inl fo))), (qw, .inl (k2, 200, .inr (.inl fw))), (qc, .inl (k3, 200, .inr (.inl fc))), (qn, .inl (k4, 200, .inr (.inl fn))), (qm, .inl (k5, 200, .inr (.inl fm))), (ql, .inl (k6, 104, .inl fl)), (g0, .inr (1, [.long (lN T), .ref a1, .int (nI k), .ref a2, .ref a3, .int (nI n), .ref a4])), (a1, .inl (i1, 200, .inr (.inl O))), (a2, .inl (i2, 520, .inl mo)), (a3, .inl (i3, 520, .inr (.inl mb))), (a4, .inl (i4, 120, .inl tx))] → va_S (fun q : Nat => s.heap.size ≤ q) s.heap H locs → ∀ ls : Array Slot, lv_has ls 4 [(0, .ref b), (1, .ref h0), (2, .ref g0), (3, .int (nI i))] → W p l e room_1 s m #[Value.ref b] below meth c H locs 12 2480 (lw_Z below #[Value.ref b] s) (F0 m 368 ls [])) : W p l e room_1 s m #[Value.ref b] below meth c H locs 12 2480 (lw_Z below #[Value.ref b] s) (F0 m 299 ls []) := by
  obtain ⟨hx, hb, hr, hml, hown0, hts0, hX, hbl, hlocks, hgv⟩ := C0
  have hts : ∀ w ∈ wsL_law, w.before #[Value.ref b] s = true := fun w h => hts0 w (wsL_law_in w h)
  have hown : s.vm.findClass RL = some m.cls := hown0
  have hA : ∀ q : Nat, s.heap.size ≤ q → (fun q : Nat => s.heap.size ≤ q) q := fun _ h => h
  have hbA : ¬ (fun q : Nat => s.heap.size ≤ q) b := Nat.not_le.mpr hbl
  obtain ⟨v1, v2, v3, v4, v5, v6, v7⟩ := id hI
  have ht9 : t < 1000 := by rw [v1]; exact Nat.mod_lt _ (by decide)
  have hT9 : T ≤ 51100000 := Nat.le_trans v3 (Nat.mul_le_mul_right 100000 hq)
  refine lv_aload_n hx hb dL_law_299 rfl (lv_at hl 1 rfl) ?_
  refine lv_aload_n hx hb dL_law_300 rfl (lv_at hl 0 rfl) ?_
  refine lv_iload_n hx hb dL_law_301 rfl (lv_at hl 3 rfl) ?_
  refine lv_iconst (v := 1) hx hb dL_law_302 (by decide) ?_
  refine lv_iadd hx hb dL_law_303 ?_
  refine dk_asi (y := nI (i + 1)) (nI_add i 1) ?_
  refine dk_sld hx hb hX hbl hbA hS (j := i + 1) (by omega) (by omega) dL_law_304 ?_
  have hPc := hP.sub (ws' := [(h0, .inr (0, [.int d, .int (nI t), .ref qo, .ref qw, .ref qc, .ref qn, .ref qm, .ref ql, .int (nI n)])), (qo, .inl (k1, 200, .inr (.inl fo))), (qw, .inl (k2, 200, .inr (.inl fw))), (qc, .inl (k3, 200, .inr (.inl fc))), (qn, .inl (k4, 200, .inr (.inl fn))), (qm, .inl (k5, 200, .inr (.inl fm)))]) [0, 1, 2, 3, 4, 5] rfl
  have hKc := hK.sub (tys' := [(k1, .long), (k2, .long), (k3, .long), (k4, .long), (k5, .long)]) [0, 1, 2, 3, 4] rfl
  refine va_calli (va_runV (As := [.int (xs (i + 1))]) (rest := []) ⟨hx, hb, hml, hown, hts⟩ (cX_isTold l dC dI h0 qo qw qc qn qm ql k1 k2 k3 k4 k5 d (nI n) (nI t) fo fw fc fn fm (xs (i + 1))) (cwV 1 hts gL_law_X0_isTold rfl rfl rfl (by decide +kernel) ⟨Nat.le_of_ble_eq_true rfl, Nat.le_of_ble_eq_true rfl⟩) (dk_rV hPc hKc (ci := 0) (q0 := 0) rfl rfl) rfl rfl hl.1 rfl (lv_room (Nat.le_of_ble_eq_true rfl)) dL_law_305 ⟨Nat.le_of_ble_eq_true rfl, Nat.le_of_ble_eq_true rfl⟩) hS (fun q _ h => False.elim h) (fun q h => False.elim h) (fun rx u8 t8 H1 locs ht8 hvm8 hw hB hz1 hk1 hS => ?_)
  try dsimp only at hw
  have hP := dk_kept hP hk1
  generalize H1 = H at hP hS ⊢
  have hwx := hw
  refine lv_aload_n hx hb dL_law_308 rfl (lv_at hl 2 rfl) ?_
  refine lv_aload_n hx hb dL_law_309 rfl (lv_at hl 0 rfl) ?_
  refine lv_iload_n hx hb dL_law_310 rfl (lv_at hl 3 rfl) ?_
  refine lv_iconst (v := 1) hx hb dL_law_311 (by decide) ?_
  refine lv_iadd hx hb dL_law_312 ?_
  refine dk_asi (y := nI (i + 1)) (nI_add i 1) ?_
  refine dk_sld hx hb hX hbl hbA hS (j := i + 1) (by omega) (by omega) dL_law_313 ?_
  have hPc := hP.sub (ws' := [(g0, .inr (1, [.long (lN T), .ref a1, .int (nI k), .ref a2, .ref a3, .int (nI n), .ref a4])), (a1, .inl (i1, 200, .inr (.inl O))), (a2, .inl (i2, 520, .inl mo)), (a3, .inl (i3, 520, .inr (.inl mb)))]) [7, 8, 9, 10] rfl
  have hKc := hK.sub (tys' := [(i1, .long), (i2, .int), (i3, .long)]) [6, 7, 8] rfl
  refine va_calli (va_runV (As := [.int (xs (i + 1))]) (rest := [.int rx]) ⟨hx, hb, hml, hown, hts⟩ (cY_isTold l dC dI g0 a1 a2 a3 a4 i1 i2 i3 (lN T) k (by omega) (nI n) O mo mb (xs (i + 1))) (cwV 1 hts gL_law_X1_isTold rfl rfl rfl (by decide +kernel) ⟨Nat.le_of_ble_eq_true rfl, Nat.le_of_ble_eq_true rfl⟩) (dk_rV hPc hKc (ci := 1) (q0 := 0) rfl rfl) rfl rfl hl.1 rfl (lv_room (Nat.le_of_ble_eq_true rfl)) dL_law_314 ⟨Nat.le_of_ble_eq_true rfl, Nat.le_of_ble_eq_true rfl⟩) hS (fun q _ h => False.elim h) (fun q h => False.elim h) (fun ry u8 t8 H1 locs ht8 hvm8 hw hB hz1 hk1 hS => ?_)
  try dsimp only at hw
  have hP := dk_kept hP hk1
  generalize H1 = H at hP hS ⊢
  have hwy := hw
  have hiff : ∀ j : Nat, j < 200 → ((¬ fo j = 0 ∨ ¬ fm j = 0) ↔ (¬ O j = 0 ∨ ¬ lN (dk_yn mo (nI j) k) ≤ 0)) := fun j hj => by
    obtain ⟨⟨e1, -, -, -, e5⟩, -⟩ := v7 j hj
    have hyn := dk_yn_le mo (nI j) k
    rw [e1, e5, dk_lN0 (by omega)]
  have req : rx = ry := dk_bool2 (dk_tld_congr hiff) hwx hwy
  refine lv_icmp_eq (tgt := 368) hx hb dL_law_317 (by decide) (fun _ => ?_) (fun c9 => absurd req c9)
  exact kk d t n fo fw fc fn fm fl T k O mo mb tx (dk_Inv_mono (Nat.le_succ q) hI) H locs hP hD hS ls hl
set_option maxHeartbeats 4000000 in
set_option maxRecDepth 100000 in
/-- the law: write -/
theorem law_write {p : Program} {l : Launch} {e : Env} {s : State} {m : MethodId} {below : List Frame} {meth : Method} {c : Code} {dC : Nat → ClassId} {dI : Nat → Nat → Nat} {b L : Nat} {xs : Nat → Int32} {h0 qo qw qc qn qm ql g0 a1 a2 a3 a4 : Nat} {k1 k2 k3 k4 k5 k6 i1 i2 i3 i4 : ClassId} (hL : L ≤ 2048) (C0 : lw_At p s m meth c b L xs) (hK : va_K (dC, dI) vwCl [(k1, .long), (k2, .long), (k3, .long), (k4, .long), (k5, .long), (k6, .char), (i1, .long), (i2, .int), (i3, .long), (i4, .int)] s) (i q : Nat) (hi : i + 4 ≤ L) (hq : q ≤ 511) (d : Int32) (t n : Nat) (fo fw fc fn fm : Nat → Int64) (fl : Nat → Int32) (T k : Nat) (O : Nat → Int64) (mo : Nat → Int32) (mb : Nat → Int64) (tx : Nat → Int32) (hI : dk_Inv q d t n fo fw fc fn fm fl T k O mo mb tx) (H : Heap) (locs : List Loc) (hP : va_P (dC, dI) vwCl [(h0, .inr (0, [.int d, .int (nI t), .ref qo, .ref qw, .ref qc, .ref qn, .ref qm, .ref ql, .int (nI n)])), (qo, .inl (k1, 200, .inr (.inl fo))), (qw, .inl (k2, 200, .inr (.inl fw))), (qc, .inl (k3, 200, .inr (.inl fc))), (qn, .inl (k4, 200, .inr (.inl fn))), (qm, .inl (k5, 200, .inr (.inl fm))), (ql, .inl (k6, 104, .inl fl)), (g0, .inr (1, [.long (lN T), .ref a1, .int (nI k), .ref a2, .ref a3, .int (nI n), .ref a4])), (a1, .inl (i1, 200, .inr (.inl O))), (a2, .inl (i2, 520, .inl mo)), (a3, .inl (i3, 520, .inr (.inl mb))), (a4, .inl (i4, 120, .inl tx))] H) (hD : va_D (fun q : Nat => s.heap.size ≤ q) [(h0, .inr (0, [.int d, .int (nI t), .ref qo, .ref qw, .ref qc, .ref qn, .ref qm, .ref ql, .int (nI n)])), (qo, .inl (k1, 200, .inr (.inl fo))), (qw, .inl (k2, 200, .inr (.inl fw))), (qc, .inl (k3, 200, .inr (.inl fc))), (qn, .inl (k4, 200, .inr (.inl fn))), (qm, .inl (k5, 200, .inr (.inl fm))), (ql, .inl (k6, 104, .inl fl)), (g0, .inr (1, [.long (lN T), .ref a1, .int (nI k), .ref a2, .ref a3, .int (nI n), .ref a4])), (a1, .inl (i1, 200, .inr (.inl O))), (a2, .inl (i2, 520, .inl mo)), (a3, .inl (i3, 520, .inr (.inl mb))), (a4, .inl (i4, 120, .inl tx))]) (hS : va_S (fun q : Nat => s.heap.size ≤ q) s.heap H locs) (ls : Array Slot) (hl : lv_has ls 4 [(0, .ref b), (1, .ref h0), (2, .ref g0), (3, .int (nI i))]) (kk : ∀ (d : Int32) (t n : Nat) (fo fw fc fn fm : Nat → Int64) (fl : Nat → Int32) (T k : Nat) (O : Nat → Int64) (mo : Nat → Int32) (mb : Nat → Int64) (tx : Nat → Int32), dk_Inv (q + 1) d t n fo fw fc fn fm fl T k O mo mb tx → ∀ (H : Heap) (locs : List Loc), va_P (dC, dI) vwCl [(h0, .inr (0, [.int d, .int (nI t), .ref qo, .ref qw, .ref qc, .ref qn, .ref qm, .ref ql, .int (nI n)])), (qo, .inl (k1, 200, .inr (.inl fo))), (qw, .inl (k2, 200, .inr (.inl fw))), (qc, .inl (k3, 200, .inr (.inl fc))), (qn, .inl (k4, 200, .inr (.inl fn))), (qm, .inl (k5, 200, .inr (.inl fm))), (ql, .inl (k6, 104, .inl fl)), (g0, .inr (1, [.long (lN T), .ref a1, .int (nI k), .ref a2, .ref a3, .int (nI n), .ref a4])), (a1, .inl (i1, 200, .inr (.inl O))), (a2, .inl (i2, 520, .inl mo)), (a3, .inl (i3, 520, .inr (.inl mb))), (a4, .inl (i4, 120, .inl tx))] H → va_D (fun q : Nat => s.heap.size ≤ q) [(h0, .inr (0, [.int d, .int (nI t), .ref qo, .ref qw, .ref qc, .ref qn, .ref qm, .ref ql, .int (nI n)])), (qo, .inl (k1, 200, .inr (.inl fo))), (qw, .inl (k2, 200, .inr (.inl fw))), (qc, .inl (k3, 200, .inr (.inl fc))), (qn, .inl (k4, 200, .inr (.inl fn))), (qm, .inl (k5, 200, .inr (.inl fm))), (ql, .inl (k6, 104, .inl fl)), (g0, .inr (1, [.long (lN T), .ref a1, .int (nI k), .ref a2, .ref a3, .int (nI n), .ref a4])), (a1, .inl (i1, 200, .inr (.inl O))), (a2, .inl (i2, 520, .inl mo)), (a3, .inl (i3, 520, .inr (.inl mb))), (a4, .inl (i4, 120, .inl tx))] → va_S (fun q : Nat => s.heap.size ≤ q) s.heap H locs → ∀ ls : Array Slot, lv_has ls 4 [(0, .ref b), (1, .ref h0), (2, .ref g0), (3, .int (nI i))] → W p l e room_1 s m #[Value.ref b] below meth c H locs 12 2480 (lw_Z below #[Value.ref b] s) (F0 m 368 ls [])) : W p l e room_1 s m #[Value.ref b] below meth c H locs 12 2480 (lw_Z below #[Value.ref b] s) (F0 m 322 ls []) := by
  obtain ⟨hx, hb, hr, hml, hown0, hts0, hX, hbl, hlocks, hgv⟩ := C0
  have hts : ∀ w ∈ wsL_law, w.before #[Value.ref b] s = true := fun w h => hts0 w (wsL_law_in w h)
  have hown : s.vm.findClass RL = some m.cls := hown0
  have hA : ∀ q : Nat, s.heap.size ≤ q → (fun q : Nat => s.heap.size ≤ q) q := fun _ h => h
  have hbA : ¬ (fun q : Nat => s.heap.size ≤ q) b := Nat.not_le.mpr hbl
  obtain ⟨v1, v2, v3, v4, v5, v6, v7⟩ := id hI
  have ht9 : t < 1000 := by rw [v1]; exact Nat.mod_lt _ (by decide)
  have hT9 : T ≤ 51100000 := Nat.le_trans v3 (Nat.mul_le_mul_right 100000 hq)
  have hbd : ∀ j : Nat, j < 200 → -9223372036854775808 < (fo j).toInt ∧ -9223372036854775808 < (fw j).toInt ∧ -9223372036854775808 < (fc j).toInt ∧ -9223372036854775808 < (fn j).toInt ∧ -9223372036854775808 < (fm j).toInt := fun j hj => by
    obtain ⟨⟨-, -, -, -, e5⟩, b1, b2, b3, b4⟩ := v7 j hj
    have hyn := dk_yn_le mo (nI j) k
    refine ⟨dk_in_lo b1, dk_in_lo b2, dk_in_lo b3, dk_in_lo b4, ?_⟩
    rw [e5, lN_toInt (by omega)]; omega
  refine lv_aload_n hx hb dL_law_322 rfl (lv_at hl 1 rfl) ?_
  refine lv_aload_n hx hb dL_law_323 rfl (lv_at hl 0 rfl) ?_
  refine lv_iload_n hx hb dL_law_324 rfl (lv_at hl 3 rfl) ?_
  refine lv_iconst (v := 1) hx hb dL_law_325 (by decide) ?_
  refine lv_iadd hx hb dL_law_326 ?_
  refine dk_asi (y := nI (i + 1)) (nI_add i 1) ?_
  refine dk_sld hx hb hX hbl hbA hS (j := i + 1) (by omega) (by omega) dL_law_327 ?_
  have hPc := hP.sub (ws' := [(h0, .inr (0, [.int d, .int (nI t), .ref qo, .ref qw, .ref qc, .ref qn, .ref qm, .ref ql, .int (nI n)])), (qo, .inl (k1, 200, .inr (.inl fo))), (qw, .inl (k2, 200, .inr (.inl fw))), (qc, .inl (k3, 200, .inr (.inl fc))), (qn, .inl (k4, 200, .inr (.inl fn))), (qm, .inl (k5, 200, .inr (.inl fm))), (ql, .inl (k6, 104, .inl fl))]) [0, 1, 2, 3, 4, 5, 6] rfl
  have hDc := hD.sub (ws' := [(h0, .inr (0, [.int d, .int (nI t), .ref qo, .ref qw, .ref qc, .ref qn, .ref qm, .ref ql, .int (nI n)])), (qo, .inl (k1, 200, .inr (.inl fo))), (qw, .inl (k2, 200, .inr (.inl fw))), (qc, .inl (k3, 200, .inr (.inl fc))), (qn, .inl (k4, 200, .inr (.inl fn))), (qm, .inl (k5, 200, .inr (.inl fm))), (ql, .inl (k6, 104, .inl fl))]) [0, 1, 2, 3, 4, 5, 6] (by decide) rfl
  have hFc := va_free (wc := [(h0, .inr (0, [.int d, .int (nI t), .ref qo, .ref qw, .ref qc, .ref qn, .ref qm, .ref ql, .int (nI n)])), (qo, .inl (k1, 200, .inr (.inl fo))), (qw, .inl (k2, 200, .inr (.inl fw))), (qc, .inl (k3, 200, .inr (.inl fc))), (qn, .inl (k4, 200, .inr (.inl fn))), (qm, .inl (k5, 200, .inr (.inl fm))), (ql, .inl (k6, 104, .inl fl))]) hD hS hA [0, 1, 2, 3, 4, 5, 6] rfl
  have hKc := hK.sub (tys' := [(k1, .long), (k2, .long), (k3, .long), (k4, .long), (k5, .long), (k6, .char)]) [0, 1, 2, 3, 4, 5] rfl
  refine va_calli (va_runV (As := [.int (xs (i + 1))]) (rest := []) ⟨hx, hb, hml, hown, hts⟩ (cX_write l dC dI _ h0 qo qw qc qn qm ql k1 k2 k3 k4 k5 k6 d (nI n) (nI t) fo fw fc fn fm fl hbd (xs (i + 1))) (cwV 1 hts gL_law_X0_write rfl rfl rfl (by decide +kernel) ⟨Nat.le_of_ble_eq_true rfl, Nat.le_of_ble_eq_true rfl⟩) (dk_wV hPc hKc hDc (ci := 0) (q0 := 0) rfl rfl) rfl rfl hl.1 rfl (lv_room (Nat.le_of_ble_eq_true rfl)) dL_law_328 ⟨Nat.le_of_ble_eq_true rfl, Nat.le_of_ble_eq_true rfl⟩) hS (fun q _ h => hFc q h) hFc (fun rx u8 t8 H1 locs ht8 hvm8 hw hB hz1 hk1 hS => ?_)
  try dsimp only at hw
  obtain ⟨ll2, gl⟩ := u8
  try dsimp only at hw hB
  obtain ⟨hP1, hD1⟩ := hB
  rw [ht8] at hP1
  obtain ⟨hP, hD⟩ := va_join (wr := [(g0, .inr (1, [.long (lN T), .ref a1, .int (nI k), .ref a2, .ref a3, .int (nI n), .ref a4])), (a1, .inl (i1, 200, .inr (.inl O))), (a2, .inl (i2, 520, .inl mo)), (a3, .inl (i3, 520, .inr (.inl mb))), (a4, .inl (i4, 120, .inl tx))]) (w1 := [(h0, .inr (0, [.int d, .int (nI t), .ref qo, .ref qw, .ref qc, .ref qn, .ref qm, .ref ql, .int ll2])), (qo, .inl (k1, 200, .inr (.inl fo))), (qw, .inl (k2, 200, .inr (.inl fw))), (qc, .inl (k3, 200, .inr (.inl fc))), (qn, .inl (k4, 200, .inr (.inl fn))), (qm, .inl (k5, 200, .inr (.inl fm))), (ql, .inl (k6, 104, .inl gl))]) hP hD [0, 1, 2, 3, 4, 5, 6] [7, 8, 9, 10, 11] rfl rfl (by decide) (by decide) hk1 hFc hP1 hD1
  generalize H1 = H at hP hS ⊢
  have hP := hP.sub (ws' := [(h0, .inr (0, [.int d, .int (nI t), .ref qo, .ref qw, .ref qc, .ref qn, .ref qm, .ref ql, .int ll2])), (qo, .inl (k1, 200, .inr (.inl fo))), (qw, .inl (k2, 200, .inr (.inl fw))), (qc, .inl (k3, 200, .inr (.inl fc))), (qn, .inl (k4, 200, .inr (.inl fn))), (qm, .inl (k5, 200, .inr (.inl fm))), (ql, .inl (k6, 104, .inl gl)), (g0, .inr (1, [.long (lN T), .ref a1, .int (nI k), .ref a2, .ref a3, .int (nI n), .ref a4])), (a1, .inl (i1, 200, .inr (.inl O))), (a2, .inl (i2, 520, .inl mo)), (a3, .inl (i3, 520, .inr (.inl mb))), (a4, .inl (i4, 120, .inl tx))]) [5, 6, 7, 8, 9, 10, 11, 0, 1, 2, 3, 4] rfl
  have hD := hD.sub (ws' := [(h0, .inr (0, [.int d, .int (nI t), .ref qo, .ref qw, .ref qc, .ref qn, .ref qm, .ref ql, .int ll2])), (qo, .inl (k1, 200, .inr (.inl fo))), (qw, .inl (k2, 200, .inr (.inl fw))), (qc, .inl (k3, 200, .inr (.inl fc))), (qn, .inl (k4, 200, .inr (.inl fn))), (qm, .inl (k5, 200, .inr (.inl fm))), (ql, .inl (k6, 104, .inl gl)), (g0, .inr (1, [.long (lN T), .ref a1, .int (nI k), .ref a2, .ref a3, .int (nI n), .ref a4])), (a1, .inl (i1, 200, .inr (.inl O))), (a2, .inl (i2, 520, .inl mo)), (a3, .inl (i3, 520, .inr (.inl mb))), (a4, .inl (i4, 120, .inl tx))]) [5, 6, 7, 8, 9, 10, 11, 0, 1, 2, 3, 4] (by decide) rfl
  have hP : va_P (dC, dI) vwCl [(h0, .inr (0, [.int d, .int (nI t), .ref qo, .ref qw, .ref qc, .ref qn, .ref qm, .ref ql, .int ll2])), (qo, .inl (k1, 200, .inr (.inl fo))), (qw, .inl (k2, 200, .inr (.inl fw))), (qc, .inl (k3, 200, .inr (.inl fc))), (qn, .inl (k4, 200, .inr (.inl fn))), (qm, .inl (k5, 200, .inr (.inl fm))), (ql, .inl (k6, 104, .inl gl)), (g0, .inr (1, [.long (lN T), .ref a1, .int (nI k), .ref a2, .ref a3, .int (nI n), .ref a4])), (a1, .inl (i1, 200, .inr (.inl O))), (a2, .inl (i2, 520, .inl mo)), (a3, .inl (i3, 520, .inr (.inl mb))), (a4, .inl (i4, 120, .inl tx))] H := hP
  have hD : va_D (fun q : Nat => s.heap.size ≤ q) [(h0, .inr (0, [.int d, .int (nI t), .ref qo, .ref qw, .ref qc, .ref qn, .ref qm, .ref ql, .int ll2])), (qo, .inl (k1, 200, .inr (.inl fo))), (qw, .inl (k2, 200, .inr (.inl fw))), (qc, .inl (k3, 200, .inr (.inl fc))), (qn, .inl (k4, 200, .inr (.inl fn))), (qm, .inl (k5, 200, .inr (.inl fm))), (ql, .inl (k6, 104, .inl gl)), (g0, .inr (1, [.long (lN T), .ref a1, .int (nI k), .ref a2, .ref a3, .int (nI n), .ref a4])), (a1, .inl (i1, 200, .inr (.inl O))), (a2, .inl (i2, 520, .inl mo)), (a3, .inl (i3, 520, .inr (.inl mb))), (a4, .inl (i4, 120, .inl tx))] := hD
  have hwx := hw
  refine lv_aload_n hx hb dL_law_331 rfl (lv_at hl 2 rfl) ?_
  refine lv_aload_n hx hb dL_law_332 rfl (lv_at hl 0 rfl) ?_
  refine lv_iload_n hx hb dL_law_333 rfl (lv_at hl 3 rfl) ?_
  refine lv_iconst (v := 1) hx hb dL_law_334 (by decide) ?_
  refine lv_iadd hx hb dL_law_335 ?_
  refine dk_asi (y := nI (i + 1)) (nI_add i 1) ?_
  refine dk_sld hx hb hX hbl hbA hS (j := i + 1) (by omega) (by omega) dL_law_336 ?_
  have hPc := hP.sub (ws' := [(g0, .inr (1, [.long (lN T), .ref a1, .int (nI k), .ref a2, .ref a3, .int (nI n), .ref a4])), (a1, .inl (i1, 200, .inr (.inl O))), (a2, .inl (i2, 520, .inl mo)), (a3, .inl (i3, 520, .inr (.inl mb))), (a4, .inl (i4, 120, .inl tx))]) [7, 8, 9, 10, 11] rfl
  have hDc := hD.sub (ws' := [(g0, .inr (1, [.long (lN T), .ref a1, .int (nI k), .ref a2, .ref a3, .int (nI n), .ref a4])), (a1, .inl (i1, 200, .inr (.inl O))), (a2, .inl (i2, 520, .inl mo)), (a3, .inl (i3, 520, .inr (.inl mb))), (a4, .inl (i4, 120, .inl tx))]) [7, 8, 9, 10, 11] (by decide) rfl
  have hFc := va_free (wc := [(g0, .inr (1, [.long (lN T), .ref a1, .int (nI k), .ref a2, .ref a3, .int (nI n), .ref a4])), (a1, .inl (i1, 200, .inr (.inl O))), (a2, .inl (i2, 520, .inl mo)), (a3, .inl (i3, 520, .inr (.inl mb))), (a4, .inl (i4, 120, .inl tx))]) hD hS hA [7, 8, 9, 10, 11] rfl
  have hKc := hK.sub (tys' := [(i1, .long), (i2, .int), (i3, .long), (i4, .int)]) [6, 7, 8, 9] rfl
  refine va_calli (va_runV (As := [.int (xs (i + 1))]) (rest := [.int rx]) ⟨hx, hb, hml, hown, hts⟩ (cY_write l dC dI _ g0 a1 a2 a3 a4 i1 i2 i3 i4 (lN T) k (by omega) (nI n) O mo mb tx (xs (i + 1))) (cwV 1 hts gL_law_X1_write rfl rfl rfl (by decide +kernel) ⟨Nat.le_of_ble_eq_true rfl, Nat.le_of_ble_eq_true rfl⟩) (dk_wV hPc hKc hDc (ci := 1) (q0 := 0) rfl rfl) rfl rfl hl.1 rfl (lv_room (Nat.le_of_ble_eq_true rfl)) dL_law_337 ⟨Nat.le_of_ble_eq_true rfl, Nat.le_of_ble_eq_true rfl⟩) hS (fun q _ h => hFc q h) hFc (fun ry u8 t8 H1 locs ht8 hvm8 hw hB hz1 hk1 hS => ?_)
  try dsimp only at hw
  obtain ⟨w2, tx2⟩ := u8
  try dsimp only at hw hB
  obtain ⟨hP1, hD1⟩ := hB
  rw [ht8] at hP1
  obtain ⟨hP, hD⟩ := va_join (wr := [(h0, .inr (0, [.int d, .int (nI t), .ref qo, .ref qw, .ref qc, .ref qn, .ref qm, .ref ql, .int ll2])), (qo, .inl (k1, 200, .inr (.inl fo))), (qw, .inl (k2, 200, .inr (.inl fw))), (qc, .inl (k3, 200, .inr (.inl fc))), (qn, .inl (k4, 200, .inr (.inl fn))), (qm, .inl (k5, 200, .inr (.inl fm))), (ql, .inl (k6, 104, .inl gl))]) (w1 := [(g0, .inr (1, [.long (lN T), .ref a1, .int (nI k), .ref a2, .ref a3, .int w2, .ref a4])), (a1, .inl (i1, 200, .inr (.inl O))), (a2, .inl (i2, 520, .inl mo)), (a3, .inl (i3, 520, .inr (.inl mb))), (a4, .inl (i4, 120, .inl tx2))]) hP hD [7, 8, 9, 10, 11] [0, 1, 2, 3, 4, 5, 6] rfl rfl (by decide) (by decide) hk1 hFc hP1 hD1
  generalize H1 = H at hP hS ⊢
  have hP : va_P (dC, dI) vwCl [(h0, .inr (0, [.int d, .int (nI t), .ref qo, .ref qw, .ref qc, .ref qn, .ref qm, .ref ql, .int ll2])), (qo, .inl (k1, 200, .inr (.inl fo))), (qw, .inl (k2, 200, .inr (.inl fw))), (qc, .inl (k3, 200, .inr (.inl fc))), (qn, .inl (k4, 200, .inr (.inl fn))), (qm, .inl (k5, 200, .inr (.inl fm))), (ql, .inl (k6, 104, .inl gl)), (g0, .inr (1, [.long (lN T), .ref a1, .int (nI k), .ref a2, .ref a3, .int w2, .ref a4])), (a1, .inl (i1, 200, .inr (.inl O))), (a2, .inl (i2, 520, .inl mo)), (a3, .inl (i3, 520, .inr (.inl mb))), (a4, .inl (i4, 120, .inl tx2))] H := hP
  have hD : va_D (fun q : Nat => s.heap.size ≤ q) [(h0, .inr (0, [.int d, .int (nI t), .ref qo, .ref qw, .ref qc, .ref qn, .ref qm, .ref ql, .int ll2])), (qo, .inl (k1, 200, .inr (.inl fo))), (qw, .inl (k2, 200, .inr (.inl fw))), (qc, .inl (k3, 200, .inr (.inl fc))), (qn, .inl (k4, 200, .inr (.inl fn))), (qm, .inl (k5, 200, .inr (.inl fm))), (ql, .inl (k6, 104, .inl gl)), (g0, .inr (1, [.long (lN T), .ref a1, .int (nI k), .ref a2, .ref a3, .int w2, .ref a4])), (a1, .inl (i1, 200, .inr (.inl O))), (a2, .inl (i2, 520, .inl mo)), (a3, .inl (i3, 520, .inr (.inl mb))), (a4, .inl (i4, 120, .inl tx2))] := hD
  have hwy := hw
  obtain ⟨req, n2, rfl, rfl, hI2⟩ := dk_Inv_wr hI hwx hwy
  refine lv_icmp_eq (tgt := 368) hx hb dL_law_340 (by decide) (fun _ => ?_) (fun c9 => absurd req c9)
  exact kk d t n2 fo fw fc fn fm gl T k O mo mb tx2 hI2 H locs hP hD hS ls hl
set_option maxHeartbeats 4000000 in
set_option maxRecDepth 100000 in
/-- the law: at -/
theorem law_at {p : Program} {l : Launch} {e : Env} {s : State} {m : MethodId} {below : List Frame} {meth : Method} {c : Code} {dC : Nat → ClassId} {dI : Nat → Nat → Nat} {b L : Nat} {xs : Nat → Int32} {h0 qo qw qc qn qm ql g0 a1 a2 a3 a4 : Nat} {k1 k2 k3 k4 k5 k6 i1 i2 i3 i4 : ClassId} (hL : L ≤ 2048) (C0 : lw_At p s m meth c b L xs) (hK : va_K (dC, dI) vwCl [(k1, .long), (k2, .long), (k3, .long), (k4, .long), (k5, .long), (k6, .char), (i1, .long), (i2, .int), (i3, .long), (i4, .int)] s) (i q : Nat) (hi : i + 4 ≤ L) (hq : q ≤ 511) (d : Int32) (t n : Nat) (fo fw fc fn fm : Nat → Int64) (fl : Nat → Int32) (T k : Nat) (O : Nat → Int64) (mo : Nat → Int32) (mb : Nat → Int64) (tx : Nat → Int32) (hI : dk_Inv q d t n fo fw fc fn fm fl T k O mo mb tx) (H : Heap) (locs : List Loc) (hP : va_P (dC, dI) vwCl [(h0, .inr (0, [.int d, .int (nI t), .ref qo, .ref qw, .ref qc, .ref qn, .ref qm, .ref ql, .int (nI n)])), (qo, .inl (k1, 200, .inr (.inl fo))), (qw, .inl (k2, 200, .inr (.inl fw))), (qc, .inl (k3, 200, .inr (.inl fc))), (qn, .inl (k4, 200, .inr (.inl fn))), (qm, .inl (k5, 200, .inr (.inl fm))), (ql, .inl (k6, 104, .inl fl)), (g0, .inr (1, [.long (lN T), .ref a1, .int (nI k), .ref a2, .ref a3, .int (nI n), .ref a4])), (a1, .inl (i1, 200, .inr (.inl O))), (a2, .inl (i2, 520, .inl mo)), (a3, .inl (i3, 520, .inr (.inl mb))), (a4, .inl (i4, 120, .inl tx))] H) (hD : va_D (fun q : Nat => s.heap.size ≤ q) [(h0, .inr (0, [.int d, .int (nI t), .ref qo, .ref qw, .ref qc, .ref qn, .ref qm, .ref ql, .int (nI n)])), (qo, .inl (k1, 200, .inr (.inl fo))), (qw, .inl (k2, 200, .inr (.inl fw))), (qc, .inl (k3, 200, .inr (.inl fc))), (qn, .inl (k4, 200, .inr (.inl fn))), (qm, .inl (k5, 200, .inr (.inl fm))), (ql, .inl (k6, 104, .inl fl)), (g0, .inr (1, [.long (lN T), .ref a1, .int (nI k), .ref a2, .ref a3, .int (nI n), .ref a4])), (a1, .inl (i1, 200, .inr (.inl O))), (a2, .inl (i2, 520, .inl mo)), (a3, .inl (i3, 520, .inr (.inl mb))), (a4, .inl (i4, 120, .inl tx))]) (hS : va_S (fun q : Nat => s.heap.size ≤ q) s.heap H locs) (ls : Array Slot) (hl : lv_has ls 4 [(0, .ref b), (1, .ref h0), (2, .ref g0), (3, .int (nI i))]) (kk : ∀ (d : Int32) (t n : Nat) (fo fw fc fn fm : Nat → Int64) (fl : Nat → Int32) (T k : Nat) (O : Nat → Int64) (mo : Nat → Int32) (mb : Nat → Int64) (tx : Nat → Int32), dk_Inv (q + 1) d t n fo fw fc fn fm fl T k O mo mb tx → ∀ (H : Heap) (locs : List Loc), va_P (dC, dI) vwCl [(h0, .inr (0, [.int d, .int (nI t), .ref qo, .ref qw, .ref qc, .ref qn, .ref qm, .ref ql, .int (nI n)])), (qo, .inl (k1, 200, .inr (.inl fo))), (qw, .inl (k2, 200, .inr (.inl fw))), (qc, .inl (k3, 200, .inr (.inl fc))), (qn, .inl (k4, 200, .inr (.inl fn))), (qm, .inl (k5, 200, .inr (.inl fm))), (ql, .inl (k6, 104, .inl fl)), (g0, .inr (1, [.long (lN T), .ref a1, .int (nI k), .ref a2, .ref a3, .int (nI n), .ref a4])), (a1, .inl (i1, 200, .inr (.inl O))), (a2, .inl (i2, 520, .inl mo)), (a3, .inl (i3, 520, .inr (.inl mb))), (a4, .inl (i4, 120, .inl tx))] H → va_D (fun q : Nat => s.heap.size ≤ q) [(h0, .inr (0, [.int d, .int (nI t), .ref qo, .ref qw, .ref qc, .ref qn, .ref qm, .ref ql, .int (nI n)])), (qo, .inl (k1, 200, .inr (.inl fo))), (qw, .inl (k2, 200, .inr (.inl fw))), (qc, .inl (k3, 200, .inr (.inl fc))), (qn, .inl (k4, 200, .inr (.inl fn))), (qm, .inl (k5, 200, .inr (.inl fm))), (ql, .inl (k6, 104, .inl fl)), (g0, .inr (1, [.long (lN T), .ref a1, .int (nI k), .ref a2, .ref a3, .int (nI n), .ref a4])), (a1, .inl (i1, 200, .inr (.inl O))), (a2, .inl (i2, 520, .inl mo)), (a3, .inl (i3, 520, .inr (.inl mb))), (a4, .inl (i4, 120, .inl tx))] → va_S (fun q : Nat => s.heap.size ≤ q) s.heap H locs → ∀ ls : Array Slot, lv_has ls 4 [(0, .ref b), (1, .ref h0), (2, .ref g0), (3, .int (nI i))] → W p l e room_1 s m #[Value.ref b] below meth c H locs 12 2480 (lw_Z below #[Value.ref b] s) (F0 m 368 ls [])) : W p l e room_1 s m #[Value.ref b] below meth c H locs 12 2480 (lw_Z below #[Value.ref b] s) (F0 m 345 ls []) := by
  obtain ⟨hx, hb, hr, hml, hown0, hts0, hX, hbl, hlocks, hgv⟩ := C0
  have hts : ∀ w ∈ wsL_law, w.before #[Value.ref b] s = true := fun w h => hts0 w (wsL_law_in w h)
  have hown : s.vm.findClass RL = some m.cls := hown0
  have hA : ∀ q : Nat, s.heap.size ≤ q → (fun q : Nat => s.heap.size ≤ q) q := fun _ h => h
  have hbA : ¬ (fun q : Nat => s.heap.size ≤ q) b := Nat.not_le.mpr hbl
  obtain ⟨v1, v2, v3, v4, v5, v6, v7⟩ := id hI
  have ht9 : t < 1000 := by rw [v1]; exact Nat.mod_lt _ (by decide)
  have hT9 : T ≤ 51100000 := Nat.le_trans v3 (Nat.mul_le_mul_right 100000 hq)
  refine lv_aload_n hx hb dL_law_345 rfl (lv_at hl 1 rfl) ?_
  refine lv_aload_n hx hb dL_law_346 rfl (lv_at hl 0 rfl) ?_
  refine lv_iload_n hx hb dL_law_347 rfl (lv_at hl 3 rfl) ?_
  refine lv_iconst (v := 1) hx hb dL_law_348 (by decide) ?_
  refine lv_iadd hx hb dL_law_349 ?_
  refine dk_asi (y := nI (i + 1)) (nI_add i 1) ?_
  refine dk_sld hx hb hX hbl hbA hS (j := i + 1) (by omega) (by omega) dL_law_350 ?_
  have hPc := hP.sub (ws' := [(h0, .inr (0, [.int d, .int (nI t), .ref qo, .ref qw, .ref qc, .ref qn, .ref qm, .ref ql, .int (nI n)])), (ql, .inl (k6, 104, .inl fl))]) [0, 6] rfl
  have hKc := hK.sub (tys' := [(k6, .char)]) [5] rfl
  refine va_calli (va_runV (As := [.int (xs (i + 1))]) (rest := []) ⟨hx, hb, hml, hown, hts⟩ (cX_at l dC dI h0 qo qw qc qn qm ql k6 d (nI t) n v5 fl (xs (i + 1))) (cwV 1 hts gL_law_X0_at rfl rfl rfl (by decide +kernel) ⟨Nat.le_of_ble_eq_true rfl, Nat.le_of_ble_eq_true rfl⟩) (dk_rV hPc hKc (ci := 0) (q0 := 0) rfl rfl) rfl rfl hl.1 rfl (lv_room (Nat.le_of_ble_eq_true rfl)) dL_law_351 ⟨Nat.le_of_ble_eq_true rfl, Nat.le_of_ble_eq_true rfl⟩) hS (fun q _ h => False.elim h) (fun q h => False.elim h) (fun rx u8 t8 H1 locs ht8 hvm8 hw hB hz1 hk1 hS => ?_)
  try dsimp only at hw
  have hP := dk_kept hP hk1
  generalize H1 = H at hP hS ⊢
  have hwx := hw
  refine lv_aload_n hx hb dL_law_354 rfl (lv_at hl 2 rfl) ?_
  refine lv_aload_n hx hb dL_law_355 rfl (lv_at hl 0 rfl) ?_
  refine lv_iload_n hx hb dL_law_356 rfl (lv_at hl 3 rfl) ?_
  refine lv_iconst (v := 1) hx hb dL_law_357 (by decide) ?_
  refine lv_iadd hx hb dL_law_358 ?_
  refine dk_asi (y := nI (i + 1)) (nI_add i 1) ?_
  refine dk_sld hx hb hX hbl hbA hS (j := i + 1) (by omega) (by omega) dL_law_359 ?_
  have hPc := hP.sub (ws' := [(g0, .inr (1, [.long (lN T), .ref a1, .int (nI k), .ref a2, .ref a3, .int (nI n), .ref a4])), (a4, .inl (i4, 120, .inl tx))]) [7, 11] rfl
  have hKc := hK.sub (tys' := [(i4, .int)]) [9] rfl
  refine va_calli (va_runV (As := [.int (xs (i + 1))]) (rest := [.int rx]) ⟨hx, hb, hml, hown, hts⟩ (cY_at l dC dI g0 a1 a2 a3 a4 i4 (lN T) (nI k) n v5 tx (xs (i + 1))) (cwV 1 hts gL_law_X1_at rfl rfl rfl (by decide +kernel) ⟨Nat.le_of_ble_eq_true rfl, Nat.le_of_ble_eq_true rfl⟩) (dk_rV hPc hKc (ci := 1) (q0 := 0) rfl rfl) rfl rfl hl.1 rfl (lv_room (Nat.le_of_ble_eq_true rfl)) dL_law_360 ⟨Nat.le_of_ble_eq_true rfl, Nat.le_of_ble_eq_true rfl⟩) hS (fun q _ h => False.elim h) (fun q h => False.elim h) (fun ry u8 t8 H1 locs ht8 hvm8 hw hB hz1 hk1 hS => ?_)
  try dsimp only at hw
  have hP := dk_kept hP hk1
  generalize H1 = H at hP hS ⊢
  have hwy := hw
  have req : rx = ry := dk_at_eq (by omega) v6 hwx hwy
  refine lv_icmp_eq (tgt := 368) hx hb dL_law_363 (by decide) (fun _ => ?_) (fun c9 => absurd req c9)
  exact kk d t n fo fw fc fn fm fl T k O mo mb tx (dk_Inv_mono (Nat.le_succ q) hI) H locs hP hD hS ls hl
