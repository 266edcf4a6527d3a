theorem dk_lawc {L i : Nat} (hL : L ≤ 2048) (hi : i ≤ 2048) (h : ¬ (nI L - 4 : Int32) < nI i) : i + 4 ≤ L := by
  have a : (nI L - nI 4).toInt = (L : Int) - 4 := pk_sub_toInt (by omega) (by omega)
  have b : ¬ (nI L - nI 4) < nI i := h
  rw [Int32.lt_iff_toInt_lt, a, nI_toInt (by omega)] at b
  omega
set_option maxHeartbeats 4000000 in
set_option maxRecDepth 100000 in
/-- THE LAW'S LOOP: at its head, with q calls made, the class and the reference agree -/
theorem law_loop {p : Program} {l : Launch} {e : Env} {s : State} {m : MethodId} {below : List Frame} {meth : Method} {c : Code} {dC : Nat → ClassId} {dI : Nat → Nat → Nat} {b L : Nat} {xs : Nat → Int32} {h0 qo qw qc qn qm ql g0 a1 a2 a3 a4 : Nat} {k1 k2 k3 k4 k5 k6 i1 i2 i3 i4 : ClassId} (hL : L ≤ 2048) (C0 : lw_At p s m meth c b L xs) (hK : va_K (dC, dI) vwCl [(k1, .long), (k2, .long), (k3, .long), (k4, .long), (k5, .long), (k6, .char), (i1, .long), (i2, .int), (i3, .long), (i4, .int)] s) : ∀ (f i q : Nat), i = 4 * q → i ≤ 2048 → 2052 ≤ i + 4 * f → ∀ (d : Int32) (t n : Nat) (fo fw fc fn fm : Nat → Int64) (fl : Nat → Int32) (T k : Nat) (O : Nat → Int64) (mo : Nat → Int32) (mb : Nat → Int64) (tx : Nat → Int32), dk_Inv q d t n fo fw fc fn fm fl T k O mo mb tx → ∀ (H : Heap) (locs : List Loc), va_P (dC, dI) vwCl [(h0, .inr (0, [.int d, .int (nI t), .ref qo, .ref qw, .ref qc, .ref qn, .ref qm, .ref ql, .int (nI n)])), (qo, .inl (k1, 200, .inr (.inl fo))), (qw, .inl (k2, 200, .inr (.inl fw))), (qc, .inl (k3, 200, .inr (.inl fc))), (qn, .inl (k4, 200, .inr (.inl fn))), (qm, .inl (k5, 200, .inr (.inl fm))), (ql, .inl (k6, 104, .inl fl)), (g0, .inr (1, [.long (lN T), .ref a1, .int (nI k), .ref a2, .ref a3, .int (nI n), .ref a4])), (a1, .inl (i1, 200, .inr (.inl O))), (a2, .inl (i2, 520, .inl mo)), (a3, .inl (i3, 520, .inr (.inl mb))), (a4, .inl (i4, 120, .inl tx))] H → va_D (fun q : Nat => s.heap.size ≤ q) [(h0, .inr (0, [.int d, .int (nI t), .ref qo, .ref qw, .ref qc, .ref qn, .ref qm, .ref ql, .int (nI n)])), (qo, .inl (k1, 200, .inr (.inl fo))), (qw, .inl (k2, 200, .inr (.inl fw))), (qc, .inl (k3, 200, .inr (.inl fc))), (qn, .inl (k4, 200, .inr (.inl fn))), (qm, .inl (k5, 200, .inr (.inl fm))), (ql, .inl (k6, 104, .inl fl)), (g0, .inr (1, [.long (lN T), .ref a1, .int (nI k), .ref a2, .ref a3, .int (nI n), .ref a4])), (a1, .inl (i1, 200, .inr (.inl O))), (a2, .inl (i2, 520, .inl mo)), (a3, .inl (i3, 520, .inr (.inl mb))), (a4, .inl (i4, 120, .inl tx))] → va_S (fun q : Nat => s.heap.size ≤ q) s.heap H locs → ∀ ls : Array Slot, lv_has ls 4 [(0, .ref b), (1, .ref h0), (2, .ref g0), (3, .int (nI i))] → W p l e room_1 s m #[Value.ref b] below meth c H locs 12 2480 (lw_Z below #[Value.ref b] s) (F0 m 18 ls []) := by
  have C1 := C0
  obtain ⟨hx, hb, hr, hml, hown0, hts0, hX, hbl, hlocks, hgv⟩ := C0
  have hts : ∀ w ∈ wsL_law, w.before #[Value.ref b] s = true := fun w h => hts0 w (wsL_law_in w h)
  have hown : s.vm.findClass RL = some m.cls := hown0
  have hA : ∀ q : Nat, s.heap.size ≤ q → (fun q : Nat => s.heap.size ≤ q) q := fun _ h => h
  have hbA : ¬ (fun q : Nat => s.heap.size ≤ q) b := Nat.not_le.mpr hbl
  intro f
  induction f with
  | zero => intro i q hiq hi hf; exact absurd hf (by omega)
  | succ f ih =>
    intro i q hiq hi hf d t n fo fw fc fn fm fl T k O mo mb tx hI H locs hP hD hS ls hl
    refine lv_iload_n hx hb dL_law_18 rfl (lv_at hl 3 rfl) ?_
    refine lv_aload_n hx hb dL_law_19 rfl (lv_at hl 0 rfl) ?_
    refine va_slen hx hb hX hbl hbA hS dL_law_20 ?_
    refine lv_iconst (v := 4) hx hb dL_law_21 (by decide) ?_
    refine lv_isub hx hb dL_law_22 ?_
    refine dk_asi (y := nI L - 4) (rfl) ?_
    refine lv_icmp_gt (tgt := 374) hx hb dL_law_23 (by decide) (fun c_23 => ?_) (fun c_23 => ?_)
    · refine lv_iconst (v := 1) hx hb dL_law_374 (by decide) ?_
      refine va_forget (fun q hq => hS.2.2 q hq) ?_
      exact lw_ret hx hb hr hlocks dL_law_375
    · have hiL : i + 4 ≤ L := dk_lawc hL hi c_23
      have kk : ∀ (d : Int32) (t n : Nat) (fo fw fc fn fm : Nat → Int64) (fl : Nat → Int32) (T k : Nat) (O : Nat → Int64) (mo : Nat → Int32) (mb : Nat → Int64) (tx : Nat → Int32), dk_Inv (q + 1) d t n fo fw fc fn fm fl T k O mo mb tx → ∀ (H : Heap) (locs : List Loc), va_P (dC, dI) vwCl [(h0, .inr (0, [.int d, .int (nI t), .ref qo, .ref qw, .ref qc, .ref qn, .ref qm, .ref ql, .int (nI n)])), (qo, .inl (k1, 200, .inr (.inl fo))), (qw, .inl (k2, 200, .inr (.inl fw))), (qc, .inl (k3, 200, .inr (.inl fc))), (qn, .inl (k4, 200, .inr (.inl fn))), (qm, .inl (k5, 200, .inr (.inl fm))), (ql, .inl (k6, 104, .inl fl)), (g0, .inr (1, [.long (lN T), .ref a1, .int (nI k), .ref a2, .ref a3, .int (nI n), .ref a4])), (a1, .inl (i1, 200, .inr (.inl O))), (a2, .inl (i2, 520, .inl mo)), (a3, .inl (i3, 520, .inr (.inl mb))), (a4, .inl (i4, 120, .inl tx))] H → va_D (fun q : Nat => s.heap.size ≤ q) [(h0, .inr (0, [.int d, .int (nI t), .ref qo, .ref qw, .ref qc, .ref qn, .ref qm, .ref ql, .int (nI n)])), (qo, .inl (k1, 200, .inr (.inl fo))), (qw, .inl (k2, 200, .inr (.inl fw))), (qc, .inl (k3, 200, .inr (.inl fc))), (qn, .inl (k4, 200, .inr (.inl fn))), (qm, .inl (k5, 200, .inr (.inl fm))), (ql, .inl (k6, 104, .inl fl)), (g0, .inr (1, [.long (lN T), .ref a1, .int (nI k), .ref a2, .ref a3, .int (nI n), .ref a4])), (a1, .inl (i1, 200, .inr (.inl O))), (a2, .inl (i2, 520, .inl mo)), (a3, .inl (i3, 520, .inr (.inl mb))), (a4, .inl (i4, 120, .inl tx))] → va_S (fun q : Nat => s.heap.size ≤ q) s.heap H locs → ∀ ls : Array Slot, lv_has ls 4 [(0, .ref b), (1, .ref h0), (2, .ref g0), (3, .int (nI i))] → W p l e room_1 s m #[Value.ref b] below meth c H locs 12 2480 (lw_Z below #[Value.ref b] s) (F0 m 368 ls []) := by
        intro d t n fo fw fc fn fm fl T k O mo mb tx hI H locs hP hD hS ls hl
        refine lv_iinc (v := nI (i + 4)) (lv' := [(3, .int (nI (i + 4))), (0, .ref b), (1, .ref h0), (2, .ref g0)]) hx hb dL_law_368 hl (k := 3) rfl (by rw [show Int32.ofInt 4 = nI 4 from by decide]; exact nI_add i 4) (by decide) rfl (fun ls hl => ?_)
        refine lv_goto (tgt := 18) hx hb dL_law_371 (by decide) ?_
        exact ih (i + 4) (q + 1) (by omega) (by omega) (by omega) d t n fo fw fc fn fm fl T k O mo mb tx hI H locs hP hD hS ls (lv_sub hl [1, 2, 3, 0] rfl)
      refine lv_aload_n hx hb dL_law_26 rfl (lv_at hl 0 rfl) ?_
      refine lv_iload_n hx hb dL_law_27 rfl (lv_at hl 3 rfl) ?_
      refine dk_sld hx hb hX hbl hbA hS (j := i) (by omega) (by omega) dL_law_28 ?_
      refine lv_bipush (v := 15) hx hb dL_law_29 (by decide) ?_
      refine lv_iand hx hb dL_law_31 ?_
      obtain ⟨o, ho, eo⟩ := pk_andE (xs i) (m := 15) 4 (by decide)
      refine dk_asi eo ?_
      rcases (show o = 0 ∨ o = 1 ∨ o = 2 ∨ o = 3 ∨ o = 4 ∨ o = 5 ∨ o = 6 ∨ o = 7 ∨ o = 8 ∨ 9 ≤ o by omega) with rfl | rfl | rfl | rfl | rfl | rfl | rfl | rfl | rfl | h9
      · refine lv_tableIn (tgt := 84) (off := 52) hx hb dL_law_32 (by decide) (by decide) (by decide) (by decide) ?_
        exact law_pass hL C1 hK i q hiL (by omega) d t n fo fw fc fn fm fl T k O mo mb tx hI H locs hP hD hS ls hl kk
      · refine lv_tableIn (tgt := 97) (off := 65) hx hb dL_law_32 (by decide) (by decide) (by decide) (by decide) ?_
        exact law_skip hL C1 hK i q hiL (by omega) d t n fo fw fc fn fm fl T k O mo mb tx hI H locs hP hD hS ls hl kk
      · refine lv_tableIn (tgt := 120) (off := 88) hx hb dL_law_32 (by decide) (by decide) (by decide) (by decide) ?_
        exact law_may hL C1 hK i q hiL (by omega) d t n fo fw fc fn fm fl T k O mo mb tx hI H locs hP hD hS ls hl kk
      · refine lv_tableIn (tgt := 179) (off := 147) hx hb dL_law_32 (by decide) (by decide) (by decide) (by decide) ?_
        exact law_look hL C1 hK i q hiL (by omega) d t n fo fw fc fn fm fl T k O mo mb tx hI H locs hP hD hS ls hl kk
      · refine lv_tableIn (tgt := 202) (off := 170) hx hb dL_law_32 (by decide) (by decide) (by decide) (by decide) ?_
        exact law_move hL C1 hK i q hiL (by omega) d t n fo fw fc fn fm fl T k O mo mb tx hI H locs hP hD hS ls hl kk
      · refine lv_tableIn (tgt := 265) (off := 233) hx hb dL_law_32 (by decide) (by decide) (by decide) (by decide) ?_
        exact law_row hL C1 hK i q hiL (by omega) d t n fo fw fc fn fm fl T k O mo mb tx hI H locs hP hD hS ls hl kk
      · refine lv_tableIn (tgt := 299) (off := 267) hx hb dL_law_32 (by decide) (by decide) (by decide) (by decide) ?_
        exact law_isTold hL C1 hK i q hiL (by omega) d t n fo fw fc fn fm fl T k O mo mb tx hI H locs hP hD hS ls hl kk
      · refine lv_tableIn (tgt := 322) (off := 290) hx hb dL_law_32 (by decide) (by decide) (by decide) (by decide) ?_
        exact law_write hL C1 hK i q hiL (by omega) d t n fo fw fc fn fm fl T k O mo mb tx hI H locs hP hD hS ls hl kk
      · refine lv_tableIn (tgt := 345) (off := 313) hx hb dL_law_32 (by decide) (by decide) (by decide) (by decide) ?_
        exact law_at hL C1 hK i q hiL (by omega) d t n fo fw fc fn fm fl T k O mo mb tx hI H locs hP hD hS ls hl kk
      · refine lv_tableOut (tgt := 368) hx hb dL_law_32 (by right; rw [nI_toInt (by omega)]; omega) (by decide) ?_
        exact kk d t n fo fw fc fn fm fl T k O mo mb tx (dk_Inv_mono (Nat.le_succ q) hI) H locs hP hD hS ls hl
