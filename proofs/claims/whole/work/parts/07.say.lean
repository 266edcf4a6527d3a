set_option maxHeartbeats 4000000 in
set_option maxRecDepth 100000 in
/-- at -/
theorem cX_at (l : Launch) (dC : Nat → ClassId) (dI : Nat → Nat → Nat) (h0 qo qw qc qn qm ql : Nat) (k6 : ClassId) (d tk : Int32) (n : Nat) (hn9 : n ≤ 104) (fl : Nat → Int32) (x : Int32) : Met l yX0_at wsX0_at ({ frames := 0, cells := 0, slots := 0, locals := 0 }) (dk_Pr [.ref h0, .int x] (dC, dI) vwCl [(k6, .char)] [(h0, .inr (0, [.int d, .int tk, .ref qo, .ref qw, .ref qc, .ref qn, .ref qm, .ref ql, .int (nI n)])), (ql, .inl (k6, 104, .inl fl))]) (va_Qi (fun (r : Int32) (_ : Unit) => dk_at fl n x r) (fun _ _ => True) dk_no) 0 0 dk_no := by
  refine Met.ofW (cc := cX0_at) (maxL := 2) (ret := (some .int)) (by decide) rfl ?_
  intro p e s m args below meth c s₁ B hml hv
  obtain ⟨rfl, hP, hK⟩ := hv
  have hx := B.exec
  have hb := B.bytes
  have hr := B.returns
  have hts := atoms_spec (ws := wsX0_at) B.pre
  have hown : s.vm.findClass RX0 = some m.cls := findClass_of_methodNamed B.named
  have hlocks := B.notSynchronized
  have hinX0 : ∀ w ∈ wsX00, w ∈ wsX0_at := by decide +kernel
  have hS : va_S dk_no s.heap s.heap [] := va_S.rf
  have hl := lv_entry ([.ref h0, .int x]) (n := 2) (Nat.le_of_ble_eq_true rfl)
  rw [lg_entry_eq]
  generalize (lg_sl ([.ref h0, .int x]) ++ List.replicate (2 - (lg_sl ([.ref h0, .int x])).length) Slot.unset).toArray = ls at hl ⊢
  have hl : lv_has ls 2 [(0, .ref h0), (1, .int x)] := hl
  rcases pk_ix x (n := n) (by omega) with hx0 | hx0 | ⟨j, hj, rfl⟩
  · refine lv_iload_n hx hb dX0_at_0 rfl (lv_at hl 1 rfl) ?_
    refine lv_if_lt (tgt := 21) hx hb dX0_at_1 (by decide) (fun _ => ?_) (fun c9 => absurd hx0 c9)
    refine lv_iconst (v := (-1)) hx hb dX0_at_21 (by decide) ?_
    exact W.iret (v := (-1)) hx hb hr (fun z8 hz8 hW8 => ⟨⟨(-1), (), rfl, Or.inr ⟨rfl, Or.inl hx0⟩, trivial⟩, hS.F hz8⟩) hS.2.2 dX0_at_22
  · refine lv_iload_n hx hb dX0_at_0 rfl (lv_at hl 1 rfl) ?_
    refine lv_if_lt (tgt := 21) hx hb dX0_at_1 (by decide) (fun c9 => ?_) (fun c9 => ?_)
    · refine lv_iconst (v := (-1)) hx hb dX0_at_21 (by decide) ?_
      exact W.iret (v := (-1)) hx hb hr (fun z8 hz8 hW8 => ⟨⟨(-1), (), rfl, Or.inr ⟨rfl, Or.inl c9⟩, trivial⟩, hS.F hz8⟩) hS.2.2 dX0_at_22
    · refine lv_iload_n hx hb dX0_at_4 rfl (lv_at hl 1 rfl) ?_
      refine lv_aload_n hx hb dX0_at_5 rfl (lv_at hl 0 rfl) ?_
      refine va_get (D := (dC, dI)) (ci := 0) (v := .int (nI n)) (C := RX0) (T := TX0) (N := 9) hx hb hts hinX0 hown hK hP 0 rfl rfl 8 (by decide) (hts (.fieldLink RX0 36 "DayDesk" "lineLength" "I") (by decide +kernel)) (fun _ h9 => h9) rfl dX0_at_6 ?_
      refine lv_icmp_ge (tgt := 21) hx hb dX0_at_9 (by decide) (fun c_9 => ?_) (fun c_9 => ?_)
      · refine lv_iconst (v := (-1)) hx hb dX0_at_21 (by decide) ?_
        exact W.iret (v := (-1)) hx hb hr (fun z8 hz8 hW8 => ⟨⟨(-1), (), rfl, Or.inr ⟨rfl, Or.inr hx0⟩, trivial⟩, hS.F hz8⟩) hS.2.2 dX0_at_22
      · exact absurd hx0 c_9
  · refine lv_iload_n hx hb dX0_at_0 rfl (lv_at hl 1 rfl) ?_
    refine dk_if_lt (x := j) (tgt := 21) hx hb dX0_at_1 (by decide) (by omega) ?_
    refine lv_iload_n hx hb dX0_at_4 rfl (lv_at hl 1 rfl) ?_
    refine lv_aload_n hx hb dX0_at_5 rfl (lv_at hl 0 rfl) ?_
    refine va_get (D := (dC, dI)) (ci := 0) (v := .int (nI n)) (C := RX0) (T := TX0) (N := 9) hx hb hts hinX0 hown hK hP 0 rfl rfl 8 (by decide) (hts (.fieldLink RX0 36 "DayDesk" "lineLength" "I") (by decide +kernel)) (fun _ h9 => h9) rfl dX0_at_6 ?_
    refine dk_icmp_ge (x := j) (y := n) (tgt := 21) hx hb dX0_at_9 (by decide) (by omega) (by omega) (fun c_9 => ?_) (fun c_9 => ?_)
    · exfalso; omega
    · refine lv_aload_n hx hb dX0_at_12 rfl (lv_at hl 0 rfl) ?_
      refine va_get (D := (dC, dI)) (ci := 0) (v := .ref ql) (C := RX0) (T := TX0) (N := 9) hx hb hts hinX0 hown hK hP 0 rfl rfl 7 (by decide) (hts (.fieldLink RX0 32 "DayDesk" "line" "[C") (by decide +kernel)) (fun _ h9 => h9) rfl dX0_at_13 ?_
      refine lv_iload_n hx hb dX0_at_16 rfl (lv_at hl 1 rfl) ?_
      refine dk_cald hx hb hK hP 1 0 rfl rfl (j := j) (by omega) (by omega) dX0_at_17 ?_
      refine lv_goto (tgt := 22) hx hb dX0_at_18 (by decide) ?_
      exact W.iret (v := fl j) hx hb hr (fun z8 hz8 hW8 => ⟨⟨(fl j), (), rfl, Or.inl ⟨j, hj, rfl, rfl⟩, trivial⟩, hS.F hz8⟩) hS.2.2 dX0_at_22
set_option maxHeartbeats 4000000 in
set_option maxRecDepth 100000 in
/-- row -/
theorem cX_row (l : Launch) (dC : Nat → ClassId) (dI : Nat → Nat → Nat) (h0 qo qw qc qn qm ql : Nat) (k1 k2 k3 k4 k5 : ClassId) (d ll tk : Int32) (fo fw fc fn fm : Nat → Int64) (x y : Int32) : Met l yX0_row wsX0_row ({ frames := 1, cells := 0, slots := 0, locals := 20 }) (dk_Pr [.ref h0, .int x, .int y] (dC, dI) vwCl [(k1, .long), (k2, .long), (k3, .long), (k4, .long), (k5, .long)] [(h0, .inr (0, [.int d, .int tk, .ref qo, .ref qw, .ref qc, .ref qn, .ref qm, .ref ql, .int ll])), (qo, .inl (k1, 200, .inr (.inl fo))), (qw, .inl (k2, 200, .inr (.inl fw))), (qc, .inl (k3, 200, .inr (.inl fc))), (qn, .inl (k4, 200, .inr (.inl fn))), (qm, .inl (k5, 200, .inr (.inl fm)))]) (va_Ql (fun (r : Int64) (_ : Unit) => dk_row fo fw fc fn fm x y r) (fun _ _ => True) dk_no) 0 0 dk_no := by
  refine Met.ofW (cc := cX0_row) (maxL := 3) (ret := (some .long)) (by decide) rfl ?_
  intro p e s m args below meth c s₁ B hml hv
  obtain ⟨rfl, hP, hK⟩ := hv
  have hx := B.exec
  have hb := B.bytes
  have hr := B.returns
  have hts := atoms_spec (ws := wsX0_row) B.pre
  have hown : s.vm.findClass RX0 = some m.cls := findClass_of_methodNamed B.named
  have hlocks := B.notSynchronized
  have hinX0 : ∀ w ∈ wsX00, w ∈ wsX0_row := by decide +kernel
  have hS : va_S dk_no s.heap s.heap [] := va_S.rf
  have hl := lv_entry ([.ref h0, .int x, .int y]) (n := 3) (Nat.le_of_ble_eq_true rfl)
  rw [lg_entry_eq]
  generalize (lg_sl ([.ref h0, .int x, .int y]) ++ List.replicate (3 - (lg_sl ([.ref h0, .int x, .int y])).length) Slot.unset).toArray = ls at hl ⊢
  have hl : lv_has ls 3 [(0, .ref h0), (1, .int x), (2, .int y)] := hl
  refine lv_iload_n hx hb dX0_row_0 rfl (lv_at hl 1 rfl) ?_
  have hKc := hK.sub (tys' := []) [] rfl
  refine va_calli (va_runS (As := [.int x]) (rest := []) ⟨hx, hb, hml, hown, hts⟩ (cX_isPosition l dC dI x) (va_cwS 1 hts gX0_row_X0_isPosition rfl rfl rfl (by decide +kernel) ⟨Nat.le_of_ble_eq_true rfl, Nat.le_of_ble_eq_true rfl⟩) (dk_rS dk_P0 hKc) rfl rfl hl.1 rfl (lv_room (Nat.le_of_ble_eq_true rfl)) dX0_row_1 ⟨Nat.zero_le _, Nat.zero_le _⟩) hS (fun q _ h => False.elim h) (fun q h => False.elim h) (fun r_1 u8 t8 H1 locs ht8 hvm8 hw hB hz1 hk1 hS => ?_)
  try dsimp only at hw
  have hP := dk_kept hP hk1
  generalize H1 = H at hP hS ⊢
  rcases hw with ⟨rfl, j, hj, rfl⟩ | ⟨rfl, hno⟩
  · refine lv_if_ne (tgt := 9) hx hb dX0_row_4 (by decide) (fun _ => ?_) (fun c9 => absurd c9 (by decide))
    refine lv_iload_n hx hb dX0_row_9 rfl (lv_at hl 2 rfl) ?_
    rcases dk_sw5 y with rfl | rfl | rfl | rfl | rfl | hsw
    · refine lv_tableIn (tgt := 44) (off := 34) hx hb dX0_row_10 (by decide) (by decide) (by decide) (by decide) ?_
      refine lv_aload_n hx hb dX0_row_44 rfl (lv_at hl 0 rfl) ?_
      refine va_get (D := (dC, dI)) (ci := 0) (v := .ref qo) (C := RX0) (T := TX0) (N := 9) hx hb hts hinX0 hown hK hP 0 rfl rfl 2 (by decide) (hts (.fieldLink RX0 16 "DayDesk" "opening" "[J") (by decide +kernel)) (fun _ h9 => h9) rfl dX0_row_45 ?_
      refine lv_iload_n hx hb dX0_row_48 rfl (lv_at hl 1 rfl) ?_
      refine dk_lald hx hb hK hP 1 0 rfl rfl (j := j) (by omega) (by omega) dX0_row_49 ?_
      exact W.lret (v := fo j) hx hb hr (fun z8 hz8 hW8 => ⟨⟨(fo j), (), rfl, Or.inr ⟨j, hj, rfl, Or.inl ⟨rfl, rfl⟩⟩, trivial⟩, hS.F hz8⟩) hS.2.2 dX0_row_50
    · refine lv_tableIn (tgt := 51) (off := 41) hx hb dX0_row_10 (by decide) (by decide) (by decide) (by decide) ?_
      refine lv_aload_n hx hb dX0_row_51 rfl (lv_at hl 0 rfl) ?_
      refine va_get (D := (dC, dI)) (ci := 0) (v := .ref qw) (C := RX0) (T := TX0) (N := 9) hx hb hts hinX0 hown hK hP 0 rfl rfl 3 (by decide) (hts (.fieldLink RX0 20 "DayDesk" "went" "[J") (by decide +kernel)) (fun _ h9 => h9) rfl dX0_row_52 ?_
      refine lv_iload_n hx hb dX0_row_55 rfl (lv_at hl 1 rfl) ?_
      refine dk_lald hx hb hK hP 2 1 rfl rfl (j := j) (by omega) (by omega) dX0_row_56 ?_
      exact W.lret (v := fw j) hx hb hr (fun z8 hz8 hW8 => ⟨⟨(fw j), (), rfl, Or.inr ⟨j, hj, rfl, Or.inr (Or.inl ⟨rfl, rfl⟩)⟩, trivial⟩, hS.F hz8⟩) hS.2.2 dX0_row_57
    · refine lv_tableIn (tgt := 58) (off := 48) hx hb dX0_row_10 (by decide) (by decide) (by decide) (by decide) ?_
      refine lv_aload_n hx hb dX0_row_58 rfl (lv_at hl 0 rfl) ?_
      refine va_get (D := (dC, dI)) (ci := 0) (v := .ref qc) (C := RX0) (T := TX0) (N := 9) hx hb hts hinX0 hown hK hP 0 rfl rfl 4 (by decide) (hts (.fieldLink RX0 23 "DayDesk" "came" "[J") (by decide +kernel)) (fun _ h9 => h9) rfl dX0_row_59 ?_
      refine lv_iload_n hx hb dX0_row_62 rfl (lv_at hl 1 rfl) ?_
      refine dk_lald hx hb hK hP 3 2 rfl rfl (j := j) (by omega) (by omega) dX0_row_63 ?_
      exact W.lret (v := fc j) hx hb hr (fun z8 hz8 hW8 => ⟨⟨(fc j), (), rfl, Or.inr ⟨j, hj, rfl, Or.inr (Or.inr (Or.inl ⟨rfl, rfl⟩))⟩, trivial⟩, hS.F hz8⟩) hS.2.2 dX0_row_64
    · refine lv_tableIn (tgt := 65) (off := 55) hx hb dX0_row_10 (by decide) (by decide) (by decide) (by decide) ?_
      refine lv_aload_n hx hb dX0_row_65 rfl (lv_at hl 0 rfl) ?_
      refine va_get (D := (dC, dI)) (ci := 0) (v := .ref qn) (C := RX0) (T := TX0) (N := 9) hx hb hts hinX0 hown hK hP 0 rfl rfl 5 (by decide) (hts (.fieldLink RX0 26 "DayDesk" "now" "[J") (by decide +kernel)) (fun _ h9 => h9) rfl dX0_row_66 ?_
      refine lv_iload_n hx hb dX0_row_69 rfl (lv_at hl 1 rfl) ?_
      refine dk_lald hx hb hK hP 4 3 rfl rfl (j := j) (by omega) (by omega) dX0_row_70 ?_
      exact W.lret (v := fn j) hx hb hr (fun z8 hz8 hW8 => ⟨⟨(fn j), (), rfl, Or.inr ⟨j, hj, rfl, Or.inr (Or.inr (Or.inr (Or.inl ⟨rfl, rfl⟩)))⟩, trivial⟩, hS.F hz8⟩) hS.2.2 dX0_row_71
    · refine lv_tableIn (tgt := 72) (off := 62) hx hb dX0_row_10 (by decide) (by decide) (by decide) (by decide) ?_
      refine lv_aload_n hx hb dX0_row_72 rfl (lv_at hl 0 rfl) ?_
      refine va_get (D := (dC, dI)) (ci := 0) (v := .ref qm) (C := RX0) (T := TX0) (N := 9) hx hb hts hinX0 hown hK hP 0 rfl rfl 6 (by decide) (hts (.fieldLink RX0 29 "DayDesk" "moved" "[J") (by decide +kernel)) (fun _ h9 => h9) rfl dX0_row_73 ?_
      refine lv_iload_n hx hb dX0_row_76 rfl (lv_at hl 1 rfl) ?_
      refine dk_lald hx hb hK hP 5 4 rfl rfl (j := j) (by omega) (by omega) dX0_row_77 ?_
      exact W.lret (v := fm j) hx hb hr (fun z8 hz8 hW8 => ⟨⟨(fm j), (), rfl, Or.inr ⟨j, hj, rfl, Or.inr (Or.inr (Or.inr (Or.inr (Or.inl ⟨rfl, rfl⟩))))⟩, trivial⟩, hS.F hz8⟩) hS.2.2 dX0_row_78
    · refine lv_tableOut (tgt := 79) hx hb dX0_row_10 hsw (by decide) ?_
      refine lv_lconst (v := 0) hx hb dX0_row_79 (by decide) ?_
      exact W.lret (v := 0) hx hb hr (fun z8 hz8 hW8 => ⟨⟨0, (), rfl, Or.inr ⟨j, hj, rfl, Or.inr (Or.inr (Or.inr (Or.inr (Or.inr (⟨hsw, rfl⟩)))))⟩, trivial⟩, hS.F hz8⟩) hS.2.2 dX0_row_80
  · refine lv_if_ne (tgt := 9) hx hb dX0_row_4 (by decide) (fun c9 => absurd (by decide) c9) (fun _ => ?_)
    refine lv_lconst (v := 0) hx hb dX0_row_7 (by decide) ?_
    exact W.lret (v := 0) hx hb hr (fun z8 hz8 hW8 => ⟨⟨0, (), rfl, Or.inl ⟨rfl, hno⟩, trivial⟩, hS.F hz8⟩) hS.2.2 dX0_row_8
set_option maxHeartbeats 4000000 in
set_option maxRecDepth 100000 in
/-- isTold -/
theorem cX_isTold (l : Launch) (dC : Nat → ClassId) (dI : Nat → Nat → Nat) (h0 qo qw qc qn qm ql : Nat) (k1 k2 k3 k4 k5 : ClassId) (d ll tk : Int32) (fo fw fc fn fm : Nat → Int64) (x : Int32) : Met l yX0_isTold wsX0_isTold ({ frames := 1, cells := 0, slots := 0, locals := 20 }) (dk_Pr [.ref h0, .int x] (dC, dI) vwCl [(k1, .long), (k2, .long), (k3, .long), (k4, .long), (k5, .long)] [(h0, .inr (0, [.int d, .int tk, .ref qo, .ref qw, .ref qc, .ref qn, .ref qm, .ref ql, .int ll])), (qo, .inl (k1, 200, .inr (.inl fo))), (qw, .inl (k2, 200, .inr (.inl fw))), (qc, .inl (k3, 200, .inr (.inl fc))), (qn, .inl (k4, 200, .inr (.inl fn))), (qm, .inl (k5, 200, .inr (.inl fm)))]) (va_Qi (fun (r : Int32) (_ : Unit) => (r = 1 ∧ dk_tld (fun j => ¬ fo j = 0 ∨ ¬ fm j = 0) x) ∨ (r = 0 ∧ ¬ dk_tld (fun j => ¬ fo j = 0 ∨ ¬ fm j = 0) x)) (fun _ _ => True) dk_no) 0 0 dk_no := by
  refine Met.ofW (cc := cX0_isTold) (maxL := 2) (ret := (some .boolean)) (by decide) rfl ?_
  intro p e s m args below meth c s₁ B hml hv
  obtain ⟨rfl, hP, hK⟩ := hv
  have hx := B.exec
  have hb := B.bytes
  have hr := B.returns
  have hts := atoms_spec (ws := wsX0_isTold) B.pre
  have hown : s.vm.findClass RX0 = some m.cls := findClass_of_methodNamed B.named
  have hlocks := B.notSynchronized
  have hinX0 : ∀ w ∈ wsX00, w ∈ wsX0_isTold := by decide +kernel
  have hS : va_S dk_no s.heap s.heap [] := va_S.rf
  have hl := lv_entry ([.ref h0, .int x]) (n := 2) (Nat.le_of_ble_eq_true rfl)
  rw [lg_entry_eq]
  generalize (lg_sl ([.ref h0, .int x]) ++ List.replicate (2 - (lg_sl ([.ref h0, .int x])).length) Slot.unset).toArray = ls at hl ⊢
  have hl : lv_has ls 2 [(0, .ref h0), (1, .int x)] := hl
  refine lv_iload_n hx hb dX0_isTold_0 rfl (lv_at hl 1 rfl) ?_
  have hKc := hK.sub (tys' := []) [] rfl
  refine va_calli (va_runS (As := [.int x]) (rest := []) ⟨hx, hb, hml, hown, hts⟩ (cX_isPosition l dC dI x) (va_cwS 1 hts gX0_isTold_X0_isPosition rfl rfl rfl (by decide +kernel) ⟨Nat.le_of_ble_eq_true rfl, Nat.le_of_ble_eq_true rfl⟩) (dk_rS dk_P0 hKc) rfl rfl hl.1 rfl (lv_room (Nat.le_of_ble_eq_true rfl)) dX0_isTold_1 ⟨Nat.zero_le _, Nat.zero_le _⟩) hS (fun q _ h => False.elim h) (fun q h => False.elim h) (fun r_1 u8 t8 H1 locs ht8 hvm8 hw hB hz1 hk1 hS => ?_)
  try dsimp only at hw
  have hP := dk_kept hP hk1
  generalize H1 = H at hP hS ⊢
  rcases hw with ⟨rfl, j, hj, rfl⟩ | ⟨rfl, hno⟩
  · refine lv_if_eq (tgt := 33) hx hb dX0_isTold_4 (by decide) (fun c9 => absurd c9 (by decide)) (fun _ => ?_)
    refine lv_aload_n hx hb dX0_isTold_7 rfl (lv_at hl 0 rfl) ?_
    refine va_get (D := (dC, dI)) (ci := 0) (v := .ref qo) (C := RX0) (T := TX0) (N := 9) hx hb hts hinX0 hown hK hP 0 rfl rfl 2 (by decide) (hts (.fieldLink RX0 16 "DayDesk" "opening" "[J") (by decide +kernel)) (fun _ h9 => h9) rfl dX0_isTold_8 ?_
    refine lv_iload_n hx hb dX0_isTold_11 rfl (lv_at hl 1 rfl) ?_
    refine dk_lald hx hb hK hP 1 0 rfl rfl (j := j) (by omega) (by omega) dX0_isTold_12 ?_
    refine lv_lconst (v := 0) hx hb dX0_isTold_13 (by decide) ?_
    refine W.lcmp hx hb dX0_isTold_14 ?_
    refine lv_if_ne (tgt := 29) hx hb dX0_isTold_15 (by decide) (fun c_15 => ?_) (fun c_15 => ?_)
    · have c_15 : ¬ ((fo j) = (0 : Int64)) := fun q9 => c_15 ((lg_cmp_eq _ _).mpr q9)
      refine lv_iconst (v := 1) hx hb dX0_isTold_29 (by decide) ?_
      refine lv_goto (tgt := 34) hx hb dX0_isTold_30 (by decide) ?_
      exact W.zret (v := 1) hx hb hr (by first | rfl | decide) (fun z8 hz8 hW8 => ⟨⟨1, (), rfl, Or.inl ⟨rfl, j, hj, rfl, Or.inl c_15⟩, trivial⟩, hS.F hz8⟩) hS.2.2 dX0_isTold_34
    · have c_15 : (fo j) = (0 : Int64) := (lg_cmp_eq _ _).mp c_15
      refine lv_aload_n hx hb dX0_isTold_18 rfl (lv_at hl 0 rfl) ?_
      refine va_get (D := (dC, dI)) (ci := 0) (v := .ref qm) (C := RX0) (T := TX0) (N := 9) hx hb hts hinX0 hown hK hP 0 rfl rfl 6 (by decide) (hts (.fieldLink RX0 29 "DayDesk" "moved" "[J") (by decide +kernel)) (fun _ h9 => h9) rfl dX0_isTold_19 ?_
      refine lv_iload_n hx hb dX0_isTold_22 rfl (lv_at hl 1 rfl) ?_
      refine dk_lald hx hb hK hP 5 4 rfl rfl (j := j) (by omega) (by omega) dX0_isTold_23 ?_
      refine lv_lconst (v := 0) hx hb dX0_isTold_24 (by decide) ?_
      refine W.lcmp hx hb dX0_isTold_25 ?_
      refine lv_if_eq (tgt := 33) hx hb dX0_isTold_26 (by decide) (fun c_26 => ?_) (fun c_26 => ?_)
      · have c_26 : (fm j) = (0 : Int64) := (lg_cmp_eq _ _).mp c_26
        refine lv_iconst (v := 0) hx hb dX0_isTold_33 (by decide) ?_
        exact W.zret (v := 0) hx hb hr (by first | rfl | decide) (fun z8 hz8 hW8 => ⟨⟨0, (), rfl, Or.inr ⟨rfl, dk_tld_no hj (fun q9 => q9.elim (fun z9 => z9 c_15) (fun z9 => z9 c_26))⟩, trivial⟩, hS.F hz8⟩) hS.2.2 dX0_isTold_34
      · have c_26 : ¬ ((fm j) = (0 : Int64)) := fun q9 => c_26 ((lg_cmp_eq _ _).mpr q9)
        refine lv_iconst (v := 1) hx hb dX0_isTold_29 (by decide) ?_
        refine lv_goto (tgt := 34) hx hb dX0_isTold_30 (by decide) ?_
        exact W.zret (v := 1) hx hb hr (by first | rfl | decide) (fun z8 hz8 hW8 => ⟨⟨1, (), rfl, Or.inl ⟨rfl, j, hj, rfl, Or.inr c_26⟩, trivial⟩, hS.F hz8⟩) hS.2.2 dX0_isTold_34
  · refine lv_if_eq (tgt := 33) hx hb dX0_isTold_4 (by decide) (fun _ => ?_) (fun c9 => absurd (by decide) c9)
    refine lv_iconst (v := 0) hx hb dX0_isTold_33 (by decide) ?_
    exact W.zret (v := 0) hx hb hr (by first | rfl | decide) (fun z8 hz8 hW8 => ⟨⟨0, (), rfl, Or.inr ⟨rfl, dk_tld_out hno⟩, trivial⟩, hS.F hz8⟩) hS.2.2 dX0_isTold_34
