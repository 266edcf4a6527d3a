set_option maxHeartbeats 4000000 in
set_option maxRecDepth 100000 in
/-- isTold -/
theorem cY_isTold (l : Launch) (dC : Nat → ClassId) (dI : Nat → Nat → Nat) (g0 a1 a2 a3 a4 : Nat) (i1 i2 i3 : ClassId) (TT : Int64) (k : Nat) (hk9 : k ≤ 520) (w : Int32) (O : Nat → Int64) (mo : Nat → Int32) (mb : Nat → Int64) (x : Int32) : Met l yX1_isTold wsX1_isTold ({ frames := 2, cells := 0, slots := 0, locals := 49 }) (dk_Pr [.ref g0, .int x] (dC, dI) vwCl [(i1, .long), (i2, .int), (i3, .long)] [(g0, .inr (1, [.long TT, .ref a1, .int (nI k), .ref a2, .ref a3, .int w, .ref a4])), (a1, .inl (i1, 200, .inr (.inl O))), (a2, .inl (i2, 520, .inl mo)), (a3, .inl (i3, 520, .inr (.inl mb)))]) (va_Qi (fun (r : Int32) (_ : Unit) => (r = 1 ∧ dk_tld (fun j => ¬ O j = 0 ∨ ¬ lN (dk_yn mo (nI j) k) ≤ 0) x) ∨ (r = 0 ∧ ¬ dk_tld (fun j => ¬ O j = 0 ∨ ¬ lN (dk_yn mo (nI j) k) ≤ 0) x)) (fun _ _ => True) dk_no) 0 0 dk_no := by
  refine Met.ofW (cc := cX1_isTold) (maxL := 2) (ret := (some .boolean)) (by decide) rfl ?_
  intro p e s m args below meth c s₁ B hml hv
  obtain ⟨rfl, hP, hK⟩ := hv
  have hx := B.exec
  have hb := B.bytes
  have hr := B.returns
  have hts := atoms_spec (ws := wsX1_isTold) B.pre
  have hown : s.vm.findClass RX1 = some m.cls := findClass_of_methodNamed B.named
  have hlocks := B.notSynchronized
  have hinX1 : ∀ w ∈ wsX10, w ∈ wsX1_isTold := by decide +kernel
  have hS : va_S dk_no s.heap s.heap [] := va_S.rf
  have hl := lv_entry ([.ref g0, .int x]) (n := 2) (Nat.le_of_ble_eq_true rfl)
  rw [lg_entry_eq]
  generalize (lg_sl ([.ref g0, .int x]) ++ List.replicate (2 - (lg_sl ([.ref g0, .int x])).length) Slot.unset).toArray = ls at hl ⊢
  have hl : lv_has ls 2 [(0, .ref g0), (1, .int x)] := hl
  refine lv_iload_n hx hb dX1_isTold_0 rfl (lv_at hl 1 rfl) ?_
  have hKc := hK.sub (tys' := []) [] rfl
  refine va_calli (va_runS (As := [.int x]) (rest := []) ⟨hx, hb, hml, hown, hts⟩ (cY_isPosition l dC dI x) (va_cwS 1 hts gX1_isTold_X1_isPosition rfl rfl rfl (by decide +kernel) ⟨Nat.le_of_ble_eq_true rfl, Nat.le_of_ble_eq_true rfl⟩) (dk_rS dk_P0 hKc) rfl rfl hl.1 rfl (lv_room (Nat.le_of_ble_eq_true rfl)) dX1_isTold_1 ⟨Nat.zero_le _, Nat.zero_le _⟩) hS (fun q _ h => False.elim h) (fun q h => False.elim h) (fun r_1 u8 t8 H1 locs ht8 hvm8 hw hB hz1 hk1 hS => ?_)
  try dsimp only at hw
  have hP := dk_kept hP hk1
  generalize H1 = H at hP hS ⊢
  rcases hw with ⟨rfl, j, hj, rfl⟩ | ⟨rfl, hno⟩
  · refine lv_if_eq (tgt := 33) hx hb dX1_isTold_4 (by decide) (fun c9 => absurd c9 (by decide)) (fun _ => ?_)
    refine lv_aload_n hx hb dX1_isTold_7 rfl (lv_at hl 0 rfl) ?_
    refine va_get (D := (dC, dI)) (ci := 1) (v := .ref a1) (C := RX1) (T := TX1) (N := 7) hx hb hts hinX1 hown hK hP 0 rfl rfl 1 (by decide) (hts (.fieldLink RX1 7 "DayDeskModel" "opening" "[J") (by decide +kernel)) (fun _ h9 => h9) rfl dX1_isTold_8 ?_
    refine lv_iload_n hx hb dX1_isTold_11 rfl (lv_at hl 1 rfl) ?_
    refine dk_lald hx hb hK hP 1 0 rfl rfl (j := j) (by omega) (by omega) dX1_isTold_12 ?_
    refine lv_lconst (v := 0) hx hb dX1_isTold_13 (by decide) ?_
    refine W.lcmp hx hb dX1_isTold_14 ?_
    refine lv_if_ne (tgt := 29) hx hb dX1_isTold_15 (by decide) (fun c_15 => ?_) (fun c_15 => ?_)
    · have c_15 : ¬ ((O j) = (0 : Int64)) := fun q9 => c_15 ((lg_cmp_eq _ _).mpr q9)
      refine lv_iconst (v := 1) hx hb dX1_isTold_29 (by decide) ?_
      refine lv_goto (tgt := 34) hx hb dX1_isTold_30 (by decide) ?_
      exact W.zret (v := 1) hx hb hr (by first | rfl | decide) (fun z8 hz8 hW8 => ⟨⟨1, (), rfl, Or.inl ⟨rfl, j, hj, rfl, Or.inl c_15⟩, trivial⟩, hS.F hz8⟩) hS.2.2 dX1_isTold_34
    · have c_15 : (O j) = (0 : Int64) := (lg_cmp_eq _ _).mp c_15
      refine lv_aload_n hx hb dX1_isTold_18 rfl (lv_at hl 0 rfl) ?_
      refine lv_iload_n hx hb dX1_isTold_19 rfl (lv_at hl 1 rfl) ?_
      refine lv_iconst (v := 4) hx hb dX1_isTold_20 (by decide) ?_
      have hPc := hP
      have hKc := hK
      refine va_calll (va_runV (As := [.int (nI j), .int 4]) (rest := []) ⟨hx, hb, hml, hown, hts⟩ (cY_row l dC dI g0 a1 a2 a3 a4 i1 i2 i3 TT k hk9 w O mo mb (nI j) 4) (cwV 2 hts gX1_isTold_X1_row rfl rfl rfl (by decide +kernel) ⟨Nat.le_of_ble_eq_true rfl, Nat.le_of_ble_eq_true rfl⟩) (dk_rV hPc hKc (ci := 1) (q0 := 0) rfl rfl) rfl rfl hl.1 rfl (lv_room (Nat.le_of_ble_eq_true rfl)) dX1_isTold_21 ⟨Nat.zero_le _, Nat.zero_le _⟩) hS (fun q _ h => False.elim h) (fun q h => False.elim h) (fun r_21 u8 t8 H1 locs ht8 hvm8 hw hB hz1 hk1 hS => ?_)
      try dsimp only at hw
      have hP := dk_kept hP hk1
      generalize H1 = H at hP hS ⊢
      have hw := dk_row_in hj hw
      have hw : _ = lN (dk_yn mo (nI j) k) := hw
      subst hw
      refine lv_lconst (v := 0) hx hb dX1_isTold_24 (by decide) ?_
      refine W.lcmp hx hb dX1_isTold_25 ?_
      refine lv_if_le (tgt := 33) hx hb dX1_isTold_26 (by decide) (fun c_26 => ?_) (fun c_26 => ?_)
      · have c_26 : (lN (dk_yn mo (nI j) k)) ≤ (0 : Int64) := (lg_cmp_le _ _).mp c_26
        refine lv_iconst (v := 0) hx hb dX1_isTold_33 (by decide) ?_
        exact W.zret (v := 0) hx hb hr (by first | rfl | decide) (fun z8 hz8 hW8 => ⟨⟨0, (), rfl, Or.inr ⟨rfl, dk_tld_no hj (fun q9 => q9.elim (fun z9 => z9 c_15) (fun z9 => z9 c_26))⟩, trivial⟩, hS.F hz8⟩) hS.2.2 dX1_isTold_34
      · have c_26 : ¬ ((lN (dk_yn mo (nI j) k)) ≤ (0 : Int64)) := fun q9 => c_26 ((lg_cmp_le _ _).mpr q9)
        refine lv_iconst (v := 1) hx hb dX1_isTold_29 (by decide) ?_
        refine lv_goto (tgt := 34) hx hb dX1_isTold_30 (by decide) ?_
        exact W.zret (v := 1) hx hb hr (by first | rfl | decide) (fun z8 hz8 hW8 => ⟨⟨1, (), rfl, Or.inl ⟨rfl, j, hj, rfl, Or.inr c_26⟩, trivial⟩, hS.F hz8⟩) hS.2.2 dX1_isTold_34
  · refine lv_if_eq (tgt := 33) hx hb dX1_isTold_4 (by decide) (fun _ => ?_) (fun c9 => absurd (by decide) c9)
    refine lv_iconst (v := 0) hx hb dX1_isTold_33 (by decide) ?_
    exact W.zret (v := 0) hx hb hr (by first | rfl | decide) (fun z8 hz8 hW8 => ⟨⟨0, (), rfl, Or.inr ⟨rfl, dk_tld_out hno⟩, trivial⟩, hS.F hz8⟩) hS.2.2 dX1_isTold_34
set_option maxHeartbeats 4000000 in
set_option maxRecDepth 100000 in
/-- move -/
theorem cY_move (l : Launch) (dC : Nat → ClassId) (dI : Nat → Nat → Nat) (sz : Nat) (g0 a1 a2 a3 a4 : Nat) (i1 i2 i3 : ClassId) (TT : Int64) (k : Nat) (hk9 : k < 520) (w : Int32) (O : Nat → Int64) (mo : Nat → Int32) (mb : Nat → Int64) (x : Int32) (v : Int64) : Met l yX1_move wsX1_move ({ frames := 2, cells := 0, slots := 0, locals := 49 }) (dk_Pw [.ref g0, .int x, .long v] (dC, dI) vwCl [(i1, .long), (i2, .int), (i3, .long)] [(g0, .inr (1, [.long TT, .ref a1, .int (nI k), .ref a2, .ref a3, .int w, .ref a4])), (a1, .inl (i1, 200, .inr (.inl O))), (a2, .inl (i2, 520, .inl mo)), (a3, .inl (i3, 520, .inr (.inl mb)))] sz) (va_Qi (fun (r : Int32) (u : Nat × (Nat → Int32) × (Nat → Int64)) => match u with | (k2, mo2, mb2) => dk_ymv O mo mb k x v r k2 mo2 mb2) (fun (u : Nat × (Nat → Int32) × (Nat → Int64)) z8 => match u with | (k2, mo2, mb2) => dk_B (dC, dI) vwCl (va_A [(g0, .inr (1, [.long TT, .ref a1, .int (nI k), .ref a2, .ref a3, .int w, .ref a4])), (a1, .inl (i1, 200, .inr (.inl O))), (a2, .inl (i2, 520, .inl mo)), (a3, .inl (i3, 520, .inr (.inl mb)))] sz) [(g0, .inr (1, [.long TT, .ref a1, .int (nI k2), .ref a2, .ref a3, .int w, .ref a4])), (a1, .inl (i1, 200, .inr (.inl O))), (a2, .inl (i2, 520, .inl mo2)), (a3, .inl (i3, 520, .inr (.inl mb2)))] z8) (va_A [(g0, .inr (1, [.long TT, .ref a1, .int (nI k), .ref a2, .ref a3, .int w, .ref a4])), (a1, .inl (i1, 200, .inr (.inl O))), (a2, .inl (i2, 520, .inl mo)), (a3, .inl (i3, 520, .inr (.inl mb)))] sz)) 0 0 (va_A [(g0, .inr (1, [.long TT, .ref a1, .int (nI k), .ref a2, .ref a3, .int w, .ref a4])), (a1, .inl (i1, 200, .inr (.inl O))), (a2, .inl (i2, 520, .inl mo)), (a3, .inl (i3, 520, .inr (.inl mb)))] sz) := by
  refine Met.ofW (cc := cX1_move) (maxL := 4) (ret := (some .int)) (by decide) rfl ?_
  intro p e s m args below meth c s₁ B hml hv
  obtain ⟨rfl, hsz, hP, hK, hD0⟩ := hv
  have hx := B.exec
  have hb := B.bytes
  have hr := B.returns
  have hts := atoms_spec (ws := wsX1_move) B.pre
  have hown : s.vm.findClass RX1 = some m.cls := findClass_of_methodNamed B.named
  have hlocks := B.notSynchronized
  have hinX1 : ∀ w ∈ wsX10, w ∈ wsX1_move := by decide +kernel
  subst hsz
  have hD := hD0.self (sz := s.heap.size)
  generalize hAe : va_A [(g0, .inr (1, [.long TT, .ref a1, .int (nI k), .ref a2, .ref a3, .int w, .ref a4])), (a1, .inl (i1, 200, .inr (.inl O))), (a2, .inl (i2, 520, .inl mo)), (a3, .inl (i3, 520, .inr (.inl mb)))] s.heap.size = A at hD ⊢
  have hA : ∀ q : Nat, s.heap.size ≤ q → A q := fun q h => by rw [← hAe]; exact Or.inr h
  have hS : va_S A s.heap s.heap [] := va_S.rf
  have hl := lv_entry ([.ref g0, .int x, .long v]) (n := 4) (Nat.le_of_ble_eq_true rfl)
  rw [lg_entry_eq]
  generalize (lg_sl ([.ref g0, .int x, .long v]) ++ List.replicate (4 - (lg_sl ([.ref g0, .int x, .long v])).length) Slot.unset).toArray = ls at hl ⊢
  have hl : lv_has ls 4 [(0, .ref g0), (1, .int x), (2, .long v)] := hl
  refine lv_iload_n hx hb dX1_move_0 rfl (lv_at hl 1 rfl) ?_
  have hKc := hK.sub (tys' := []) [] rfl
  refine va_calli (va_runS (As := [.int x]) (rest := []) ⟨hx, hb, hml, hown, hts⟩ (cY_isPosition l dC dI x) (va_cwS 1 hts gX1_move_X1_isPosition rfl rfl rfl (by decide +kernel) ⟨Nat.le_of_ble_eq_true rfl, Nat.le_of_ble_eq_true rfl⟩) (dk_rS dk_P0 hKc) rfl rfl hl.1 rfl (lv_room (Nat.le_of_ble_eq_true rfl)) dX1_move_1 ⟨Nat.zero_le _, Nat.zero_le _⟩) hS (fun q _ h => False.elim h) (fun q h => False.elim h) (fun r_1 u8 t8 H1 locs ht8 hvm8 hw hB hz1 hk1 hS => ?_)
  try dsimp only at hw
  have hP := dk_kept hP hk1
  generalize H1 = H at hP hS ⊢
  rcases hw with ⟨rfl, j, hj, rfl⟩ | ⟨rfl, hno⟩
  · refine lv_if_eq (tgt := 68) hx hb dX1_move_4 (by decide) (fun c9 => absurd c9 (by decide)) (fun _ => ?_)
    refine lv_lload_n hx hb dX1_move_7 rfl (lv_at hl 2 rfl) ?_
    refine lv_ldc2 (v := (-10000000000000000)) hx hb hown (hts (.constantLong RX1 63 (-10000000000000000)) (by decide +kernel)) dX1_move_8 ?_
    refine W.lcmp hx hb dX1_move_11 ?_
    refine lv_if_lt (tgt := 68) hx hb dX1_move_12 (by decide) (fun c_12 => ?_) (fun c_12 => ?_)
    · have c_12 : v < ((-10000000000000000) : Int64) := (lg_cmp_lt _ _).mp c_12
      refine lv_iconst (v := (-1)) hx hb dX1_move_68 (by decide) ?_
      exact W.iret (v := (-1)) hx hb hr (fun z8 hz8 hW8 => ⟨⟨(-1), (k, mo, mb), rfl, Or.inl ⟨rfl, rfl, rfl, rfl, Or.inr ⟨j, hj, rfl, fun q9 => dk_lnle c_12 q9.1.1⟩⟩, by rw [hz8]; exact hP, hD⟩, hS.F hz8⟩) hS.2.2 dX1_move_69
    · have c_12 : ¬ (v < ((-10000000000000000) : Int64)) := fun q9 => c_12 ((lg_cmp_lt _ _).mpr q9)
      refine lv_lload_n hx hb dX1_move_15 rfl (lv_at hl 2 rfl) ?_
      refine lv_ldc2 (v := 10000000000000000) hx hb hown (hts (.constantLong RX1 65 10000000000000000) (by decide +kernel)) dX1_move_16 ?_
      refine W.lcmp hx hb dX1_move_19 ?_
      refine lv_if_gt (tgt := 68) hx hb dX1_move_20 (by decide) (fun c_20 => ?_) (fun c_20 => ?_)
      · have c_20 : (10000000000000000 : Int64) < v := (lg_cmp_gt _ _).mp c_20
        refine lv_iconst (v := (-1)) hx hb dX1_move_68 (by decide) ?_
        exact W.iret (v := (-1)) hx hb hr (fun z8 hz8 hW8 => ⟨⟨(-1), (k, mo, mb), rfl, Or.inl ⟨rfl, rfl, rfl, rfl, Or.inr ⟨j, hj, rfl, fun q9 => dk_lnle c_20 q9.1.2⟩⟩, by rw [hz8]; exact hP, hD⟩, hS.F hz8⟩) hS.2.2 dX1_move_69
      · have c_20 : ¬ ((10000000000000000 : Int64) < v) := fun q9 => c_20 ((lg_cmp_gt _ _).mpr q9)
        refine lv_aload_n hx hb dX1_move_23 rfl (lv_at hl 0 rfl) ?_
        refine lv_iload_n hx hb dX1_move_24 rfl (lv_at hl 1 rfl) ?_
        refine lv_iconst (v := 3) hx hb dX1_move_25 (by decide) ?_
        have hPc := hP
        have hKc := hK
        refine va_calll (va_runV (As := [.int (nI j), .int 3]) (rest := []) ⟨hx, hb, hml, hown, hts⟩ (cY_row l dC dI g0 a1 a2 a3 a4 i1 i2 i3 TT k (by omega) w O mo mb (nI j) 3) (cwV 2 hts gX1_move_X1_row rfl rfl rfl (by decide +kernel) ⟨Nat.le_of_ble_eq_true rfl, Nat.le_of_ble_eq_true rfl⟩) (dk_rV hPc hKc (ci := 1) (q0 := 0) rfl rfl) rfl rfl hl.1 rfl (lv_room (Nat.le_of_ble_eq_true rfl)) dX1_move_26 ⟨Nat.zero_le _, Nat.zero_le _⟩) hS (fun q _ h => False.elim h) (fun q h => False.elim h) (fun r_26 u8 t8 H1 locs ht8 hvm8 hw hB hz1 hk1 hS => ?_)
        try dsimp only at hw
        have hP := dk_kept hP hk1
        generalize H1 = H at hP hS ⊢
        have hw := dk_row_in hj hw
        have hw : _ = dk_y3 O mo mb k j := hw
        subst hw
        refine lv_lload_n hx hb dX1_move_29 rfl (lv_at hl 2 rfl) ?_
        refine lv_ladd hx hb dX1_move_30 ?_
        have hKc := hK.sub (tys' := []) [] rfl
        refine va_calli (va_runS (As := [.long ((dk_y3 O mo mb k j) + v)]) (rest := []) ⟨hx, hb, hml, hown, hts⟩ (cY_isWithin l dC dI ((dk_y3 O mo mb k j) + v)) (va_cwS 1 hts gX1_move_X1_isWithin rfl rfl rfl (by decide +kernel) ⟨Nat.le_of_ble_eq_true rfl, Nat.le_of_ble_eq_true rfl⟩) (dk_rS dk_P0 hKc) rfl rfl hl.1 rfl (lv_room (Nat.le_of_ble_eq_true rfl)) dX1_move_31 ⟨Nat.zero_le _, Nat.zero_le _⟩) hS (fun q _ h => False.elim h) (fun q h => False.elim h) (fun r_31 u8 t8 H1 locs ht8 hvm8 hw hB hz1 hk1 hS => ?_)
        try dsimp only at hw
        have hP := dk_kept hP hk1
        generalize H1 = H at hP hS ⊢
        rcases hw with ⟨rfl, hw1⟩ | ⟨rfl, hw1⟩
        · refine lv_if_eq (tgt := 68) hx hb dX1_move_34 (by decide) (fun c9 => absurd c9 (by decide)) (fun _ => ?_)
          refine lv_lload_n hx hb dX1_move_37 rfl (lv_at hl 2 rfl) ?_
          refine lv_lconst (v := 0) hx hb dX1_move_38 (by decide) ?_
          refine W.lcmp hx hb dX1_move_39 ?_
          refine lv_if_ge (tgt := 54) hx hb dX1_move_40 (by decide) (fun c_40 => ?_) (fun c_40 => ?_)
          · have c_40 : (0 : Int64) ≤ v := (lg_cmp_ge _ _).mp c_40
            refine lv_aload_n hx hb dX1_move_54 rfl (lv_at hl 0 rfl) ?_
            refine lv_iload_n hx hb dX1_move_55 rfl (lv_at hl 1 rfl) ?_
            refine lv_iconst (v := 2) hx hb dX1_move_56 (by decide) ?_
            have hPc := hP
            have hKc := hK
            refine va_calll (va_runV (As := [.int (nI j), .int 2]) (rest := []) ⟨hx, hb, hml, hown, hts⟩ (cY_row l dC dI g0 a1 a2 a3 a4 i1 i2 i3 TT k (by omega) w O mo mb (nI j) 2) (cwV 2 hts gX1_move_X1_row rfl rfl rfl (by decide +kernel) ⟨Nat.le_of_ble_eq_true rfl, Nat.le_of_ble_eq_true rfl⟩) (dk_rV hPc hKc (ci := 1) (q0 := 0) rfl rfl) rfl rfl hl.1 rfl (lv_room (Nat.le_of_ble_eq_true rfl)) dX1_move_57 ⟨Nat.zero_le _, Nat.zero_le _⟩) hS (fun q _ h => False.elim h) (fun q h => False.elim h) (fun r_57 u8 t8 H1 locs ht8 hvm8 hw hB hz1 hk1 hS => ?_)
            try dsimp only at hw
            have hP := dk_kept hP hk1
            generalize H1 = H at hP hS ⊢
            have hw := dk_row_in hj hw
            have hw : _ = dk_yc mo mb (nI j) k := hw
            subst hw
            refine lv_lload_n hx hb dX1_move_60 rfl (lv_at hl 2 rfl) ?_
            refine lv_ladd hx hb dX1_move_61 ?_
            refine dk_asl (y := if v < 0 then dk_yw mo mb (nI j) k - v else dk_yc mo mb (nI j) k + v) (by rw [if_neg (dk_lge0 c_40)]) ?_
            have hKc := hK.sub (tys' := []) [] rfl
            refine va_calli (va_runS (As := [.long (if v < 0 then dk_yw mo mb (nI j) k - v else dk_yc mo mb (nI j) k + v)]) (rest := []) ⟨hx, hb, hml, hown, hts⟩ (cY_isWithin l dC dI (if v < 0 then dk_yw mo mb (nI j) k - v else dk_yc mo mb (nI j) k + v)) (va_cwS 1 hts gX1_move_X1_isWithin rfl rfl rfl (by decide +kernel) ⟨Nat.le_of_ble_eq_true rfl, Nat.le_of_ble_eq_true rfl⟩) (dk_rS dk_P0 hKc) rfl rfl hl.1 rfl (lv_room (Nat.le_of_ble_eq_true rfl)) dX1_move_62 ⟨Nat.zero_le _, Nat.zero_le _⟩) hS (fun q _ h => False.elim h) (fun q h => False.elim h) (fun r_62 u8 t8 H1 locs ht8 hvm8 hw hB hz1 hk1 hS => ?_)
            try dsimp only at hw
            have hP := dk_kept hP hk1
            generalize H1 = H at hP hS ⊢
            rcases hw with ⟨rfl, hw2⟩ | ⟨rfl, hw2⟩
            · refine lv_if_ne (tgt := 70) hx hb dX1_move_65 (by decide) (fun _ => ?_) (fun c9 => absurd c9 (by decide))
              refine lv_lload_n hx hb dX1_move_70 rfl (lv_at hl 2 rfl) ?_
              refine lv_lconst (v := 0) hx hb dX1_move_71 (by decide) ?_
              refine W.lcmp hx hb dX1_move_72 ?_
              refine lv_if_ne (tgt := 78) hx hb dX1_move_73 (by decide) (fun c_73 => ?_) (fun c_73 => ?_)
              · have c_73 : ¬ (v = (0 : Int64)) := fun q9 => c_73 ((lg_cmp_eq _ _).mpr q9)
                refine lv_aload_n hx hb dX1_move_78 rfl (lv_at hl 0 rfl) ?_
                refine va_get (D := (dC, dI)) (ci := 1) (v := .ref a2) (C := RX1) (T := TX1) (N := 7) hx hb hts hinX1 hown hK hP 0 rfl rfl 3 (by decide) (hts (.fieldLink RX1 13 "DayDeskModel" "moveOf" "[I") (by decide +kernel)) (fun _ h9 => h9) rfl dX1_move_79 ?_
                refine lv_aload_n hx hb dX1_move_82 rfl (lv_at hl 0 rfl) ?_
                refine va_get (D := (dC, dI)) (ci := 1) (v := .int (nI k)) (C := RX1) (T := TX1) (N := 7) hx hb hts hinX1 hown hK hP 0 rfl rfl 2 (by decide) (hts (.fieldLink RX1 33 "DayDeskModel" "moves" "I") (by decide +kernel)) (fun _ h9 => h9) rfl dX1_move_83 ?_
                refine lv_iload_n hx hb dX1_move_86 rfl (lv_at hl 1 rfl) ?_
                refine dk_iast hx hb hK hP hD hS 2 1 rfl rfl (j := k) (by omega) (by omega) dX1_move_87 (fun H locs hP hD hS => ?_)
                have hP : va_P (dC, dI) vwCl [(g0, .inr (1, [.long TT, .ref a1, .int (nI k), .ref a2, .ref a3, .int w, .ref a4])), (a1, .inl (i1, 200, .inr (.inl O))), (a2, .inl (i2, 520, .inl (upd mo k (nI j)))), (a3, .inl (i3, 520, .inr (.inl mb)))] H := hP
                have hD : va_D A [(g0, .inr (1, [.long TT, .ref a1, .int (nI k), .ref a2, .ref a3, .int w, .ref a4])), (a1, .inl (i1, 200, .inr (.inl O))), (a2, .inl (i2, 520, .inl (upd mo k (nI j)))), (a3, .inl (i3, 520, .inr (.inl mb)))] := hD
                refine lv_aload_n hx hb dX1_move_88 rfl (lv_at hl 0 rfl) ?_
                refine va_get (D := (dC, dI)) (ci := 1) (v := .ref a3) (C := RX1) (T := TX1) (N := 7) hx hb hts hinX1 hown hK hP 0 rfl rfl 4 (by decide) (hts (.fieldLink RX1 17 "DayDeskModel" "moveBy" "[J") (by decide +kernel)) (fun _ h9 => h9) rfl dX1_move_89 ?_
                refine lv_aload_n hx hb dX1_move_92 rfl (lv_at hl 0 rfl) ?_
                refine va_get (D := (dC, dI)) (ci := 1) (v := .int (nI k)) (C := RX1) (T := TX1) (N := 7) hx hb hts hinX1 hown hK hP 0 rfl rfl 2 (by decide) (hts (.fieldLink RX1 33 "DayDeskModel" "moves" "I") (by decide +kernel)) (fun _ h9 => h9) rfl dX1_move_93 ?_
                refine lv_lload_n hx hb dX1_move_96 rfl (lv_at hl 2 rfl) ?_
                refine dk_last hx hb hK hP hD hS 3 2 rfl rfl (j := k) (by omega) (by omega) dX1_move_97 (fun H locs hP hD hS => ?_)
                have hP : va_P (dC, dI) vwCl [(g0, .inr (1, [.long TT, .ref a1, .int (nI k), .ref a2, .ref a3, .int w, .ref a4])), (a1, .inl (i1, 200, .inr (.inl O))), (a2, .inl (i2, 520, .inl (upd mo k (nI j)))), (a3, .inl (i3, 520, .inr (.inl (vp_updL mb k v))))] H := hP
                have hD : va_D A [(g0, .inr (1, [.long TT, .ref a1, .int (nI k), .ref a2, .ref a3, .int w, .ref a4])), (a1, .inl (i1, 200, .inr (.inl O))), (a2, .inl (i2, 520, .inl (upd mo k (nI j)))), (a3, .inl (i3, 520, .inr (.inl (vp_updL mb k v))))] := hD
                refine lv_aload_n hx hb dX1_move_98 rfl (lv_at hl 0 rfl) ?_
                refine lv_dup hx hb dX1_move_99 rfl ?_
                refine va_get (D := (dC, dI)) (ci := 1) (v := .int (nI k)) (C := RX1) (T := TX1) (N := 7) hx hb hts hinX1 hown hK hP 0 rfl rfl 2 (by decide) (hts (.fieldLink RX1 33 "DayDeskModel" "moves" "I") (by decide +kernel)) (fun _ h9 => h9) rfl dX1_move_100 ?_
                refine lv_iconst (v := 1) hx hb dX1_move_103 (by decide) ?_
                refine lv_iadd hx hb dX1_move_104 ?_
                refine dk_asi (y := nI (k + 1)) (nI_add k 1) ?_
                refine va_put (D := (dC, dI)) (ci := 1) (v := .int (nI (k + 1))) (ty := .int) (C := RX1) (T := TX1) (N := 7) hx hb hts hinX1 tyX1 tyX1_ok nmX1 hown hK hP hD hS 0 rfl rfl 2 (by decide) (hts (.fieldLink RX1 33 "DayDeskModel" "moves" "I") (by decide +kernel)) (fun _ h9 => h9) rfl (by decide +kernel) rfl rfl (Nat.le_of_ble_eq_true rfl) dX1_move_105 (fun H locs hP hD hS => ?_)
                have hP : va_P (dC, dI) vwCl [(g0, .inr (1, [.long TT, .ref a1, .int (nI (k + 1)), .ref a2, .ref a3, .int w, .ref a4])), (a1, .inl (i1, 200, .inr (.inl O))), (a2, .inl (i2, 520, .inl (upd mo k (nI j)))), (a3, .inl (i3, 520, .inr (.inl (vp_updL mb k v))))] H := hP
                have hD : va_D A [(g0, .inr (1, [.long TT, .ref a1, .int (nI (k + 1)), .ref a2, .ref a3, .int w, .ref a4])), (a1, .inl (i1, 200, .inr (.inl O))), (a2, .inl (i2, 520, .inl (upd mo k (nI j)))), (a3, .inl (i3, 520, .inr (.inl (vp_updL mb k v))))] := hD
                refine lv_iconst (v := 1) hx hb dX1_move_108 (by decide) ?_
                exact W.iret (v := 1) hx hb hr (fun z8 hz8 hW8 => ⟨⟨1, (k + 1, upd mo k (nI j), vp_updL mb k v), rfl, Or.inr (Or.inr ⟨rfl, j, hj, rfl, c_73, ⟨⟨dk_lnl c_12, dk_lnl c_20⟩, hw1, hw2⟩, rfl, rfl, rfl⟩), by rw [hz8]; exact hP, hD⟩, hS.F hz8⟩) hS.2.2 dX1_move_109
              · have c_73 : v = (0 : Int64) := (lg_cmp_eq _ _).mp c_73
                refine lv_iconst (v := 0) hx hb dX1_move_76 (by decide) ?_
                exact W.iret (v := 0) hx hb hr (fun z8 hz8 hW8 => ⟨⟨0, (k, mo, mb), rfl, Or.inr (Or.inl ⟨rfl, rfl, rfl, rfl, c_73, j, hj, rfl, ⟨⟨dk_lnl c_12, dk_lnl c_20⟩, hw1, hw2⟩⟩), by rw [hz8]; exact hP, hD⟩, hS.F hz8⟩) hS.2.2 dX1_move_77
            · refine lv_if_ne (tgt := 70) hx hb dX1_move_65 (by decide) (fun c9 => absurd (by decide) c9) (fun _ => ?_)
              refine lv_iconst (v := (-1)) hx hb dX1_move_68 (by decide) ?_
              exact W.iret (v := (-1)) hx hb hr (fun z8 hz8 hW8 => ⟨⟨(-1), (k, mo, mb), rfl, Or.inl ⟨rfl, rfl, rfl, rfl, Or.inr ⟨j, hj, rfl, fun q9 => hw2 q9.2.2⟩⟩, by rw [hz8]; exact hP, hD⟩, hS.F hz8⟩) hS.2.2 dX1_move_69
          · have c_40 : ¬ ((0 : Int64) ≤ v) := fun q9 => c_40 ((lg_cmp_ge _ _).mpr q9)
            refine lv_aload_n hx hb dX1_move_43 rfl (lv_at hl 0 rfl) ?_
            refine lv_iload_n hx hb dX1_move_44 rfl (lv_at hl 1 rfl) ?_
            refine lv_iconst (v := 1) hx hb dX1_move_45 (by decide) ?_
            have hPc := hP
            have hKc := hK
            refine va_calll (va_runV (As := [.int (nI j), .int 1]) (rest := []) ⟨hx, hb, hml, hown, hts⟩ (cY_row l dC dI g0 a1 a2 a3 a4 i1 i2 i3 TT k (by omega) w O mo mb (nI j) 1) (cwV 2 hts gX1_move_X1_row rfl rfl rfl (by decide +kernel) ⟨Nat.le_of_ble_eq_true rfl, Nat.le_of_ble_eq_true rfl⟩) (dk_rV hPc hKc (ci := 1) (q0 := 0) rfl rfl) rfl rfl hl.1 rfl (lv_room (Nat.le_of_ble_eq_true rfl)) dX1_move_46 ⟨Nat.zero_le _, Nat.zero_le _⟩) hS (fun q _ h => False.elim h) (fun q h => False.elim h) (fun r_46 u8 t8 H1 locs ht8 hvm8 hw hB hz1 hk1 hS => ?_)
            try dsimp only at hw
            have hP := dk_kept hP hk1
            generalize H1 = H at hP hS ⊢
            have hw := dk_row_in hj hw
            have hw : _ = dk_yw mo mb (nI j) k := hw
            subst hw
            refine lv_lload_n hx hb dX1_move_49 rfl (lv_at hl 2 rfl) ?_
            refine lv_lsub hx hb dX1_move_50 ?_
            refine lv_goto (tgt := 62) hx hb dX1_move_51 (by decide) ?_
            refine dk_asl (y := if v < 0 then dk_yw mo mb (nI j) k - v else dk_yc mo mb (nI j) k + v) (by rw [if_pos (dk_llt0 c_40)]) ?_
            have hKc := hK.sub (tys' := []) [] rfl
            refine va_calli (va_runS (As := [.long (if v < 0 then dk_yw mo mb (nI j) k - v else dk_yc mo mb (nI j) k + v)]) (rest := []) ⟨hx, hb, hml, hown, hts⟩ (cY_isWithin l dC dI (if v < 0 then dk_yw mo mb (nI j) k - v else dk_yc mo mb (nI j) k + v)) (va_cwS 1 hts gX1_move_X1_isWithin rfl rfl rfl (by decide +kernel) ⟨Nat.le_of_ble_eq_true rfl, Nat.le_of_ble_eq_true rfl⟩) (dk_rS dk_P0 hKc) rfl rfl hl.1 rfl (lv_room (Nat.le_of_ble_eq_true rfl)) dX1_move_62 ⟨Nat.zero_le _, Nat.zero_le _⟩) hS (fun q _ h => False.elim h) (fun q h => False.elim h) (fun r_62 u8 t8 H1 locs ht8 hvm8 hw hB hz1 hk1 hS => ?_)
            try dsimp only at hw
            have hP := dk_kept hP hk1
            generalize H1 = H at hP hS ⊢
            rcases hw with ⟨rfl, hw2⟩ | ⟨rfl, hw2⟩
            · refine lv_if_ne (tgt := 70) hx hb dX1_move_65 (by decide) (fun _ => ?_) (fun c9 => absurd c9 (by decide))
              refine lv_lload_n hx hb dX1_move_70 rfl (lv_at hl 2 rfl) ?_
              refine lv_lconst (v := 0) hx hb dX1_move_71 (by decide) ?_
              refine W.lcmp hx hb dX1_move_72 ?_
              refine lv_if_ne (tgt := 78) hx hb dX1_move_73 (by decide) (fun c_73 => ?_) (fun c_73 => ?_)
              · have c_73 : ¬ (v = (0 : Int64)) := fun q9 => c_73 ((lg_cmp_eq _ _).mpr q9)
                refine lv_aload_n hx hb dX1_move_78 rfl (lv_at hl 0 rfl) ?_
                refine va_get (D := (dC, dI)) (ci := 1) (v := .ref a2) (C := RX1) (T := TX1) (N := 7) hx hb hts hinX1 hown hK hP 0 rfl rfl 3 (by decide) (hts (.fieldLink RX1 13 "DayDeskModel" "moveOf" "[I") (by decide +kernel)) (fun _ h9 => h9) rfl dX1_move_79 ?_
                refine lv_aload_n hx hb dX1_move_82 rfl (lv_at hl 0 rfl) ?_
                refine va_get (D := (dC, dI)) (ci := 1) (v := .int (nI k)) (C := RX1) (T := TX1) (N := 7) hx hb hts hinX1 hown hK hP 0 rfl rfl 2 (by decide) (hts (.fieldLink RX1 33 "DayDeskModel" "moves" "I") (by decide +kernel)) (fun _ h9 => h9) rfl dX1_move_83 ?_
                refine lv_iload_n hx hb dX1_move_86 rfl (lv_at hl 1 rfl) ?_
                refine dk_iast hx hb hK hP hD hS 2 1 rfl rfl (j := k) (by omega) (by omega) dX1_move_87 (fun H locs hP hD hS => ?_)
                have hP : va_P (dC, dI) vwCl [(g0, .inr (1, [.long TT, .ref a1, .int (nI k), .ref a2, .ref a3, .int w, .ref a4])), (a1, .inl (i1, 200, .inr (.inl O))), (a2, .inl (i2, 520, .inl (upd mo k (nI j)))), (a3, .inl (i3, 520, .inr (.inl mb)))] H := hP
                have hD : va_D A [(g0, .inr (1, [.long TT, .ref a1, .int (nI k), .ref a2, .ref a3, .int w, .ref a4])), (a1, .inl (i1, 200, .inr (.inl O))), (a2, .inl (i2, 520, .inl (upd mo k (nI j)))), (a3, .inl (i3, 520, .inr (.inl mb)))] := hD
                refine lv_aload_n hx hb dX1_move_88 rfl (lv_at hl 0 rfl) ?_
                refine va_get (D := (dC, dI)) (ci := 1) (v := .ref a3) (C := RX1) (T := TX1) (N := 7) hx hb hts hinX1 hown hK hP 0 rfl rfl 4 (by decide) (hts (.fieldLink RX1 17 "DayDeskModel" "moveBy" "[J") (by decide +kernel)) (fun _ h9 => h9) rfl dX1_move_89 ?_
                refine lv_aload_n hx hb dX1_move_92 rfl (lv_at hl 0 rfl) ?_
                refine va_get (D := (dC, dI)) (ci := 1) (v := .int (nI k)) (C := RX1) (T := TX1) (N := 7) hx hb hts hinX1 hown hK hP 0 rfl rfl 2 (by decide) (hts (.fieldLink RX1 33 "DayDeskModel" "moves" "I") (by decide +kernel)) (fun _ h9 => h9) rfl dX1_move_93 ?_
                refine lv_lload_n hx hb dX1_move_96 rfl (lv_at hl 2 rfl) ?_
                refine dk_last hx hb hK hP hD hS 3 2 rfl rfl (j := k) (by omega) (by omega) dX1_move_97 (fun H locs hP hD hS => ?_)
                have hP : va_P (dC, dI) vwCl [(g0, .inr (1, [.long TT, .ref a1, .int (nI k), .ref a2, .ref a3, .int w, .ref a4])), (a1, .inl (i1, 200, .inr (.inl O))), (a2, .inl (i2, 520, .inl (upd mo k (nI j)))), (a3, .inl (i3, 520, .inr (.inl (vp_updL mb k v))))] H := hP
                have hD : va_D A [(g0, .inr (1, [.long TT, .ref a1, .int (nI k), .ref a2, .ref a3, .int w, .ref a4])), (a1, .inl (i1, 200, .inr (.inl O))), (a2, .inl (i2, 520, .inl (upd mo k (nI j)))), (a3, .inl (i3, 520, .inr (.inl (vp_updL mb k v))))] := hD
                refine lv_aload_n hx hb dX1_move_98 rfl (lv_at hl 0 rfl) ?_
                refine lv_dup hx hb dX1_move_99 rfl ?_
                refine va_get (D := (dC, dI)) (ci := 1) (v := .int (nI k)) (C := RX1) (T := TX1) (N := 7) hx hb hts hinX1 hown hK hP 0 rfl rfl 2 (by decide) (hts (.fieldLink RX1 33 "DayDeskModel" "moves" "I") (by decide +kernel)) (fun _ h9 => h9) rfl dX1_move_100 ?_
                refine lv_iconst (v := 1) hx hb dX1_move_103 (by decide) ?_
                refine lv_iadd hx hb dX1_move_104 ?_
                refine dk_asi (y := nI (k + 1)) (nI_add k 1) ?_
                refine va_put (D := (dC, dI)) (ci := 1) (v := .int (nI (k + 1))) (ty := .int) (C := RX1) (T := TX1) (N := 7) hx hb hts hinX1 tyX1 tyX1_ok nmX1 hown hK hP hD hS 0 rfl rfl 2 (by decide) (hts (.fieldLink RX1 33 "DayDeskModel" "moves" "I") (by decide +kernel)) (fun _ h9 => h9) rfl (by decide +kernel) rfl rfl (Nat.le_of_ble_eq_true rfl) dX1_move_105 (fun H locs hP hD hS => ?_)
                have hP : va_P (dC, dI) vwCl [(g0, .inr (1, [.long TT, .ref a1, .int (nI (k + 1)), .ref a2, .ref a3, .int w, .ref a4])), (a1, .inl (i1, 200, .inr (.inl O))), (a2, .inl (i2, 520, .inl (upd mo k (nI j)))), (a3, .inl (i3, 520, .inr (.inl (vp_updL mb k v))))] H := hP
                have hD : va_D A [(g0, .inr (1, [.long TT, .ref a1, .int (nI (k + 1)), .ref a2, .ref a3, .int w, .ref a4])), (a1, .inl (i1, 200, .inr (.inl O))), (a2, .inl (i2, 520, .inl (upd mo k (nI j)))), (a3, .inl (i3, 520, .inr (.inl (vp_updL mb k v))))] := hD
                refine lv_iconst (v := 1) hx hb dX1_move_108 (by decide) ?_
                exact W.iret (v := 1) hx hb hr (fun z8 hz8 hW8 => ⟨⟨1, (k + 1, upd mo k (nI j), vp_updL mb k v), rfl, Or.inr (Or.inr ⟨rfl, j, hj, rfl, c_73, ⟨⟨dk_lnl c_12, dk_lnl c_20⟩, hw1, hw2⟩, rfl, rfl, rfl⟩), by rw [hz8]; exact hP, hD⟩, hS.F hz8⟩) hS.2.2 dX1_move_109
              · have c_73 : v = (0 : Int64) := (lg_cmp_eq _ _).mp c_73
                refine lv_iconst (v := 0) hx hb dX1_move_76 (by decide) ?_
                exact W.iret (v := 0) hx hb hr (fun z8 hz8 hW8 => ⟨⟨0, (k, mo, mb), rfl, Or.inr (Or.inl ⟨rfl, rfl, rfl, rfl, c_73, j, hj, rfl, ⟨⟨dk_lnl c_12, dk_lnl c_20⟩, hw1, hw2⟩⟩), by rw [hz8]; exact hP, hD⟩, hS.F hz8⟩) hS.2.2 dX1_move_77
            · refine lv_if_ne (tgt := 70) hx hb dX1_move_65 (by decide) (fun c9 => absurd (by decide) c9) (fun _ => ?_)
              refine lv_iconst (v := (-1)) hx hb dX1_move_68 (by decide) ?_
              exact W.iret (v := (-1)) hx hb hr (fun z8 hz8 hW8 => ⟨⟨(-1), (k, mo, mb), rfl, Or.inl ⟨rfl, rfl, rfl, rfl, Or.inr ⟨j, hj, rfl, fun q9 => hw2 q9.2.2⟩⟩, by rw [hz8]; exact hP, hD⟩, hS.F hz8⟩) hS.2.2 dX1_move_69
        · refine lv_if_eq (tgt := 68) hx hb dX1_move_34 (by decide) (fun _ => ?_) (fun c9 => absurd (by decide) c9)
          refine lv_iconst (v := (-1)) hx hb dX1_move_68 (by decide) ?_
          exact W.iret (v := (-1)) hx hb hr (fun z8 hz8 hW8 => ⟨⟨(-1), (k, mo, mb), rfl, Or.inl ⟨rfl, rfl, rfl, rfl, Or.inr ⟨j, hj, rfl, fun q9 => hw1 q9.2.1⟩⟩, by rw [hz8]; exact hP, hD⟩, hS.F hz8⟩) hS.2.2 dX1_move_69
  · refine lv_if_eq (tgt := 68) hx hb dX1_move_4 (by decide) (fun _ => ?_) (fun c9 => absurd (by decide) c9)
    refine lv_iconst (v := (-1)) hx hb dX1_move_68 (by decide) ?_
    exact W.iret (v := (-1)) hx hb hr (fun z8 hz8 hW8 => ⟨⟨(-1), (k, mo, mb), rfl, Or.inl ⟨rfl, rfl, rfl, rfl, Or.inl hno⟩, by rw [hz8]; exact hP, hD⟩, hS.F hz8⟩) hS.2.2 dX1_move_69
