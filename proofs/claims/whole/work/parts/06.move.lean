set_option maxHeartbeats 4000000 in
set_option maxRecDepth 100000 in
/-- move -/
theorem cX_move (l : Launch) (dC : Nat → ClassId) (dI : Nat → Nat → Nat) (sz : Nat) (h0 qo qw qc qn qm ql : Nat) (k2 k3 k4 k5 : ClassId) (d ll tk : Int32) (fw fc fn fm : Nat → Int64) (x : Int32) (v : Int64) : Met l yX0_move wsX0_move ({ frames := 1, cells := 0, slots := 0, locals := 23 }) (dk_Pw [.ref h0, .int x, .long v] (dC, dI) vwCl [(k2, .long), (k3, .long), (k4, .long), (k5, .long)] [(h0, .inr (0, [.int d, .int tk, .ref qo, .ref qw, .ref qc, .ref qn, .ref qm, .ref ql, .int ll])), (qw, .inl (k2, 200, .inr (.inl fw))), (qc, .inl (k3, 200, .inr (.inl fc))), (qn, .inl (k4, 200, .inr (.inl fn))), (qm, .inl (k5, 200, .inr (.inl fm)))] sz) (va_Qi (fun (r : Int32) (u : (Nat → Int64) × (Nat → Int64) × (Nat → Int64) × (Nat → Int64)) => match u with | (gw, gc, gn, gm) => dk_mv x v fw fc fn fm r gw gc gn gm) (fun (u : (Nat → Int64) × (Nat → Int64) × (Nat → Int64) × (Nat → Int64)) z8 => match u with | (gw, gc, gn, gm) => dk_B (dC, dI) vwCl (va_A [(h0, .inr (0, [.int d, .int tk, .ref qo, .ref qw, .ref qc, .ref qn, .ref qm, .ref ql, .int ll])), (qw, .inl (k2, 200, .inr (.inl fw))), (qc, .inl (k3, 200, .inr (.inl fc))), (qn, .inl (k4, 200, .inr (.inl fn))), (qm, .inl (k5, 200, .inr (.inl fm)))] sz) [(h0, .inr (0, [.int d, .int tk, .ref qo, .ref qw, .ref qc, .ref qn, .ref qm, .ref ql, .int ll])), (qw, .inl (k2, 200, .inr (.inl gw))), (qc, .inl (k3, 200, .inr (.inl gc))), (qn, .inl (k4, 200, .inr (.inl gn))), (qm, .inl (k5, 200, .inr (.inl gm)))] z8) (va_A [(h0, .inr (0, [.int d, .int tk, .ref qo, .ref qw, .ref qc, .ref qn, .ref qm, .ref ql, .int ll])), (qw, .inl (k2, 200, .inr (.inl fw))), (qc, .inl (k3, 200, .inr (.inl fc))), (qn, .inl (k4, 200, .inr (.inl fn))), (qm, .inl (k5, 200, .inr (.inl fm)))] sz)) 0 0 (va_A [(h0, .inr (0, [.int d, .int tk, .ref qo, .ref qw, .ref qc, .ref qn, .ref qm, .ref ql, .int ll])), (qw, .inl (k2, 200, .inr (.inl fw))), (qc, .inl (k3, 200, .inr (.inl fc))), (qn, .inl (k4, 200, .inr (.inl fn))), (qm, .inl (k5, 200, .inr (.inl fm)))] sz) := by
  refine Met.ofW (cc := cX0_move) (maxL := 10) (ret := (some .int)) (by decide) rfl ?_
  intro p e s m args below meth c s₁ B hml hv
  obtain ⟨rfl, hsz, hP, hK, hD0⟩ := hv
  have hx := B.exec
  have hb := B.bytes
  have hr := B.returns
  have hts := atoms_spec (ws := wsX0_move) B.pre
  have hown : s.vm.findClass RX0 = some m.cls := findClass_of_methodNamed B.named
  have hlocks := B.notSynchronized
  have hinX0 : ∀ w ∈ wsX00, w ∈ wsX0_move := by decide +kernel
  subst hsz
  have hD := hD0.self (sz := s.heap.size)
  generalize hAe : va_A [(h0, .inr (0, [.int d, .int tk, .ref qo, .ref qw, .ref qc, .ref qn, .ref qm, .ref ql, .int ll])), (qw, .inl (k2, 200, .inr (.inl fw))), (qc, .inl (k3, 200, .inr (.inl fc))), (qn, .inl (k4, 200, .inr (.inl fn))), (qm, .inl (k5, 200, .inr (.inl fm)))] s.heap.size = A at hD ⊢
  have hA : ∀ q : Nat, s.heap.size ≤ q → A q := fun q h => by rw [← hAe]; exact Or.inr h
  have hS : va_S A s.heap s.heap [] := va_S.rf
  have hl := lv_entry ([.ref h0, .int x, .long v]) (n := 10) (Nat.le_of_ble_eq_true rfl)
  rw [lg_entry_eq]
  generalize (lg_sl ([.ref h0, .int x, .long v]) ++ List.replicate (10 - (lg_sl ([.ref h0, .int x, .long v])).length) Slot.unset).toArray = ls at hl ⊢
  have hl : lv_has ls 10 [(0, .ref h0), (1, .int x), (2, .long v)] := hl
  refine lv_iload_n hx hb dX0_move_0 rfl (lv_at hl 1 rfl) ?_
  have hKc := hK.sub (tys' := []) [] rfl
  refine va_calli (va_runS (As := [.int x]) (rest := []) ⟨hx, hb, hml, hown, hts⟩ (cX_isPosition l dC dI x) (va_cwS 1 hts gX0_move_X0_isPosition rfl rfl rfl (by decide +kernel) ⟨Nat.le_of_ble_eq_true rfl, Nat.le_of_ble_eq_true rfl⟩) (dk_rS dk_P0 hKc) rfl rfl hl.1 rfl (lv_room (Nat.le_of_ble_eq_true rfl)) dX0_move_1 ⟨Nat.zero_le _, Nat.zero_le _⟩) hS (fun q _ h => False.elim h) (fun q h => False.elim h) (fun r_1 u8 t8 H1 locs ht8 hvm8 hw hB hz1 hk1 hS => ?_)
  try dsimp only at hw
  have hP := dk_kept hP hk1
  generalize H1 = H at hP hS ⊢
  rcases hw with ⟨rfl, j, hj, rfl⟩ | ⟨rfl, hno⟩
  · refine lv_if_eq (tgt := 17) hx hb dX0_move_4 (by decide) (fun c9 => absurd c9 (by decide)) (fun _ => ?_)
    refine lv_lload_n hx hb dX0_move_7 rfl (lv_at hl 2 rfl) ?_
    refine lv_ldc2 (v := 10000000000000000) hx hb hown (hts (.constantLong RX0 70 10000000000000000) (by decide +kernel)) dX0_move_8 ?_
    have hKc := hK.sub (tys' := []) [] rfl
    refine va_calli (va_runS (As := [.long v, .long 10000000000000000]) (rest := []) ⟨hx, hb, hml, hown, hts⟩ (cX_isWithin l dC dI v 10000000000000000) (va_cwS 2 hts gX0_move_X0_isWithin rfl rfl rfl (by decide +kernel) ⟨Nat.le_of_ble_eq_true rfl, Nat.le_of_ble_eq_true rfl⟩) (dk_rS dk_P0 hKc) rfl rfl hl.1 rfl (lv_room (Nat.le_of_ble_eq_true rfl)) dX0_move_11 ⟨Nat.zero_le _, Nat.zero_le _⟩) hS (fun q _ h => False.elim h) (fun q h => False.elim h) (fun r_11 u8 t8 H1 locs ht8 hvm8 hw hB hz1 hk1 hS => ?_)
    try dsimp only at hw
    have hP := dk_kept hP hk1
    generalize H1 = H at hP hS ⊢
    rcases hw with ⟨rfl, hw1⟩ | ⟨rfl, hw1⟩
    · refine lv_if_ne (tgt := 19) hx hb dX0_move_14 (by decide) (fun _ => ?_) (fun c9 => absurd c9 (by decide))
      refine lv_lload_n hx hb dX0_move_19 rfl (lv_at hl 2 rfl) ?_
      refine lv_lconst (v := 0) hx hb dX0_move_20 (by decide) ?_
      refine W.lcmp hx hb dX0_move_21 ?_
      refine lv_if_ne (tgt := 27) hx hb dX0_move_22 (by decide) (fun c_22 => ?_) (fun c_22 => ?_)
      · have c_22 : ¬ (v = (0 : Int64)) := fun q9 => c_22 ((lg_cmp_eq _ _).mpr q9)
        refine lv_aload_n hx hb dX0_move_27 rfl (lv_at hl 0 rfl) ?_
        refine va_get (D := (dC, dI)) (ci := 0) (v := .ref qn) (C := RX0) (T := TX0) (N := 9) hx hb hts hinX0 hown hK hP 0 rfl rfl 5 (by decide) (hts (.fieldLink RX0 26 "DayDesk" "now" "[J") (by decide +kernel)) (fun _ h9 => h9) rfl dX0_move_28 ?_
        refine lv_iload_n hx hb dX0_move_31 rfl (lv_at hl 1 rfl) ?_
        refine dk_lald hx hb hK hP 3 2 rfl rfl (j := j) (by omega) (by omega) dX0_move_32 ?_
        refine lv_lload_n hx hb dX0_move_33 rfl (lv_at hl 2 rfl) ?_
        refine lv_ladd hx hb dX0_move_34 ?_
        refine lv_lstore (lv' := [(4, .long ((fn j) + v)), (0, .ref h0), (1, .int (nI j)), (2, .long v)]) hx hb dX0_move_35 hl (by decide) rfl (fun ls hl => ?_)
        refine lv_aload_n hx hb dX0_move_37 rfl (lv_at hl 1 rfl) ?_
        refine va_get (D := (dC, dI)) (ci := 0) (v := .ref qw) (C := RX0) (T := TX0) (N := 9) hx hb hts hinX0 hown hK hP 0 rfl rfl 3 (by decide) (hts (.fieldLink RX0 20 "DayDesk" "went" "[J") (by decide +kernel)) (fun _ h9 => h9) rfl dX0_move_38 ?_
        refine lv_iload_n hx hb dX0_move_41 rfl (lv_at hl 2 rfl) ?_
        refine dk_lald hx hb hK hP 1 0 rfl rfl (j := j) (by omega) (by omega) dX0_move_42 ?_
        refine lv_lload_n hx hb dX0_move_43 rfl (lv_at hl 3 rfl) ?_
        refine lv_lconst (v := 0) hx hb dX0_move_44 (by decide) ?_
        refine W.lcmp hx hb dX0_move_45 ?_
        refine lv_if_ge (tgt := 54) hx hb dX0_move_46 (by decide) (fun c_46 => ?_) (fun c_46 => ?_)
        · have c_46 : (0 : Int64) ≤ v := (lg_cmp_ge _ _).mp c_46
          refine lv_lconst (v := 0) hx hb dX0_move_54 (by decide) ?_
          refine dk_asl (y := dk_neg v) (by first | exact dk_neg_ge c_46 | exact dk_neg_lt c_46) ?_
          refine lv_ladd hx hb dX0_move_55 ?_
          refine lv_lstore (lv' := [(6, .long ((fw j) + (dk_neg v))), (4, .long ((fn j) + v)), (0, .ref h0), (1, .int (nI j)), (2, .long v)]) hx hb dX0_move_56 hl (by decide) rfl (fun ls hl => ?_)
          refine lv_aload_n hx hb dX0_move_58 rfl (lv_at hl 2 rfl) ?_
          refine va_get (D := (dC, dI)) (ci := 0) (v := .ref qc) (C := RX0) (T := TX0) (N := 9) hx hb hts hinX0 hown hK hP 0 rfl rfl 4 (by decide) (hts (.fieldLink RX0 23 "DayDesk" "came" "[J") (by decide +kernel)) (fun _ h9 => h9) rfl dX0_move_59 ?_
          refine lv_iload_n hx hb dX0_move_62 rfl (lv_at hl 3 rfl) ?_
          refine dk_lald hx hb hK hP 2 1 rfl rfl (j := j) (by omega) (by omega) dX0_move_63 ?_
          refine lv_lload_n hx hb dX0_move_64 rfl (lv_at hl 4 rfl) ?_
          refine lv_lconst (v := 0) hx hb dX0_move_65 (by decide) ?_
          refine W.lcmp hx hb dX0_move_66 ?_
          refine lv_if_le (tgt := 74) hx hb dX0_move_67 (by decide) (fun c_67 => ?_) (fun c_67 => ?_)
          · have c_67 : v ≤ (0 : Int64) := (lg_cmp_le _ _).mp c_67
            exact absurd (dk_lanti c_46 c_67) c_22
          · have c_67 : ¬ (v ≤ (0 : Int64)) := fun q9 => c_67 ((lg_cmp_le _ _).mpr q9)
            refine lv_lload_n hx hb dX0_move_70 rfl (lv_at hl 4 rfl) ?_
            refine lv_goto (tgt := 75) hx hb dX0_move_71 (by decide) ?_
            refine dk_asl (y := dk_ps v) (by first | exact dk_ps_le c_67 | exact dk_ps_gt c_67) ?_
            refine lv_ladd hx hb dX0_move_75 ?_
            refine lv_lstore (lv' := [(8, .long ((fc j) + (dk_ps v))), (6, .long ((fw j) + (dk_neg v))), (4, .long ((fn j) + v)), (0, .ref h0), (1, .int (nI j)), (2, .long v)]) hx hb dX0_move_76 hl (by decide) rfl (fun ls hl => ?_)
            refine lv_lload hx hb dX0_move_78 (lv_at hl 2 rfl) ?_
            refine lv_ldc2 (v := 9000000000000000000) hx hb hown (hts (.constantLong RX0 76 9000000000000000000) (by decide +kernel)) dX0_move_80 ?_
            have hKc := hK.sub (tys' := []) [] rfl
            refine va_calli (va_runS (As := [.long ((fn j) + v), .long 9000000000000000000]) (rest := []) ⟨hx, hb, hml, hown, hts⟩ (cX_isWithin l dC dI ((fn j) + v) 9000000000000000000) (va_cwS 2 hts gX0_move_X0_isWithin rfl rfl rfl (by decide +kernel) ⟨Nat.le_of_ble_eq_true rfl, Nat.le_of_ble_eq_true rfl⟩) (dk_rS dk_P0 hKc) rfl rfl hl.1 rfl (lv_room (Nat.le_of_ble_eq_true rfl)) dX0_move_83 ⟨Nat.zero_le _, Nat.zero_le _⟩) hS (fun q _ h => False.elim h) (fun q h => False.elim h) (fun r_83 u8 t8 H1 locs ht8 hvm8 hw hB hz1 hk1 hS => ?_)
            try dsimp only at hw
            have hP := dk_kept hP hk1
            generalize H1 = H at hP hS ⊢
            rcases hw with ⟨rfl, hw2⟩ | ⟨rfl, hw2⟩
            · refine lv_if_eq (tgt := 111) hx hb dX0_move_86 (by decide) (fun c9 => absurd c9 (by decide)) (fun _ => ?_)
              refine lv_lload hx hb dX0_move_89 (lv_at hl 1 rfl) ?_
              refine lv_ldc2 (v := 9000000000000000000) hx hb hown (hts (.constantLong RX0 76 9000000000000000000) (by decide +kernel)) dX0_move_91 ?_
              have hKc := hK.sub (tys' := []) [] rfl
              refine va_calli (va_runS (As := [.long ((fw j) + (dk_neg v)), .long 9000000000000000000]) (rest := []) ⟨hx, hb, hml, hown, hts⟩ (cX_isWithin l dC dI ((fw j) + (dk_neg v)) 9000000000000000000) (va_cwS 2 hts gX0_move_X0_isWithin rfl rfl rfl (by decide +kernel) ⟨Nat.le_of_ble_eq_true rfl, Nat.le_of_ble_eq_true rfl⟩) (dk_rS dk_P0 hKc) rfl rfl hl.1 rfl (lv_room (Nat.le_of_ble_eq_true rfl)) dX0_move_94 ⟨Nat.zero_le _, Nat.zero_le _⟩) hS (fun q _ h => False.elim h) (fun q h => False.elim h) (fun r_94 u8 t8 H1 locs ht8 hvm8 hw hB hz1 hk1 hS => ?_)
              try dsimp only at hw
              have hP := dk_kept hP hk1
              generalize H1 = H at hP hS ⊢
              rcases hw with ⟨rfl, hw3⟩ | ⟨rfl, hw3⟩
              · refine lv_if_eq (tgt := 111) hx hb dX0_move_97 (by decide) (fun c9 => absurd c9 (by decide)) (fun _ => ?_)
                refine lv_lload hx hb dX0_move_100 (lv_at hl 0 rfl) ?_
                refine lv_ldc2 (v := 9000000000000000000) hx hb hown (hts (.constantLong RX0 76 9000000000000000000) (by decide +kernel)) dX0_move_102 ?_
                have hKc := hK.sub (tys' := []) [] rfl
                refine va_calli (va_runS (As := [.long ((fc j) + (dk_ps v)), .long 9000000000000000000]) (rest := []) ⟨hx, hb, hml, hown, hts⟩ (cX_isWithin l dC dI ((fc j) + (dk_ps v)) 9000000000000000000) (va_cwS 2 hts gX0_move_X0_isWithin rfl rfl rfl (by decide +kernel) ⟨Nat.le_of_ble_eq_true rfl, Nat.le_of_ble_eq_true rfl⟩) (dk_rS dk_P0 hKc) rfl rfl hl.1 rfl (lv_room (Nat.le_of_ble_eq_true rfl)) dX0_move_105 ⟨Nat.zero_le _, Nat.zero_le _⟩) hS (fun q _ h => False.elim h) (fun q h => False.elim h) (fun r_105 u8 t8 H1 locs ht8 hvm8 hw hB hz1 hk1 hS => ?_)
                try dsimp only at hw
                have hP := dk_kept hP hk1
                generalize H1 = H at hP hS ⊢
                rcases hw with ⟨rfl, hw4⟩ | ⟨rfl, hw4⟩
                · refine lv_if_ne (tgt := 113) hx hb dX0_move_108 (by decide) (fun _ => ?_) (fun c9 => absurd c9 (by decide))
                  refine lv_aload_n hx hb dX0_move_113 rfl (lv_at hl 3 rfl) ?_
                  refine va_get (D := (dC, dI)) (ci := 0) (v := .ref qn) (C := RX0) (T := TX0) (N := 9) hx hb hts hinX0 hown hK hP 0 rfl rfl 5 (by decide) (hts (.fieldLink RX0 26 "DayDesk" "now" "[J") (by decide +kernel)) (fun _ h9 => h9) rfl dX0_move_114 ?_
                  refine lv_iload_n hx hb dX0_move_117 rfl (lv_at hl 4 rfl) ?_
                  refine lv_lload hx hb dX0_move_118 (lv_at hl 2 rfl) ?_
                  refine dk_last hx hb hK hP hD hS 3 2 rfl rfl (j := j) (by omega) (by omega) dX0_move_120 (fun H locs hP hD hS => ?_)
                  have hP : va_P (dC, dI) vwCl [(h0, .inr (0, [.int d, .int tk, .ref qo, .ref qw, .ref qc, .ref qn, .ref qm, .ref ql, .int ll])), (qw, .inl (k2, 200, .inr (.inl fw))), (qc, .inl (k3, 200, .inr (.inl fc))), (qn, .inl (k4, 200, .inr (.inl (vp_updL fn j ((fn j) + v))))), (qm, .inl (k5, 200, .inr (.inl fm)))] H := hP
                  have hD : va_D A [(h0, .inr (0, [.int d, .int tk, .ref qo, .ref qw, .ref qc, .ref qn, .ref qm, .ref ql, .int ll])), (qw, .inl (k2, 200, .inr (.inl fw))), (qc, .inl (k3, 200, .inr (.inl fc))), (qn, .inl (k4, 200, .inr (.inl (vp_updL fn j ((fn j) + v))))), (qm, .inl (k5, 200, .inr (.inl fm)))] := hD
                  refine lv_aload_n hx hb dX0_move_121 rfl (lv_at hl 3 rfl) ?_
                  refine va_get (D := (dC, dI)) (ci := 0) (v := .ref qw) (C := RX0) (T := TX0) (N := 9) hx hb hts hinX0 hown hK hP 0 rfl rfl 3 (by decide) (hts (.fieldLink RX0 20 "DayDesk" "went" "[J") (by decide +kernel)) (fun _ h9 => h9) rfl dX0_move_122 ?_
                  refine lv_iload_n hx hb dX0_move_125 rfl (lv_at hl 4 rfl) ?_
                  refine lv_lload hx hb dX0_move_126 (lv_at hl 1 rfl) ?_
                  refine dk_last hx hb hK hP hD hS 1 0 rfl rfl (j := j) (by omega) (by omega) dX0_move_128 (fun H locs hP hD hS => ?_)
                  have hP : va_P (dC, dI) vwCl [(h0, .inr (0, [.int d, .int tk, .ref qo, .ref qw, .ref qc, .ref qn, .ref qm, .ref ql, .int ll])), (qw, .inl (k2, 200, .inr (.inl (vp_updL fw j ((fw j) + (dk_neg v)))))), (qc, .inl (k3, 200, .inr (.inl fc))), (qn, .inl (k4, 200, .inr (.inl (vp_updL fn j ((fn j) + v))))), (qm, .inl (k5, 200, .inr (.inl fm)))] H := hP
                  have hD : va_D A [(h0, .inr (0, [.int d, .int tk, .ref qo, .ref qw, .ref qc, .ref qn, .ref qm, .ref ql, .int ll])), (qw, .inl (k2, 200, .inr (.inl (vp_updL fw j ((fw j) + (dk_neg v)))))), (qc, .inl (k3, 200, .inr (.inl fc))), (qn, .inl (k4, 200, .inr (.inl (vp_updL fn j ((fn j) + v))))), (qm, .inl (k5, 200, .inr (.inl fm)))] := hD
                  refine lv_aload_n hx hb dX0_move_129 rfl (lv_at hl 3 rfl) ?_
                  refine va_get (D := (dC, dI)) (ci := 0) (v := .ref qc) (C := RX0) (T := TX0) (N := 9) hx hb hts hinX0 hown hK hP 0 rfl rfl 4 (by decide) (hts (.fieldLink RX0 23 "DayDesk" "came" "[J") (by decide +kernel)) (fun _ h9 => h9) rfl dX0_move_130 ?_
                  refine lv_iload_n hx hb dX0_move_133 rfl (lv_at hl 4 rfl) ?_
                  refine lv_lload hx hb dX0_move_134 (lv_at hl 0 rfl) ?_
                  refine dk_last hx hb hK hP hD hS 2 1 rfl rfl (j := j) (by omega) (by omega) dX0_move_136 (fun H locs hP hD hS => ?_)
                  have hP : va_P (dC, dI) vwCl [(h0, .inr (0, [.int d, .int tk, .ref qo, .ref qw, .ref qc, .ref qn, .ref qm, .ref ql, .int ll])), (qw, .inl (k2, 200, .inr (.inl (vp_updL fw j ((fw j) + (dk_neg v)))))), (qc, .inl (k3, 200, .inr (.inl (vp_updL fc j ((fc j) + (dk_ps v)))))), (qn, .inl (k4, 200, .inr (.inl (vp_updL fn j ((fn j) + v))))), (qm, .inl (k5, 200, .inr (.inl fm)))] H := hP
                  have hD : va_D A [(h0, .inr (0, [.int d, .int tk, .ref qo, .ref qw, .ref qc, .ref qn, .ref qm, .ref ql, .int ll])), (qw, .inl (k2, 200, .inr (.inl (vp_updL fw j ((fw j) + (dk_neg v)))))), (qc, .inl (k3, 200, .inr (.inl (vp_updL fc j ((fc j) + (dk_ps v)))))), (qn, .inl (k4, 200, .inr (.inl (vp_updL fn j ((fn j) + v))))), (qm, .inl (k5, 200, .inr (.inl fm)))] := hD
                  refine lv_aload_n hx hb dX0_move_137 rfl (lv_at hl 3 rfl) ?_
                  refine va_get (D := (dC, dI)) (ci := 0) (v := .ref qm) (C := RX0) (T := TX0) (N := 9) hx hb hts hinX0 hown hK hP 0 rfl rfl 6 (by decide) (hts (.fieldLink RX0 29 "DayDesk" "moved" "[J") (by decide +kernel)) (fun _ h9 => h9) rfl dX0_move_138 ?_
                  refine lv_iload_n hx hb dX0_move_141 rfl (lv_at hl 4 rfl) ?_
                  refine lv_dup2_11 hx hb dX0_move_142 rfl rfl ?_
                  refine dk_lald hx hb hK hP 4 3 rfl rfl (j := j) (by omega) (by omega) dX0_move_143 ?_
                  refine lv_lconst (v := 1) hx hb dX0_move_144 (by decide) ?_
                  refine lv_ladd hx hb dX0_move_145 ?_
                  refine dk_last hx hb hK hP hD hS 4 3 rfl rfl (j := j) (by omega) (by omega) dX0_move_146 (fun H locs hP hD hS => ?_)
                  have hP : va_P (dC, dI) vwCl [(h0, .inr (0, [.int d, .int tk, .ref qo, .ref qw, .ref qc, .ref qn, .ref qm, .ref ql, .int ll])), (qw, .inl (k2, 200, .inr (.inl (vp_updL fw j ((fw j) + (dk_neg v)))))), (qc, .inl (k3, 200, .inr (.inl (vp_updL fc j ((fc j) + (dk_ps v)))))), (qn, .inl (k4, 200, .inr (.inl (vp_updL fn j ((fn j) + v))))), (qm, .inl (k5, 200, .inr (.inl (vp_updL fm j ((fm j) + 1)))))] H := hP
                  have hD : va_D A [(h0, .inr (0, [.int d, .int tk, .ref qo, .ref qw, .ref qc, .ref qn, .ref qm, .ref ql, .int ll])), (qw, .inl (k2, 200, .inr (.inl (vp_updL fw j ((fw j) + (dk_neg v)))))), (qc, .inl (k3, 200, .inr (.inl (vp_updL fc j ((fc j) + (dk_ps v)))))), (qn, .inl (k4, 200, .inr (.inl (vp_updL fn j ((fn j) + v))))), (qm, .inl (k5, 200, .inr (.inl (vp_updL fm j ((fm j) + 1)))))] := hD
                  refine lv_iconst (v := 1) hx hb dX0_move_147 (by decide) ?_
                  exact W.iret (v := 1) hx hb hr (fun z8 hz8 hW8 => ⟨⟨1, (vp_updL fw j (fw j + dk_neg v), vp_updL fc j (fc j + dk_ps v), vp_updL fn j (fn j + v), vp_updL fm j (fm j + 1)), rfl, Or.inr (Or.inr ⟨rfl, j, hj, rfl, hw1, c_22, hw2, hw3, hw4, rfl, rfl, rfl, rfl⟩), by rw [hz8]; exact hP, hD⟩, hS.F hz8⟩) hS.2.2 dX0_move_148
                · refine lv_if_ne (tgt := 113) hx hb dX0_move_108 (by decide) (fun c9 => absurd (by decide) c9) (fun _ => ?_)
                  refine lv_iconst (v := (-1)) hx hb dX0_move_111 (by decide) ?_
                  exact W.iret (v := (-1)) hx hb hr (fun z8 hz8 hW8 => ⟨⟨(-1), (fw, fc, fn, fm), rfl, Or.inl ⟨rfl, rfl, rfl, rfl, rfl, Or.inr (Or.inr ⟨j, hj, rfl, c_22, fun q9 => by first | exact hw2 q9.1 | exact hw3 q9.2.1 | exact hw4 q9.2.2⟩)⟩, by rw [hz8]; exact hP, hD⟩, hS.F hz8⟩) hS.2.2 dX0_move_112
              · refine lv_if_eq (tgt := 111) hx hb dX0_move_97 (by decide) (fun _ => ?_) (fun c9 => absurd (by decide) c9)
                refine lv_iconst (v := (-1)) hx hb dX0_move_111 (by decide) ?_
                exact W.iret (v := (-1)) hx hb hr (fun z8 hz8 hW8 => ⟨⟨(-1), (fw, fc, fn, fm), rfl, Or.inl ⟨rfl, rfl, rfl, rfl, rfl, Or.inr (Or.inr ⟨j, hj, rfl, c_22, fun q9 => by first | exact hw2 q9.1 | exact hw3 q9.2.1 | exact hw4 q9.2.2⟩)⟩, by rw [hz8]; exact hP, hD⟩, hS.F hz8⟩) hS.2.2 dX0_move_112
            · refine lv_if_eq (tgt := 111) hx hb dX0_move_86 (by decide) (fun _ => ?_) (fun c9 => absurd (by decide) c9)
              refine lv_iconst (v := (-1)) hx hb dX0_move_111 (by decide) ?_
              exact W.iret (v := (-1)) hx hb hr (fun z8 hz8 hW8 => ⟨⟨(-1), (fw, fc, fn, fm), rfl, Or.inl ⟨rfl, rfl, rfl, rfl, rfl, Or.inr (Or.inr ⟨j, hj, rfl, c_22, fun q9 => by first | exact hw2 q9.1 | exact hw3 q9.2.1 | exact hw4 q9.2.2⟩)⟩, by rw [hz8]; exact hP, hD⟩, hS.F hz8⟩) hS.2.2 dX0_move_112
        · have c_46 : ¬ ((0 : Int64) ≤ v) := fun q9 => c_46 ((lg_cmp_ge _ _).mpr q9)
          refine lv_lload_n hx hb dX0_move_49 rfl (lv_at hl 3 rfl) ?_
          refine lv_lneg hx hb dX0_move_50 ?_
          refine lv_goto (tgt := 55) hx hb dX0_move_51 (by decide) ?_
          refine dk_asl (y := dk_neg v) (by first | exact dk_neg_ge c_46 | exact dk_neg_lt c_46) ?_
          refine lv_ladd hx hb dX0_move_55 ?_
          refine lv_lstore (lv' := [(6, .long ((fw j) + (dk_neg v))), (4, .long ((fn j) + v)), (0, .ref h0), (1, .int (nI j)), (2, .long v)]) hx hb dX0_move_56 hl (by decide) rfl (fun ls hl => ?_)
          refine lv_aload_n hx hb dX0_move_58 rfl (lv_at hl 2 rfl) ?_
          refine va_get (D := (dC, dI)) (ci := 0) (v := .ref qc) (C := RX0) (T := TX0) (N := 9) hx hb hts hinX0 hown hK hP 0 rfl rfl 4 (by decide) (hts (.fieldLink RX0 23 "DayDesk" "came" "[J") (by decide +kernel)) (fun _ h9 => h9) rfl dX0_move_59 ?_
          refine lv_iload_n hx hb dX0_move_62 rfl (lv_at hl 3 rfl) ?_
          refine dk_lald hx hb hK hP 2 1 rfl rfl (j := j) (by omega) (by omega) dX0_move_63 ?_
          refine lv_lload_n hx hb dX0_move_64 rfl (lv_at hl 4 rfl) ?_
          refine lv_lconst (v := 0) hx hb dX0_move_65 (by decide) ?_
          refine W.lcmp hx hb dX0_move_66 ?_
          refine lv_if_le (tgt := 74) hx hb dX0_move_67 (by decide) (fun c_67 => ?_) (fun c_67 => ?_)
          · have c_67 : v ≤ (0 : Int64) := (lg_cmp_le _ _).mp c_67
            refine lv_lconst (v := 0) hx hb dX0_move_74 (by decide) ?_
            refine dk_asl (y := dk_ps v) (by first | exact dk_ps_le c_67 | exact dk_ps_gt c_67) ?_
            refine lv_ladd hx hb dX0_move_75 ?_
            refine lv_lstore (lv' := [(8, .long ((fc j) + (dk_ps v))), (6, .long ((fw j) + (dk_neg v))), (4, .long ((fn j) + v)), (0, .ref h0), (1, .int (nI j)), (2, .long v)]) hx hb dX0_move_76 hl (by decide) rfl (fun ls hl => ?_)
            refine lv_lload hx hb dX0_move_78 (lv_at hl 2 rfl) ?_
            refine lv_ldc2 (v := 9000000000000000000) hx hb hown (hts (.constantLong RX0 76 9000000000000000000) (by decide +kernel)) dX0_move_80 ?_
            have hKc := hK.sub (tys' := []) [] rfl
            refine va_calli (va_runS (As := [.long ((fn j) + v), .long 9000000000000000000]) (rest := []) ⟨hx, hb, hml, hown, hts⟩ (cX_isWithin l dC dI ((fn j) + v) 9000000000000000000) (va_cwS 2 hts gX0_move_X0_isWithin rfl rfl rfl (by decide +kernel) ⟨Nat.le_of_ble_eq_true rfl, Nat.le_of_ble_eq_true rfl⟩) (dk_rS dk_P0 hKc) rfl rfl hl.1 rfl (lv_room (Nat.le_of_ble_eq_true rfl)) dX0_move_83 ⟨Nat.zero_le _, Nat.zero_le _⟩) hS (fun q _ h => False.elim h) (fun q h => False.elim h) (fun r_83 u8 t8 H1 locs ht8 hvm8 hw hB hz1 hk1 hS => ?_)
            try dsimp only at hw
            have hP := dk_kept hP hk1
            generalize H1 = H at hP hS ⊢
            rcases hw with ⟨rfl, hw2⟩ | ⟨rfl, hw2⟩
            · refine lv_if_eq (tgt := 111) hx hb dX0_move_86 (by decide) (fun c9 => absurd c9 (by decide)) (fun _ => ?_)
              refine lv_lload hx hb dX0_move_89 (lv_at hl 1 rfl) ?_
              refine lv_ldc2 (v := 9000000000000000000) hx hb hown (hts (.constantLong RX0 76 9000000000000000000) (by decide +kernel)) dX0_move_91 ?_
              have hKc := hK.sub (tys' := []) [] rfl
              refine va_calli (va_runS (As := [.long ((fw j) + (dk_neg v)), .long 9000000000000000000]) (rest := []) ⟨hx, hb, hml, hown, hts⟩ (cX_isWithin l dC dI ((fw j) + (dk_neg v)) 9000000000000000000) (va_cwS 2 hts gX0_move_X0_isWithin rfl rfl rfl (by decide +kernel) ⟨Nat.le_of_ble_eq_true rfl, Nat.le_of_ble_eq_true rfl⟩) (dk_rS dk_P0 hKc) rfl rfl hl.1 rfl (lv_room (Nat.le_of_ble_eq_true rfl)) dX0_move_94 ⟨Nat.zero_le _, Nat.zero_le _⟩) hS (fun q _ h => False.elim h) (fun q h => False.elim h) (fun r_94 u8 t8 H1 locs ht8 hvm8 hw hB hz1 hk1 hS => ?_)
              try dsimp only at hw
              have hP := dk_kept hP hk1
              generalize H1 = H at hP hS ⊢
              rcases hw with ⟨rfl, hw3⟩ | ⟨rfl, hw3⟩
              · refine lv_if_eq (tgt := 111) hx hb dX0_move_97 (by decide) (fun c9 => absurd c9 (by decide)) (fun _ => ?_)
                refine lv_lload hx hb dX0_move_100 (lv_at hl 0 rfl) ?_
                refine lv_ldc2 (v := 9000000000000000000) hx hb hown (hts (.constantLong RX0 76 9000000000000000000) (by decide +kernel)) dX0_move_102 ?_
                have hKc := hK.sub (tys' := []) [] rfl
                refine va_calli (va_runS (As := [.long ((fc j) + (dk_ps v)), .long 9000000000000000000]) (rest := []) ⟨hx, hb, hml, hown, hts⟩ (cX_isWithin l dC dI ((fc j) + (dk_ps v)) 9000000000000000000) (va_cwS 2 hts gX0_move_X0_isWithin rfl rfl rfl (by decide +kernel) ⟨Nat.le_of_ble_eq_true rfl, Nat.le_of_ble_eq_true rfl⟩) (dk_rS dk_P0 hKc) rfl rfl hl.1 rfl (lv_room (Nat.le_of_ble_eq_true rfl)) dX0_move_105 ⟨Nat.zero_le _, Nat.zero_le _⟩) hS (fun q _ h => False.elim h) (fun q h => False.elim h) (fun r_105 u8 t8 H1 locs ht8 hvm8 hw hB hz1 hk1 hS => ?_)
                try dsimp only at hw
                have hP := dk_kept hP hk1
                generalize H1 = H at hP hS ⊢
                rcases hw with ⟨rfl, hw4⟩ | ⟨rfl, hw4⟩
                · refine lv_if_ne (tgt := 113) hx hb dX0_move_108 (by decide) (fun _ => ?_) (fun c9 => absurd c9 (by decide))
                  refine lv_aload_n hx hb dX0_move_113 rfl (lv_at hl 3 rfl) ?_
                  refine va_get (D := (dC, dI)) (ci := 0) (v := .ref qn) (C := RX0) (T := TX0) (N := 9) hx hb hts hinX0 hown hK hP 0 rfl rfl 5 (by decide) (hts (.fieldLink RX0 26 "DayDesk" "now" "[J") (by decide +kernel)) (fun _ h9 => h9) rfl dX0_move_114 ?_
                  refine lv_iload_n hx hb dX0_move_117 rfl (lv_at hl 4 rfl) ?_
                  refine lv_lload hx hb dX0_move_118 (lv_at hl 2 rfl) ?_
                  refine dk_last hx hb hK hP hD hS 3 2 rfl rfl (j := j) (by omega) (by omega) dX0_move_120 (fun H locs hP hD hS => ?_)
                  have hP : va_P (dC, dI) vwCl [(h0, .inr (0, [.int d, .int tk, .ref qo, .ref qw, .ref qc, .ref qn, .ref qm, .ref ql, .int ll])), (qw, .inl (k2, 200, .inr (.inl fw))), (qc, .inl (k3, 200, .inr (.inl fc))), (qn, .inl (k4, 200, .inr (.inl (vp_updL fn j ((fn j) + v))))), (qm, .inl (k5, 200, .inr (.inl fm)))] H := hP
                  have hD : va_D A [(h0, .inr (0, [.int d, .int tk, .ref qo, .ref qw, .ref qc, .ref qn, .ref qm, .ref ql, .int ll])), (qw, .inl (k2, 200, .inr (.inl fw))), (qc, .inl (k3, 200, .inr (.inl fc))), (qn, .inl (k4, 200, .inr (.inl (vp_updL fn j ((fn j) + v))))), (qm, .inl (k5, 200, .inr (.inl fm)))] := hD
                  refine lv_aload_n hx hb dX0_move_121 rfl (lv_at hl 3 rfl) ?_
                  refine va_get (D := (dC, dI)) (ci := 0) (v := .ref qw) (C := RX0) (T := TX0) (N := 9) hx hb hts hinX0 hown hK hP 0 rfl rfl 3 (by decide) (hts (.fieldLink RX0 20 "DayDesk" "went" "[J") (by decide +kernel)) (fun _ h9 => h9) rfl dX0_move_122 ?_
                  refine lv_iload_n hx hb dX0_move_125 rfl (lv_at hl 4 rfl) ?_
                  refine lv_lload hx hb dX0_move_126 (lv_at hl 1 rfl) ?_
                  refine dk_last hx hb hK hP hD hS 1 0 rfl rfl (j := j) (by omega) (by omega) dX0_move_128 (fun H locs hP hD hS => ?_)
                  have hP : va_P (dC, dI) vwCl [(h0, .inr (0, [.int d, .int tk, .ref qo, .ref qw, .ref qc, .ref qn, .ref qm, .ref ql, .int ll])), (qw, .inl (k2, 200, .inr (.inl (vp_updL fw j ((fw j) + (dk_neg v)))))), (qc, .inl (k3, 200, .inr (.inl fc))), (qn, .inl (k4, 200, .inr (.inl (vp_updL fn j ((fn j) + v))))), (qm, .inl (k5, 200, .inr (.inl fm)))] H := hP
                  have hD : va_D A [(h0, .inr (0, [.int d, .int tk, .ref qo, .ref qw, .ref qc, .ref qn, .ref qm, .ref ql, .int ll])), (qw, .inl (k2, 200, .inr (.inl (vp_updL fw j ((fw j) + (dk_neg v)))))), (qc, .inl (k3, 200, .inr (.inl fc))), (qn, .inl (k4, 200, .inr (.inl (vp_updL fn j ((fn j) + v))))), (qm, .inl (k5, 200, .inr (.inl fm)))] := hD
                  refine lv_aload_n hx hb dX0_move_129 rfl (lv_at hl 3 rfl) ?_
                  refine va_get (D := (dC, dI)) (ci := 0) (v := .ref qc) (C := RX0) (T := TX0) (N := 9) hx hb hts hinX0 hown hK hP 0 rfl rfl 4 (by decide) (hts (.fieldLink RX0 23 "DayDesk" "came" "[J") (by decide +kernel)) (fun _ h9 => h9) rfl dX0_move_130 ?_
                  refine lv_iload_n hx hb dX0_move_133 rfl (lv_at hl 4 rfl) ?_
                  refine lv_lload hx hb dX0_move_134 (lv_at hl 0 rfl) ?_
                  refine dk_last hx hb hK hP hD hS 2 1 rfl rfl (j := j) (by omega) (by omega) dX0_move_136 (fun H locs hP hD hS => ?_)
                  have hP : va_P (dC, dI) vwCl [(h0, .inr (0, [.int d, .int tk, .ref qo, .ref qw, .ref qc, .ref qn, .ref qm, .ref ql, .int ll])), (qw, .inl (k2, 200, .inr (.inl (vp_updL fw j ((fw j) + (dk_neg v)))))), (qc, .inl (k3, 200, .inr (.inl (vp_updL fc j ((fc j) + (dk_ps v)))))), (qn, .inl (k4, 200, .inr (.inl (vp_updL fn j ((fn j) + v))))), (qm, .inl (k5, 200, .inr (.inl fm)))] H := hP
                  have hD : va_D A [(h0, .inr (0, [.int d, .int tk, .ref qo, .ref qw, .ref qc, .ref qn, .ref qm, .ref ql, .int ll])), (qw, .inl (k2, 200, .inr (.inl (vp_updL fw j ((fw j) + (dk_neg v)))))), (qc, .inl (k3, 200, .inr (.inl (vp_updL fc j ((fc j) + (dk_ps v)))))), (qn, .inl (k4, 200, .inr (.inl (vp_updL fn j ((fn j) + v))))), (qm, .inl (k5, 200, .inr (.inl fm)))] := hD
                  refine lv_aload_n hx hb dX0_move_137 rfl (lv_at hl 3 rfl) ?_
                  refine va_get (D := (dC, dI)) (ci := 0) (v := .ref qm) (C := RX0) (T := TX0) (N := 9) hx hb hts hinX0 hown hK hP 0 rfl rfl 6 (by decide) (hts (.fieldLink RX0 29 "DayDesk" "moved" "[J") (by decide +kernel)) (fun _ h9 => h9) rfl dX0_move_138 ?_
                  refine lv_iload_n hx hb dX0_move_141 rfl (lv_at hl 4 rfl) ?_
                  refine lv_dup2_11 hx hb dX0_move_142 rfl rfl ?_
                  refine dk_lald hx hb hK hP 4 3 rfl rfl (j := j) (by omega) (by omega) dX0_move_143 ?_
                  refine lv_lconst (v := 1) hx hb dX0_move_144 (by decide) ?_
                  refine lv_ladd hx hb dX0_move_145 ?_
                  refine dk_last hx hb hK hP hD hS 4 3 rfl rfl (j := j) (by omega) (by omega) dX0_move_146 (fun H locs hP hD hS => ?_)
                  have hP : va_P (dC, dI) vwCl [(h0, .inr (0, [.int d, .int tk, .ref qo, .ref qw, .ref qc, .ref qn, .ref qm, .ref ql, .int ll])), (qw, .inl (k2, 200, .inr (.inl (vp_updL fw j ((fw j) + (dk_neg v)))))), (qc, .inl (k3, 200, .inr (.inl (vp_updL fc j ((fc j) + (dk_ps v)))))), (qn, .inl (k4, 200, .inr (.inl (vp_updL fn j ((fn j) + v))))), (qm, .inl (k5, 200, .inr (.inl (vp_updL fm j ((fm j) + 1)))))] H := hP
                  have hD : va_D A [(h0, .inr (0, [.int d, .int tk, .ref qo, .ref qw, .ref qc, .ref qn, .ref qm, .ref ql, .int ll])), (qw, .inl (k2, 200, .inr (.inl (vp_updL fw j ((fw j) + (dk_neg v)))))), (qc, .inl (k3, 200, .inr (.inl (vp_updL fc j ((fc j) + (dk_ps v)))))), (qn, .inl (k4, 200, .inr (.inl (vp_updL fn j ((fn j) + v))))), (qm, .inl (k5, 200, .inr (.inl (vp_updL fm j ((fm j) + 1)))))] := hD
                  refine lv_iconst (v := 1) hx hb dX0_move_147 (by decide) ?_
                  exact W.iret (v := 1) hx hb hr (fun z8 hz8 hW8 => ⟨⟨1, (vp_updL fw j (fw j + dk_neg v), vp_updL fc j (fc j + dk_ps v), vp_updL fn j (fn j + v), vp_updL fm j (fm j + 1)), rfl, Or.inr (Or.inr ⟨rfl, j, hj, rfl, hw1, c_22, hw2, hw3, hw4, rfl, rfl, rfl, rfl⟩), by rw [hz8]; exact hP, hD⟩, hS.F hz8⟩) hS.2.2 dX0_move_148
                · refine lv_if_ne (tgt := 113) hx hb dX0_move_108 (by decide) (fun c9 => absurd (by decide) c9) (fun _ => ?_)
                  refine lv_iconst (v := (-1)) hx hb dX0_move_111 (by decide) ?_
                  exact W.iret (v := (-1)) hx hb hr (fun z8 hz8 hW8 => ⟨⟨(-1), (fw, fc, fn, fm), rfl, Or.inl ⟨rfl, rfl, rfl, rfl, rfl, Or.inr (Or.inr ⟨j, hj, rfl, c_22, fun q9 => by first | exact hw2 q9.1 | exact hw3 q9.2.1 | exact hw4 q9.2.2⟩)⟩, by rw [hz8]; exact hP, hD⟩, hS.F hz8⟩) hS.2.2 dX0_move_112
              · refine lv_if_eq (tgt := 111) hx hb dX0_move_97 (by decide) (fun _ => ?_) (fun c9 => absurd (by decide) c9)
                refine lv_iconst (v := (-1)) hx hb dX0_move_111 (by decide) ?_
                exact W.iret (v := (-1)) hx hb hr (fun z8 hz8 hW8 => ⟨⟨(-1), (fw, fc, fn, fm), rfl, Or.inl ⟨rfl, rfl, rfl, rfl, rfl, Or.inr (Or.inr ⟨j, hj, rfl, c_22, fun q9 => by first | exact hw2 q9.1 | exact hw3 q9.2.1 | exact hw4 q9.2.2⟩)⟩, by rw [hz8]; exact hP, hD⟩, hS.F hz8⟩) hS.2.2 dX0_move_112
            · refine lv_if_eq (tgt := 111) hx hb dX0_move_86 (by decide) (fun _ => ?_) (fun c9 => absurd (by decide) c9)
              refine lv_iconst (v := (-1)) hx hb dX0_move_111 (by decide) ?_
              exact W.iret (v := (-1)) hx hb hr (fun z8 hz8 hW8 => ⟨⟨(-1), (fw, fc, fn, fm), rfl, Or.inl ⟨rfl, rfl, rfl, rfl, rfl, Or.inr (Or.inr ⟨j, hj, rfl, c_22, fun q9 => by first | exact hw2 q9.1 | exact hw3 q9.2.1 | exact hw4 q9.2.2⟩)⟩, by rw [hz8]; exact hP, hD⟩, hS.F hz8⟩) hS.2.2 dX0_move_112
          · have c_67 : ¬ (v ≤ (0 : Int64)) := fun q9 => c_67 ((lg_cmp_le _ _).mpr q9)
            exact absurd (dk_lnle' c_46) c_67
      · have c_22 : v = (0 : Int64) := (lg_cmp_eq _ _).mp c_22
        refine lv_iconst (v := 0) hx hb dX0_move_25 (by decide) ?_
        exact W.iret (v := 0) hx hb hr (fun z8 hz8 hW8 => ⟨⟨0, (fw, fc, fn, fm), rfl, Or.inr (Or.inl ⟨rfl, rfl, rfl, rfl, rfl, c_22, j, hj, rfl⟩), by rw [hz8]; exact hP, hD⟩, hS.F hz8⟩) hS.2.2 dX0_move_26
    · refine lv_if_ne (tgt := 19) hx hb dX0_move_14 (by decide) (fun c9 => absurd (by decide) c9) (fun _ => ?_)
      refine lv_iconst (v := (-1)) hx hb dX0_move_17 (by decide) ?_
      exact W.iret (v := (-1)) hx hb hr (fun z8 hz8 hW8 => ⟨⟨(-1), (fw, fc, fn, fm), rfl, Or.inl ⟨rfl, rfl, rfl, rfl, rfl, Or.inr (Or.inl hw1)⟩, by rw [hz8]; exact hP, hD⟩, hS.F hz8⟩) hS.2.2 dX0_move_18
  · refine lv_if_eq (tgt := 17) hx hb dX0_move_4 (by decide) (fun _ => ?_) (fun c9 => absurd (by decide) c9)
    refine lv_iconst (v := (-1)) hx hb dX0_move_17 (by decide) ?_
    exact W.iret (v := (-1)) hx hb hr (fun z8 hz8 hW8 => ⟨⟨(-1), (fw, fc, fn, fm), rfl, Or.inl ⟨rfl, rfl, rfl, rfl, rfl, Or.inl hno⟩, by rw [hz8]; exact hP, hD⟩, hS.F hz8⟩) hS.2.2 dX0_move_18
