set_option maxHeartbeats 4000000 in
set_option maxRecDepth 100000 in
/-- row -/
theorem cY_row (l : Launch) (dC : Nat → ClassId) (dI : Nat → Nat → Nat) (g0 a1 a2 a3 a4 : Nat) (i1 i2 i3 : ClassId) (TT : Int64) (k : Nat) (hk9 : k ≤ 520) (w : Int32) (O : Nat → Int64) (mo : Nat → Int32) (mb : Nat → Int64) (x y : Int32) : Met l yX1_row wsX1_row ({ frames := 1, cells := 0, slots := 0, locals := 20 }) (dk_Pr [.ref g0, .int x, .int y] (dC, dI) vwCl [(i1, .long), (i2, .int), (i3, .long)] [(g0, .inr (1, [.long TT, .ref a1, .int (nI k), .ref a2, .ref a3, .int w, .ref a4])), (a1, .inl (i1, 200, .inr (.inl O))), (a2, .inl (i2, 520, .inl mo)), (a3, .inl (i3, 520, .inr (.inl mb)))]) (va_Ql (fun (r : Int64) (_ : Unit) => dk_row O (fun j => dk_yw mo mb (nI j) k) (fun j => dk_yc mo mb (nI j) k) (fun j => dk_y3 O mo mb k j) (fun j => lN (dk_yn mo (nI j) k)) x y r) (fun _ _ => True) dk_no) 0 0 dk_no := by
  refine Met.ofW (cc := cX1_row) (maxL := 10) (ret := (some .long)) (by decide) rfl ?_
  intro p e s m args below meth c s₁ B hml hv
  obtain ⟨rfl, hP, hK⟩ := hv
  have hx := B.exec
  have hb := B.bytes
  have hr := B.returns
  have hts := atoms_spec (ws := wsX1_row) B.pre
  have hown : s.vm.findClass RX1 = some m.cls := findClass_of_methodNamed B.named
  have hlocks := B.notSynchronized
  have hinX1 : ∀ w ∈ wsX10, w ∈ wsX1_row := by decide +kernel
  have hS : va_S dk_no s.heap s.heap [] := va_S.rf
  have hl := lv_entry ([.ref g0, .int x, .int y]) (n := 10) (Nat.le_of_ble_eq_true rfl)
  rw [lg_entry_eq]
  generalize (lg_sl ([.ref g0, .int x, .int y]) ++ List.replicate (10 - (lg_sl ([.ref g0, .int x, .int y])).length) Slot.unset).toArray = ls at hl ⊢
  have hl : lv_has ls 10 [(0, .ref g0), (1, .int x), (2, .int y)] := hl
  refine lv_iload_n hx hb dX1_row_0 rfl (lv_at hl 1 rfl) ?_
  have hKc := hK.sub (tys' := []) [] rfl
  refine va_calli (va_runS (As := [.int x]) (rest := []) ⟨hx, hb, hml, hown, hts⟩ (cY_isPosition l dC dI x) (va_cwS 1 hts gX1_row_X1_isPosition rfl rfl rfl (by decide +kernel) ⟨Nat.le_of_ble_eq_true rfl, Nat.le_of_ble_eq_true rfl⟩) (dk_rS dk_P0 hKc) rfl rfl hl.1 rfl (lv_room (Nat.le_of_ble_eq_true rfl)) dX1_row_1 ⟨Nat.zero_le _, Nat.zero_le _⟩) hS (fun q _ h => False.elim h) (fun q h => False.elim h) (fun r_1 u8 t8 H1 locs ht8 hvm8 hw hB hz1 hk1 hS => ?_)
  try dsimp only at hw
  have hP := dk_kept hP hk1
  generalize H1 = H at hP hS ⊢
  rcases hw with ⟨rfl, j, hj, rfl⟩ | ⟨rfl, hno⟩
  · refine lv_if_eq (tgt := 16) hx hb dX1_row_4 (by decide) (fun c9 => absurd c9 (by decide)) (fun _ => ?_)
    have loop : (∀ ls : Array Slot, lv_has ls 10 [(9, .int (nI k)), (7, .long (lN (dk_yn mo (nI j) k))), (5, .long (dk_yc mo mb (nI j) k)), (3, .long (dk_yw mo mb (nI j) k)), (0, .ref g0), (1, .int (nI j)), (2, .int y)] → W p l e (headSpec wsX1_row ({ frames := 1, cells := 0, slots := 0, locals := 20 })).room s m ([.ref g0, .int (nI j), .int y] : List Value).toArray below meth c H locs 0 0 (MQ below (va_Ql (fun (r : Int64) (_ : Unit) => dk_row O (fun j => dk_yw mo mb (nI j) k) (fun j => dk_yc mo mb (nI j) k) (fun j => dk_y3 O mo mb k j) (fun j => lN (dk_yn mo (nI j) k)) (nI j) y r) (fun _ _ => True) dk_no) ([.ref g0, .int (nI j), .int y] : List Value).toArray s 0 0 dk_no) (F0 m 116 ls [])) → ∀ (f i : Nat), i ≤ k → k + 1 ≤ i + f → ∀ ls : Array Slot, lv_has ls 10 [(9, .int (nI i)), (7, .long (lN (dk_yn mo (nI j) i))), (5, .long (dk_yc mo mb (nI j) i)), (3, .long (dk_yw mo mb (nI j) i)), (0, .ref g0), (1, .int (nI j)), (2, .int y)] → W p l e (headSpec wsX1_row ({ frames := 1, cells := 0, slots := 0, locals := 20 })).room s m ([.ref g0, .int (nI j), .int y] : List Value).toArray below meth c H locs 0 0 (MQ below (va_Ql (fun (r : Int64) (_ : Unit) => dk_row O (fun j => dk_yw mo mb (nI j) k) (fun j => dk_yc mo mb (nI j) k) (fun j => dk_y3 O mo mb k j) (fun j => lN (dk_yn mo (nI j) k)) (nI j) y r) (fun _ _ => True) dk_no) ([.ref g0, .int (nI j), .int y] : List Value).toArray s 0 0 dk_no) (F0 m 29 ls []) := by
      intro kk f
      induction f with
      | zero => intro i h1 h2; exact absurd h2 (by omega)
      | succ f ih =>
        intro i hi hf ls hl
        refine lv_iload hx hb dX1_row_29 (lv_at hl 0 rfl) ?_
        refine lv_aload_n hx hb dX1_row_31 rfl (lv_at hl 4 rfl) ?_
        refine va_get (D := (dC, dI)) (ci := 1) (v := .int (nI k)) (C := RX1) (T := TX1) (N := 7) hx hb hts hinX1 hown hK hP 0 rfl rfl 2 (by decide) (hts (.fieldLink RX1 33 "DayDeskModel" "moves" "I") (by decide +kernel)) (fun _ h9 => h9) rfl dX1_row_32 ?_
        refine dk_icmp_ge (x := i) (y := k) (tgt := 116) hx hb dX1_row_35 (by decide) (by omega) (by omega) (fun c_35 => ?_) (fun c_35 => ?_)
        · have e9 : i = k := by omega
          rw [e9] at hl
          exact kk ls hl
        · refine lv_aload_n hx hb dX1_row_38 rfl (lv_at hl 4 rfl) ?_
          refine va_get (D := (dC, dI)) (ci := 1) (v := .ref a2) (C := RX1) (T := TX1) (N := 7) hx hb hts hinX1 hown hK hP 0 rfl rfl 3 (by decide) (hts (.fieldLink RX1 13 "DayDeskModel" "moveOf" "[I") (by decide +kernel)) (fun _ h9 => h9) rfl dX1_row_39 ?_
          refine lv_iload hx hb dX1_row_42 (lv_at hl 0 rfl) ?_
          refine dk_iald hx hb hK hP 2 1 rfl rfl (j := i) (by omega) (by omega) dX1_row_44 ?_
          refine lv_iload_n hx hb dX1_row_45 rfl (lv_at hl 5 rfl) ?_
          refine lv_icmp_ne (tgt := 110) hx hb dX1_row_46 (by decide) (fun c_46 => ?_) (fun c_46 => ?_)
          · refine lv_iinc (v := nI (i + 1)) (lv' := [(9, .int (nI (i + 1))), (7, .long (lN (dk_yn mo (nI j) i))), (5, .long (dk_yc mo mb (nI j) i)), (3, .long (dk_yw mo mb (nI j) i)), (0, .ref g0), (1, .int (nI j)), (2, .int y)]) hx hb dX1_row_110 hl (k := 0) rfl (by rw [show Int32.ofInt 1 = nI 1 from by decide]; exact nI_add i 1) (by decide) rfl (fun ls hl => ?_)
            refine lv_goto (tgt := 29) hx hb dX1_row_113 (by decide) ?_
            rw [← dk_yw_ne (mb := mb) c_46, ← dk_yc_ne (mb := mb) c_46, ← dk_yn_ne c_46] at hl
            exact ih (i + 1) (by omega) (by omega) ls (lv_sub hl [0, 1, 2, 3, 4, 5, 6] rfl)
          · refine lv_aload_n hx hb dX1_row_49 rfl (lv_at hl 4 rfl) ?_
            refine va_get (D := (dC, dI)) (ci := 1) (v := .ref a3) (C := RX1) (T := TX1) (N := 7) hx hb hts hinX1 hown hK hP 0 rfl rfl 4 (by decide) (hts (.fieldLink RX1 17 "DayDeskModel" "moveBy" "[J") (by decide +kernel)) (fun _ h9 => h9) rfl dX1_row_50 ?_
            refine lv_iload hx hb dX1_row_53 (lv_at hl 0 rfl) ?_
            refine dk_lald hx hb hK hP 3 2 rfl rfl (j := i) (by omega) (by omega) dX1_row_55 ?_
            refine lv_lconst (v := 0) hx hb dX1_row_56 (by decide) ?_
            refine W.lcmp hx hb dX1_row_57 ?_
            refine lv_if_ge (tgt := 73) hx hb dX1_row_58 (by decide) (fun c_58 => ?_) (fun c_58 => ?_)
            · have c_58 : (0 : Int64) ≤ (mb i) := (lg_cmp_ge _ _).mp c_58
              refine lv_lload_n hx hb dX1_row_73 rfl (lv_at hl 3 rfl) ?_
              refine dk_asl (y := dk_yw mo mb (nI j) (i + 1)) (by first | exact dk_yw_n c_46 c_58 | exact dk_yw_p c_46 c_58) ?_
              refine lv_lstore_n (lv' := [(3, .long (dk_yw mo mb (nI j) (i + 1))), (9, .int (nI i)), (7, .long (lN (dk_yn mo (nI j) i))), (5, .long (dk_yc mo mb (nI j) i)), (0, .ref g0), (1, .int (nI j)), (2, .int y)]) hx hb dX1_row_74 rfl hl (by decide) rfl (fun ls hl => ?_)
              refine lv_aload_n hx hb dX1_row_75 rfl (lv_at hl 4 rfl) ?_
              refine va_get (D := (dC, dI)) (ci := 1) (v := .ref a3) (C := RX1) (T := TX1) (N := 7) hx hb hts hinX1 hown hK hP 0 rfl rfl 4 (by decide) (hts (.fieldLink RX1 17 "DayDeskModel" "moveBy" "[J") (by decide +kernel)) (fun _ h9 => h9) rfl dX1_row_76 ?_
              refine lv_iload hx hb dX1_row_79 (lv_at hl 1 rfl) ?_
              refine dk_lald hx hb hK hP 3 2 rfl rfl (j := i) (by omega) (by omega) dX1_row_81 ?_
              refine lv_lconst (v := 0) hx hb dX1_row_82 (by decide) ?_
              refine W.lcmp hx hb dX1_row_83 ?_
              refine lv_if_le (tgt := 100) hx hb dX1_row_84 (by decide) (fun c_84 => ?_) (fun c_84 => ?_)
              · have c_84 : (mb i) ≤ (0 : Int64) := (lg_cmp_le _ _).mp c_84
                refine lv_lload hx hb dX1_row_100 (lv_at hl 3 rfl) ?_
                refine dk_asl (y := dk_yc mo mb (nI j) (i + 1)) (by first | exact dk_yc_p c_46 c_84 | exact dk_yc_n c_46 c_84) ?_
                refine lv_lstore (lv' := [(5, .long (dk_yc mo mb (nI j) (i + 1))), (3, .long (dk_yw mo mb (nI j) (i + 1))), (9, .int (nI i)), (7, .long (lN (dk_yn mo (nI j) i))), (0, .ref g0), (1, .int (nI j)), (2, .int y)]) hx hb dX1_row_102 hl (by decide) rfl (fun ls hl => ?_)
                refine lv_lload hx hb dX1_row_104 (lv_at hl 3 rfl) ?_
                refine lv_lconst (v := 1) hx hb dX1_row_106 (by decide) ?_
                refine lv_ladd hx hb dX1_row_107 ?_
                refine dk_asl (y := lN (dk_yn mo (nI j) (i + 1))) (by rw [lN_1, dk_yn_s c_46]) ?_
                refine lv_lstore (lv' := [(7, .long (lN (dk_yn mo (nI j) (i + 1)))), (5, .long (dk_yc mo mb (nI j) (i + 1))), (3, .long (dk_yw mo mb (nI j) (i + 1))), (9, .int (nI i)), (0, .ref g0), (1, .int (nI j)), (2, .int y)]) hx hb dX1_row_108 hl (by decide) rfl (fun ls hl => ?_)
                refine lv_iinc (v := nI (i + 1)) (lv' := [(9, .int (nI (i + 1))), (7, .long (lN (dk_yn mo (nI j) (i + 1)))), (5, .long (dk_yc mo mb (nI j) (i + 1))), (3, .long (dk_yw mo mb (nI j) (i + 1))), (0, .ref g0), (1, .int (nI j)), (2, .int y)]) hx hb dX1_row_110 hl (k := 3) rfl (by rw [show Int32.ofInt 1 = nI 1 from by decide]; exact nI_add i 1) (by decide) rfl (fun ls hl => ?_)
                refine lv_goto (tgt := 29) hx hb dX1_row_113 (by decide) ?_
                exact ih (i + 1) (by omega) (by omega) ls (lv_sub hl [0, 1, 2, 3, 4, 5, 6] rfl)
              · have c_84 : ¬ ((mb i) ≤ (0 : Int64)) := fun q9 => c_84 ((lg_cmp_le _ _).mpr q9)
                refine lv_lload hx hb dX1_row_87 (lv_at hl 3 rfl) ?_
                refine lv_aload_n hx hb dX1_row_89 rfl (lv_at hl 4 rfl) ?_
                refine va_get (D := (dC, dI)) (ci := 1) (v := .ref a3) (C := RX1) (T := TX1) (N := 7) hx hb hts hinX1 hown hK hP 0 rfl rfl 4 (by decide) (hts (.fieldLink RX1 17 "DayDeskModel" "moveBy" "[J") (by decide +kernel)) (fun _ h9 => h9) rfl dX1_row_90 ?_
                refine lv_iload hx hb dX1_row_93 (lv_at hl 1 rfl) ?_
                refine dk_lald hx hb hK hP 3 2 rfl rfl (j := i) (by omega) (by omega) dX1_row_95 ?_
                refine lv_ladd hx hb dX1_row_96 ?_
                refine lv_goto (tgt := 102) hx hb dX1_row_97 (by decide) ?_
                refine dk_asl (y := dk_yc mo mb (nI j) (i + 1)) (by first | exact dk_yc_p c_46 c_84 | exact dk_yc_n c_46 c_84) ?_
                refine lv_lstore (lv' := [(5, .long (dk_yc mo mb (nI j) (i + 1))), (3, .long (dk_yw mo mb (nI j) (i + 1))), (9, .int (nI i)), (7, .long (lN (dk_yn mo (nI j) i))), (0, .ref g0), (1, .int (nI j)), (2, .int y)]) hx hb dX1_row_102 hl (by decide) rfl (fun ls hl => ?_)
                refine lv_lload hx hb dX1_row_104 (lv_at hl 3 rfl) ?_
                refine lv_lconst (v := 1) hx hb dX1_row_106 (by decide) ?_
                refine lv_ladd hx hb dX1_row_107 ?_
                refine dk_asl (y := lN (dk_yn mo (nI j) (i + 1))) (by rw [lN_1, dk_yn_s c_46]) ?_
                refine lv_lstore (lv' := [(7, .long (lN (dk_yn mo (nI j) (i + 1)))), (5, .long (dk_yc mo mb (nI j) (i + 1))), (3, .long (dk_yw mo mb (nI j) (i + 1))), (9, .int (nI i)), (0, .ref g0), (1, .int (nI j)), (2, .int y)]) hx hb dX1_row_108 hl (by decide) rfl (fun ls hl => ?_)
                refine lv_iinc (v := nI (i + 1)) (lv' := [(9, .int (nI (i + 1))), (7, .long (lN (dk_yn mo (nI j) (i + 1)))), (5, .long (dk_yc mo mb (nI j) (i + 1))), (3, .long (dk_yw mo mb (nI j) (i + 1))), (0, .ref g0), (1, .int (nI j)), (2, .int y)]) hx hb dX1_row_110 hl (k := 3) rfl (by rw [show Int32.ofInt 1 = nI 1 from by decide]; exact nI_add i 1) (by decide) rfl (fun ls hl => ?_)
                refine lv_goto (tgt := 29) hx hb dX1_row_113 (by decide) ?_
                exact ih (i + 1) (by omega) (by omega) ls (lv_sub hl [0, 1, 2, 3, 4, 5, 6] rfl)
            · have c_58 : ¬ ((0 : Int64) ≤ (mb i)) := fun q9 => c_58 ((lg_cmp_ge _ _).mpr q9)
              refine lv_lload_n hx hb dX1_row_61 rfl (lv_at hl 3 rfl) ?_
              refine lv_aload_n hx hb dX1_row_62 rfl (lv_at hl 4 rfl) ?_
              refine va_get (D := (dC, dI)) (ci := 1) (v := .ref a3) (C := RX1) (T := TX1) (N := 7) hx hb hts hinX1 hown hK hP 0 rfl rfl 4 (by decide) (hts (.fieldLink RX1 17 "DayDeskModel" "moveBy" "[J") (by decide +kernel)) (fun _ h9 => h9) rfl dX1_row_63 ?_
              refine lv_iload hx hb dX1_row_66 (lv_at hl 0 rfl) ?_
              refine dk_lald hx hb hK hP 3 2 rfl rfl (j := i) (by omega) (by omega) dX1_row_68 ?_
              refine lv_lsub hx hb dX1_row_69 ?_
              refine lv_goto (tgt := 74) hx hb dX1_row_70 (by decide) ?_
              refine dk_asl (y := dk_yw mo mb (nI j) (i + 1)) (by first | exact dk_yw_n c_46 c_58 | exact dk_yw_p c_46 c_58) ?_
              refine lv_lstore_n (lv' := [(3, .long (dk_yw mo mb (nI j) (i + 1))), (9, .int (nI i)), (7, .long (lN (dk_yn mo (nI j) i))), (5, .long (dk_yc mo mb (nI j) i)), (0, .ref g0), (1, .int (nI j)), (2, .int y)]) hx hb dX1_row_74 rfl hl (by decide) rfl (fun ls hl => ?_)
              refine lv_aload_n hx hb dX1_row_75 rfl (lv_at hl 4 rfl) ?_
              refine va_get (D := (dC, dI)) (ci := 1) (v := .ref a3) (C := RX1) (T := TX1) (N := 7) hx hb hts hinX1 hown hK hP 0 rfl rfl 4 (by decide) (hts (.fieldLink RX1 17 "DayDeskModel" "moveBy" "[J") (by decide +kernel)) (fun _ h9 => h9) rfl dX1_row_76 ?_
              refine lv_iload hx hb dX1_row_79 (lv_at hl 1 rfl) ?_
              refine dk_lald hx hb hK hP 3 2 rfl rfl (j := i) (by omega) (by omega) dX1_row_81 ?_
              refine lv_lconst (v := 0) hx hb dX1_row_82 (by decide) ?_
              refine W.lcmp hx hb dX1_row_83 ?_
              refine lv_if_le (tgt := 100) hx hb dX1_row_84 (by decide) (fun c_84 => ?_) (fun c_84 => ?_)
              · have c_84 : (mb i) ≤ (0 : Int64) := (lg_cmp_le _ _).mp c_84
                refine lv_lload hx hb dX1_row_100 (lv_at hl 3 rfl) ?_
                refine dk_asl (y := dk_yc mo mb (nI j) (i + 1)) (by first | exact dk_yc_p c_46 c_84 | exact dk_yc_n c_46 c_84) ?_
                refine lv_lstore (lv' := [(5, .long (dk_yc mo mb (nI j) (i + 1))), (3, .long (dk_yw mo mb (nI j) (i + 1))), (9, .int (nI i)), (7, .long (lN (dk_yn mo (nI j) i))), (0, .ref g0), (1, .int (nI j)), (2, .int y)]) hx hb dX1_row_102 hl (by decide) rfl (fun ls hl => ?_)
                refine lv_lload hx hb dX1_row_104 (lv_at hl 3 rfl) ?_
                refine lv_lconst (v := 1) hx hb dX1_row_106 (by decide) ?_
                refine lv_ladd hx hb dX1_row_107 ?_
                refine dk_asl (y := lN (dk_yn mo (nI j) (i + 1))) (by rw [lN_1, dk_yn_s c_46]) ?_
                refine lv_lstore (lv' := [(7, .long (lN (dk_yn mo (nI j) (i + 1)))), (5, .long (dk_yc mo mb (nI j) (i + 1))), (3, .long (dk_yw mo mb (nI j) (i + 1))), (9, .int (nI i)), (0, .ref g0), (1, .int (nI j)), (2, .int y)]) hx hb dX1_row_108 hl (by decide) rfl (fun ls hl => ?_)
                refine lv_iinc (v := nI (i + 1)) (lv' := [(9, .int (nI (i + 1))), (7, .long (lN (dk_yn mo (nI j) (i + 1)))), (5, .long (dk_yc mo mb (nI j) (i + 1))), (3, .long (dk_yw mo mb (nI j) (i + 1))), (0, .ref g0), (1, .int (nI j)), (2, .int y)]) hx hb dX1_row_110 hl (k := 3) rfl (by rw [show Int32.ofInt 1 = nI 1 from by decide]; exact nI_add i 1) (by decide) rfl (fun ls hl => ?_)
                refine lv_goto (tgt := 29) hx hb dX1_row_113 (by decide) ?_
                exact ih (i + 1) (by omega) (by omega) ls (lv_sub hl [0, 1, 2, 3, 4, 5, 6] rfl)
              · have c_84 : ¬ ((mb i) ≤ (0 : Int64)) := fun q9 => c_84 ((lg_cmp_le _ _).mpr q9)
                refine lv_lload hx hb dX1_row_87 (lv_at hl 3 rfl) ?_
                refine lv_aload_n hx hb dX1_row_89 rfl (lv_at hl 4 rfl) ?_
                refine va_get (D := (dC, dI)) (ci := 1) (v := .ref a3) (C := RX1) (T := TX1) (N := 7) hx hb hts hinX1 hown hK hP 0 rfl rfl 4 (by decide) (hts (.fieldLink RX1 17 "DayDeskModel" "moveBy" "[J") (by decide +kernel)) (fun _ h9 => h9) rfl dX1_row_90 ?_
                refine lv_iload hx hb dX1_row_93 (lv_at hl 1 rfl) ?_
                refine dk_lald hx hb hK hP 3 2 rfl rfl (j := i) (by omega) (by omega) dX1_row_95 ?_
                refine lv_ladd hx hb dX1_row_96 ?_
                refine lv_goto (tgt := 102) hx hb dX1_row_97 (by decide) ?_
                refine dk_asl (y := dk_yc mo mb (nI j) (i + 1)) (by first | exact dk_yc_p c_46 c_84 | exact dk_yc_n c_46 c_84) ?_
                refine lv_lstore (lv' := [(5, .long (dk_yc mo mb (nI j) (i + 1))), (3, .long (dk_yw mo mb (nI j) (i + 1))), (9, .int (nI i)), (7, .long (lN (dk_yn mo (nI j) i))), (0, .ref g0), (1, .int (nI j)), (2, .int y)]) hx hb dX1_row_102 hl (by decide) rfl (fun ls hl => ?_)
                refine lv_lload hx hb dX1_row_104 (lv_at hl 3 rfl) ?_
                refine lv_lconst (v := 1) hx hb dX1_row_106 (by decide) ?_
                refine lv_ladd hx hb dX1_row_107 ?_
                refine dk_asl (y := lN (dk_yn mo (nI j) (i + 1))) (by rw [lN_1, dk_yn_s c_46]) ?_
                refine lv_lstore (lv' := [(7, .long (lN (dk_yn mo (nI j) (i + 1)))), (5, .long (dk_yc mo mb (nI j) (i + 1))), (3, .long (dk_yw mo mb (nI j) (i + 1))), (9, .int (nI i)), (0, .ref g0), (1, .int (nI j)), (2, .int y)]) hx hb dX1_row_108 hl (by decide) rfl (fun ls hl => ?_)
                refine lv_iinc (v := nI (i + 1)) (lv' := [(9, .int (nI (i + 1))), (7, .long (lN (dk_yn mo (nI j) (i + 1)))), (5, .long (dk_yc mo mb (nI j) (i + 1))), (3, .long (dk_yw mo mb (nI j) (i + 1))), (0, .ref g0), (1, .int (nI j)), (2, .int y)]) hx hb dX1_row_110 hl (k := 3) rfl (by rw [show Int32.ofInt 1 = nI 1 from by decide]; exact nI_add i 1) (by decide) rfl (fun ls hl => ?_)
                refine lv_goto (tgt := 29) hx hb dX1_row_113 (by decide) ?_
                exact ih (i + 1) (by omega) (by omega) ls (lv_sub hl [0, 1, 2, 3, 4, 5, 6] rfl)
    rcases dk_sw5 y with rfl | rfl | rfl | rfl | rfl | hsw
    · refine lv_iload_n hx hb dX1_row_7 rfl (lv_at hl 2 rfl) ?_
      refine lv_if_lt (tgt := 16) hx hb dX1_row_8 (by decide) (fun c9 => absurd c9 (by decide)) (fun _ => ?_)
      refine lv_iload_n hx hb dX1_row_11 rfl (lv_at hl 2 rfl) ?_
      refine lv_iconst (v := 4) hx hb dX1_row_12 (by decide) ?_
      refine lv_icmp_le (tgt := 18) hx hb dX1_row_13 (by decide) (fun _ => ?_) (fun c9 => absurd (by decide) c9)
      refine lv_lconst (v := 0) hx hb dX1_row_18 (by decide) ?_
      refine lv_lstore_n (lv' := [(3, .long 0), (0, .ref g0), (1, .int (nI j)), (2, .int 0)]) hx hb dX1_row_19 rfl hl (by decide) rfl (fun ls hl => ?_)
      refine lv_lconst (v := 0) hx hb dX1_row_20 (by decide) ?_
      refine lv_lstore (lv' := [(5, .long 0), (3, .long 0), (0, .ref g0), (1, .int (nI j)), (2, .int 0)]) hx hb dX1_row_21 hl (by decide) rfl (fun ls hl => ?_)
      refine lv_lconst (v := lN 0) hx hb dX1_row_23 (by decide) ?_
      refine lv_lstore (lv' := [(7, .long (lN 0)), (5, .long 0), (3, .long 0), (0, .ref g0), (1, .int (nI j)), (2, .int 0)]) hx hb dX1_row_24 hl (by decide) rfl (fun ls hl => ?_)
      refine lv_iconst (v := nI 0) hx hb dX1_row_26 (by decide) ?_
      refine lv_istore (lv' := [(9, .int (nI 0)), (7, .long (lN 0)), (5, .long 0), (3, .long 0), (0, .ref g0), (1, .int (nI j)), (2, .int 0)]) hx hb dX1_row_27 hl (by decide) rfl (fun ls hl => ?_)
      refine loop (fun ls hl => ?_) (k + 1) 0 (by omega) (by omega) ls (lv_sub hl [0, 1, 2, 3, 4, 5, 6] rfl)
      refine lv_iload_n hx hb dX1_row_116 rfl (lv_at hl 6 rfl) ?_
      refine lv_if_ne (tgt := 129) hx hb dX1_row_117 (by decide) (fun c9 => absurd (by decide) c9) (fun _ => ?_)
      refine lv_aload_n hx hb dX1_row_120 rfl (lv_at hl 4 rfl) ?_
      refine va_get (D := (dC, dI)) (ci := 1) (v := .ref a1) (C := RX1) (T := TX1) (N := 7) hx hb hts hinX1 hown hK hP 0 rfl rfl 1 (by decide) (hts (.fieldLink RX1 7 "DayDeskModel" "opening" "[J") (by decide +kernel)) (fun _ h9 => h9) rfl dX1_row_121 ?_
      refine lv_iload_n hx hb dX1_row_124 rfl (lv_at hl 5 rfl) ?_
      refine dk_lald hx hb hK hP 1 0 rfl rfl (j := j) (by omega) (by omega) dX1_row_125 ?_
      refine lv_goto (tgt := 169) hx hb dX1_row_126 (by decide) ?_
      exact W.lret (v := O j) hx hb hr (fun z8 hz8 hW8 => ⟨⟨(O j), (), rfl, Or.inr ⟨j, hj, rfl, Or.inl ⟨rfl, rfl⟩⟩, trivial⟩, hS.F hz8⟩) hS.2.2 dX1_row_169
    · refine lv_iload_n hx hb dX1_row_7 rfl (lv_at hl 2 rfl) ?_
      refine lv_if_lt (tgt := 16) hx hb dX1_row_8 (by decide) (fun c9 => absurd c9 (by decide)) (fun _ => ?_)
      refine lv_iload_n hx hb dX1_row_11 rfl (lv_at hl 2 rfl) ?_
      refine lv_iconst (v := 4) hx hb dX1_row_12 (by decide) ?_
      refine lv_icmp_le (tgt := 18) hx hb dX1_row_13 (by decide) (fun _ => ?_) (fun c9 => absurd (by decide) c9)
      refine lv_lconst (v := 0) hx hb dX1_row_18 (by decide) ?_
      refine lv_lstore_n (lv' := [(3, .long 0), (0, .ref g0), (1, .int (nI j)), (2, .int 1)]) hx hb dX1_row_19 rfl hl (by decide) rfl (fun ls hl => ?_)
      refine lv_lconst (v := 0) hx hb dX1_row_20 (by decide) ?_
      refine lv_lstore (lv' := [(5, .long 0), (3, .long 0), (0, .ref g0), (1, .int (nI j)), (2, .int 1)]) hx hb dX1_row_21 hl (by decide) rfl (fun ls hl => ?_)
      refine lv_lconst (v := lN 0) hx hb dX1_row_23 (by decide) ?_
      refine lv_lstore (lv' := [(7, .long (lN 0)), (5, .long 0), (3, .long 0), (0, .ref g0), (1, .int (nI j)), (2, .int 1)]) hx hb dX1_row_24 hl (by decide) rfl (fun ls hl => ?_)
      refine lv_iconst (v := nI 0) hx hb dX1_row_26 (by decide) ?_
      refine lv_istore (lv' := [(9, .int (nI 0)), (7, .long (lN 0)), (5, .long 0), (3, .long 0), (0, .ref g0), (1, .int (nI j)), (2, .int 1)]) hx hb dX1_row_27 hl (by decide) rfl (fun ls hl => ?_)
      refine loop (fun ls hl => ?_) (k + 1) 0 (by omega) (by omega) ls (lv_sub hl [0, 1, 2, 3, 4, 5, 6] rfl)
      refine lv_iload_n hx hb dX1_row_116 rfl (lv_at hl 6 rfl) ?_
      refine lv_if_ne (tgt := 129) hx hb dX1_row_117 (by decide) (fun _ => ?_) (fun c9 => absurd c9 (by decide))
      refine lv_iload_n hx hb dX1_row_129 rfl (lv_at hl 6 rfl) ?_
      refine lv_iconst (v := 1) hx hb dX1_row_130 (by decide) ?_
      refine lv_icmp_ne (tgt := 138) hx hb dX1_row_131 (by decide) (fun c9 => absurd (by decide) c9) (fun _ => ?_)
      refine lv_lload_n hx hb dX1_row_134 rfl (lv_at hl 3 rfl) ?_
      refine lv_goto (tgt := 169) hx hb dX1_row_135 (by decide) ?_
      exact W.lret (v := dk_yw mo mb (nI j) k) hx hb hr (fun z8 hz8 hW8 => ⟨⟨(dk_yw mo mb (nI j) k), (), rfl, Or.inr ⟨j, hj, rfl, Or.inr (Or.inl ⟨rfl, rfl⟩)⟩, trivial⟩, hS.F hz8⟩) hS.2.2 dX1_row_169
    · refine lv_iload_n hx hb dX1_row_7 rfl (lv_at hl 2 rfl) ?_
      refine lv_if_lt (tgt := 16) hx hb dX1_row_8 (by decide) (fun c9 => absurd c9 (by decide)) (fun _ => ?_)
      refine lv_iload_n hx hb dX1_row_11 rfl (lv_at hl 2 rfl) ?_
      refine lv_iconst (v := 4) hx hb dX1_row_12 (by decide) ?_
      refine lv_icmp_le (tgt := 18) hx hb dX1_row_13 (by decide) (fun _ => ?_) (fun c9 => absurd (by decide) c9)
      refine lv_lconst (v := 0) hx hb dX1_row_18 (by decide) ?_
      refine lv_lstore_n (lv' := [(3, .long 0), (0, .ref g0), (1, .int (nI j)), (2, .int 2)]) hx hb dX1_row_19 rfl hl (by decide) rfl (fun ls hl => ?_)
      refine lv_lconst (v := 0) hx hb dX1_row_20 (by decide) ?_
      refine lv_lstore (lv' := [(5, .long 0), (3, .long 0), (0, .ref g0), (1, .int (nI j)), (2, .int 2)]) hx hb dX1_row_21 hl (by decide) rfl (fun ls hl => ?_)
      refine lv_lconst (v := lN 0) hx hb dX1_row_23 (by decide) ?_
      refine lv_lstore (lv' := [(7, .long (lN 0)), (5, .long 0), (3, .long 0), (0, .ref g0), (1, .int (nI j)), (2, .int 2)]) hx hb dX1_row_24 hl (by decide) rfl (fun ls hl => ?_)
      refine lv_iconst (v := nI 0) hx hb dX1_row_26 (by decide) ?_
      refine lv_istore (lv' := [(9, .int (nI 0)), (7, .long (lN 0)), (5, .long 0), (3, .long 0), (0, .ref g0), (1, .int (nI j)), (2, .int 2)]) hx hb dX1_row_27 hl (by decide) rfl (fun ls hl => ?_)
      refine loop (fun ls hl => ?_) (k + 1) 0 (by omega) (by omega) ls (lv_sub hl [0, 1, 2, 3, 4, 5, 6] rfl)
      refine lv_iload_n hx hb dX1_row_116 rfl (lv_at hl 6 rfl) ?_
      refine lv_if_ne (tgt := 129) hx hb dX1_row_117 (by decide) (fun _ => ?_) (fun c9 => absurd c9 (by decide))
      refine lv_iload_n hx hb dX1_row_129 rfl (lv_at hl 6 rfl) ?_
      refine lv_iconst (v := 1) hx hb dX1_row_130 (by decide) ?_
      refine lv_icmp_ne (tgt := 138) hx hb dX1_row_131 (by decide) (fun _ => ?_) (fun c9 => absurd c9 (by decide))
      refine lv_iload_n hx hb dX1_row_138 rfl (lv_at hl 6 rfl) ?_
      refine lv_iconst (v := 2) hx hb dX1_row_139 (by decide) ?_
      refine lv_icmp_ne (tgt := 148) hx hb dX1_row_140 (by decide) (fun c9 => absurd (by decide) c9) (fun _ => ?_)
      refine lv_lload hx hb dX1_row_143 (lv_at hl 2 rfl) ?_
      refine lv_goto (tgt := 169) hx hb dX1_row_145 (by decide) ?_
      exact W.lret (v := dk_yc mo mb (nI j) k) hx hb hr (fun z8 hz8 hW8 => ⟨⟨(dk_yc mo mb (nI j) k), (), rfl, Or.inr ⟨j, hj, rfl, Or.inr (Or.inr (Or.inl ⟨rfl, rfl⟩))⟩, trivial⟩, hS.F hz8⟩) hS.2.2 dX1_row_169
    · refine lv_iload_n hx hb dX1_row_7 rfl (lv_at hl 2 rfl) ?_
      refine lv_if_lt (tgt := 16) hx hb dX1_row_8 (by decide) (fun c9 => absurd c9 (by decide)) (fun _ => ?_)
      refine lv_iload_n hx hb dX1_row_11 rfl (lv_at hl 2 rfl) ?_
      refine lv_iconst (v := 4) hx hb dX1_row_12 (by decide) ?_
      refine lv_icmp_le (tgt := 18) hx hb dX1_row_13 (by decide) (fun _ => ?_) (fun c9 => absurd (by decide) c9)
      refine lv_lconst (v := 0) hx hb dX1_row_18 (by decide) ?_
      refine lv_lstore_n (lv' := [(3, .long 0), (0, .ref g0), (1, .int (nI j)), (2, .int 3)]) hx hb dX1_row_19 rfl hl (by decide) rfl (fun ls hl => ?_)
      refine lv_lconst (v := 0) hx hb dX1_row_20 (by decide) ?_
      refine lv_lstore (lv' := [(5, .long 0), (3, .long 0), (0, .ref g0), (1, .int (nI j)), (2, .int 3)]) hx hb dX1_row_21 hl (by decide) rfl (fun ls hl => ?_)
      refine lv_lconst (v := lN 0) hx hb dX1_row_23 (by decide) ?_
      refine lv_lstore (lv' := [(7, .long (lN 0)), (5, .long 0), (3, .long 0), (0, .ref g0), (1, .int (nI j)), (2, .int 3)]) hx hb dX1_row_24 hl (by decide) rfl (fun ls hl => ?_)
      refine lv_iconst (v := nI 0) hx hb dX1_row_26 (by decide) ?_
      refine lv_istore (lv' := [(9, .int (nI 0)), (7, .long (lN 0)), (5, .long 0), (3, .long 0), (0, .ref g0), (1, .int (nI j)), (2, .int 3)]) hx hb dX1_row_27 hl (by decide) rfl (fun ls hl => ?_)
      refine loop (fun ls hl => ?_) (k + 1) 0 (by omega) (by omega) ls (lv_sub hl [0, 1, 2, 3, 4, 5, 6] rfl)
      refine lv_iload_n hx hb dX1_row_116 rfl (lv_at hl 6 rfl) ?_
      refine lv_if_ne (tgt := 129) hx hb dX1_row_117 (by decide) (fun _ => ?_) (fun c9 => absurd c9 (by decide))
      refine lv_iload_n hx hb dX1_row_129 rfl (lv_at hl 6 rfl) ?_
      refine lv_iconst (v := 1) hx hb dX1_row_130 (by decide) ?_
      refine lv_icmp_ne (tgt := 138) hx hb dX1_row_131 (by decide) (fun _ => ?_) (fun c9 => absurd c9 (by decide))
      refine lv_iload_n hx hb dX1_row_138 rfl (lv_at hl 6 rfl) ?_
      refine lv_iconst (v := 2) hx hb dX1_row_139 (by decide) ?_
      refine lv_icmp_ne (tgt := 148) hx hb dX1_row_140 (by decide) (fun _ => ?_) (fun c9 => absurd c9 (by decide))
      refine lv_iload_n hx hb dX1_row_148 rfl (lv_at hl 6 rfl) ?_
      refine lv_iconst (v := 3) hx hb dX1_row_149 (by decide) ?_
      refine lv_icmp_ne (tgt := 167) hx hb dX1_row_150 (by decide) (fun c9 => absurd (by decide) c9) (fun _ => ?_)
      refine lv_aload_n hx hb dX1_row_153 rfl (lv_at hl 4 rfl) ?_
      refine va_get (D := (dC, dI)) (ci := 1) (v := .ref a1) (C := RX1) (T := TX1) (N := 7) hx hb hts hinX1 hown hK hP 0 rfl rfl 1 (by decide) (hts (.fieldLink RX1 7 "DayDeskModel" "opening" "[J") (by decide +kernel)) (fun _ h9 => h9) rfl dX1_row_154 ?_
      refine lv_iload_n hx hb dX1_row_157 rfl (lv_at hl 5 rfl) ?_
      refine dk_lald hx hb hK hP 1 0 rfl rfl (j := j) (by omega) (by omega) dX1_row_158 ?_
      refine lv_lload_n hx hb dX1_row_159 rfl (lv_at hl 3 rfl) ?_
      refine lv_lsub hx hb dX1_row_160 ?_
      refine lv_lload hx hb dX1_row_161 (lv_at hl 2 rfl) ?_
      refine lv_ladd hx hb dX1_row_163 ?_
      refine lv_goto (tgt := 169) hx hb dX1_row_164 (by decide) ?_
      exact W.lret (v := ((O j) - (dk_yw mo mb (nI j) k)) + (dk_yc mo mb (nI j) k)) hx hb hr (fun z8 hz8 hW8 => ⟨⟨(((O j) - (dk_yw mo mb (nI j) k)) + (dk_yc mo mb (nI j) k)), (), rfl, Or.inr ⟨j, hj, rfl, Or.inr (Or.inr (Or.inr (Or.inl ⟨rfl, rfl⟩)))⟩, trivial⟩, hS.F hz8⟩) hS.2.2 dX1_row_169
    · refine lv_iload_n hx hb dX1_row_7 rfl (lv_at hl 2 rfl) ?_
      refine lv_if_lt (tgt := 16) hx hb dX1_row_8 (by decide) (fun c9 => absurd c9 (by decide)) (fun _ => ?_)
      refine lv_iload_n hx hb dX1_row_11 rfl (lv_at hl 2 rfl) ?_
      refine lv_iconst (v := 4) hx hb dX1_row_12 (by decide) ?_
      refine lv_icmp_le (tgt := 18) hx hb dX1_row_13 (by decide) (fun _ => ?_) (fun c9 => absurd (by decide) c9)
      refine lv_lconst (v := 0) hx hb dX1_row_18 (by decide) ?_
      refine lv_lstore_n (lv' := [(3, .long 0), (0, .ref g0), (1, .int (nI j)), (2, .int 4)]) hx hb dX1_row_19 rfl hl (by decide) rfl (fun ls hl => ?_)
      refine lv_lconst (v := 0) hx hb dX1_row_20 (by decide) ?_
      refine lv_lstore (lv' := [(5, .long 0), (3, .long 0), (0, .ref g0), (1, .int (nI j)), (2, .int 4)]) hx hb dX1_row_21 hl (by decide) rfl (fun ls hl => ?_)
      refine lv_lconst (v := lN 0) hx hb dX1_row_23 (by decide) ?_
      refine lv_lstore (lv' := [(7, .long (lN 0)), (5, .long 0), (3, .long 0), (0, .ref g0), (1, .int (nI j)), (2, .int 4)]) hx hb dX1_row_24 hl (by decide) rfl (fun ls hl => ?_)
      refine lv_iconst (v := nI 0) hx hb dX1_row_26 (by decide) ?_
      refine lv_istore (lv' := [(9, .int (nI 0)), (7, .long (lN 0)), (5, .long 0), (3, .long 0), (0, .ref g0), (1, .int (nI j)), (2, .int 4)]) hx hb dX1_row_27 hl (by decide) rfl (fun ls hl => ?_)
      refine loop (fun ls hl => ?_) (k + 1) 0 (by omega) (by omega) ls (lv_sub hl [0, 1, 2, 3, 4, 5, 6] rfl)
      refine lv_iload_n hx hb dX1_row_116 rfl (lv_at hl 6 rfl) ?_
      refine lv_if_ne (tgt := 129) hx hb dX1_row_117 (by decide) (fun _ => ?_) (fun c9 => absurd c9 (by decide))
      refine lv_iload_n hx hb dX1_row_129 rfl (lv_at hl 6 rfl) ?_
      refine lv_iconst (v := 1) hx hb dX1_row_130 (by decide) ?_
      refine lv_icmp_ne (tgt := 138) hx hb dX1_row_131 (by decide) (fun _ => ?_) (fun c9 => absurd c9 (by decide))
      refine lv_iload_n hx hb dX1_row_138 rfl (lv_at hl 6 rfl) ?_
      refine lv_iconst (v := 2) hx hb dX1_row_139 (by decide) ?_
      refine lv_icmp_ne (tgt := 148) hx hb dX1_row_140 (by decide) (fun _ => ?_) (fun c9 => absurd c9 (by decide))
      refine lv_iload_n hx hb dX1_row_148 rfl (lv_at hl 6 rfl) ?_
      refine lv_iconst (v := 3) hx hb dX1_row_149 (by decide) ?_
      refine lv_icmp_ne (tgt := 167) hx hb dX1_row_150 (by decide) (fun _ => ?_) (fun c9 => absurd c9 (by decide))
      refine lv_lload hx hb dX1_row_167 (lv_at hl 1 rfl) ?_
      exact W.lret (v := lN (dk_yn mo (nI j) k)) hx hb hr (fun z8 hz8 hW8 => ⟨⟨(lN (dk_yn mo (nI j) k)), (), rfl, Or.inr ⟨j, hj, rfl, Or.inr (Or.inr (Or.inr (Or.inr (Or.inl ⟨rfl, rfl⟩))))⟩, trivial⟩, hS.F hz8⟩) hS.2.2 dX1_row_169
    · have hyr : (y < 0) ∨ (¬ y ≤ 4) := by
        have e0 : (0 : Int32).toInt = 0 := by decide
        have e4 : (4 : Int32).toInt = 4 := by decide
        rw [Int32.lt_iff_toInt_lt, Int32.le_iff_toInt_le]; omega
      refine lv_iload_n hx hb dX1_row_7 rfl (lv_at hl 2 rfl) ?_
      refine lv_if_lt (tgt := 16) hx hb dX1_row_8 (by decide) (fun c_8 => ?_) (fun c_8 => ?_)
      · refine lv_lconst (v := 0) hx hb dX1_row_16 (by decide) ?_
        exact W.lret (v := 0) hx hb hr (fun z8 hz8 hW8 => ⟨⟨0, (), rfl, Or.inr ⟨j, hj, rfl, Or.inr (Or.inr (Or.inr (Or.inr (Or.inr (⟨hsw, rfl⟩)))))⟩, trivial⟩, hS.F hz8⟩) hS.2.2 dX1_row_17
      · refine lv_iload_n hx hb dX1_row_11 rfl (lv_at hl 2 rfl) ?_
        refine lv_iconst (v := 4) hx hb dX1_row_12 (by decide) ?_
        refine lv_icmp_le (tgt := 18) hx hb dX1_row_13 (by decide) (fun c_13 => ?_) (fun c_13 => ?_)
        · exact absurd (hyr.resolve_left c_8) (fun q9 => q9 c_13)
        · refine lv_lconst (v := 0) hx hb dX1_row_16 (by decide) ?_
          exact W.lret (v := 0) hx hb hr (fun z8 hz8 hW8 => ⟨⟨0, (), rfl, Or.inr ⟨j, hj, rfl, Or.inr (Or.inr (Or.inr (Or.inr (Or.inr (⟨hsw, rfl⟩)))))⟩, trivial⟩, hS.F hz8⟩) hS.2.2 dX1_row_17
  · refine lv_if_eq (tgt := 16) hx hb dX1_row_4 (by decide) (fun _ => ?_) (fun c9 => absurd (by decide) c9)
    refine lv_lconst (v := 0) hx hb dX1_row_16 (by decide) ?_
    exact W.lret (v := 0) hx hb hr (fun z8 hz8 hW8 => ⟨⟨0, (), rfl, Or.inl ⟨rfl, hno⟩, trivial⟩, hS.F hz8⟩) hS.2.2 dX1_row_17
