set_option maxHeartbeats 4000000 in
set_option maxRecDepth 100000 in
/-- tick -/
theorem cY_tick (l : Launch) (dC : Nat → ClassId) (dI : Nat → Nat → Nat) (g0 a1 a2 a3 a4 : Nat) (T : Nat) (hT9 : T < 100000000) (kk w : Int32) : Met l yX1_tick wsX1_tick ({ frames := 0, cells := 0, slots := 0, locals := 0 }) (dk_Pr [.ref g0] (dC, dI) vwCl [] [(g0, .inr (1, [.long (lN T), .ref a1, .int kk, .ref a2, .ref a3, .int w, .ref a4]))]) (va_Qi (fun (r : Int32) (_ : Unit) => r = nI (T % 1000)) (fun _ _ => True) dk_no) 0 0 dk_no := by
  refine Met.ofW (cc := cX1_tick) (maxL := 1) (ret := (some .int)) (by decide) rfl ?_
  intro p e s m args below meth c s₁ B hml hv
  obtain ⟨rfl, hP, hK⟩ := hv
  have hx := B.exec
  have hb := B.bytes
  have hr := B.returns
  have hts := atoms_spec (ws := wsX1_tick) B.pre
  have hown : s.vm.findClass RX1 = some m.cls := findClass_of_methodNamed B.named
  have hlocks := B.notSynchronized
  have hinX1 : ∀ w ∈ wsX10, w ∈ wsX1_tick := by decide +kernel
  have hS : va_S dk_no s.heap s.heap [] := va_S.rf
  have hl := lv_entry ([.ref g0]) (n := 1) (Nat.le_of_ble_eq_true rfl)
  rw [lg_entry_eq]
  generalize (lg_sl ([.ref g0]) ++ List.replicate (1 - (lg_sl ([.ref g0])).length) Slot.unset).toArray = ls at hl ⊢
  have hl : lv_has ls 1 [(0, .ref g0)] := hl
  refine lv_aload_n hx hb dX1_tick_0 rfl (lv_at hl 0 rfl) ?_
  refine va_get (D := (dC, dI)) (ci := 1) (v := .long (lN T)) (C := RX1) (T := TX1) (N := 7) hx hb hts hinX1 hown hK hP 0 rfl rfl 0 (by decide) (hts (.fieldLink RX1 23 "DayDeskModel" "ticks" "J") (by decide +kernel)) (fun _ h9 => h9) rfl dX1_tick_1 ?_
  refine lv_ldc2 (v := lN 1000) hx hb hown (hts (.constantLong RX1 27 (lN 1000)) (by decide +kernel)) dX1_tick_4 ?_
  refine lv_lrem hx hb dX1_tick_7 (by decide) ?_
  refine dk_asl (y := lN (T % 1000)) (pk_lRem (by omega) (by omega) (by omega)) ?_
  refine lv_l2i (v := (lN (T % 1000)).toInt32) hx hb dX1_tick_8 rfl ?_
  refine dk_asi (y := nI (T % 1000)) (lN_i _) ?_
  exact W.iret (v := nI (T % 1000)) hx hb hr (fun z8 hz8 hW8 => ⟨⟨(nI (T % 1000)), (), rfl, rfl, trivial⟩, hS.F hz8⟩) hS.2.2 dX1_tick_9
set_option maxHeartbeats 4000000 in
set_option maxRecDepth 100000 in
/-- isResolved -/
theorem cY_isResolved (l : Launch) (dC : Nat → ClassId) (dI : Nat → Nat → Nat) (t : Nat) (ht9 : t < 1000) : Met l yX1_isResolved wsX1_isResolved ({ frames := 0, cells := 0, slots := 0, locals := 0 }) (dk_Pr [.int (nI t)] (dC, dI) vwCl [] []) (va_Qi (fun (r : Int32) (_ : Unit) => (r = 1 ∧ dk_iR t) ∨ (r = 0 ∧ ¬ dk_iR t)) (fun _ _ => True) dk_no) 0 0 dk_no := by
  refine Met.ofW (cc := cX1_isResolved) (maxL := 1) (ret := (some .boolean)) (by decide) rfl ?_
  intro p e s m args below meth c s₁ B hml hv
  obtain ⟨rfl, hP, hK⟩ := hv
  have hx := B.exec
  have hb := B.bytes
  have hr := B.returns
  have hts := atoms_spec (ws := wsX1_isResolved) B.pre
  have hown : s.vm.findClass RX1 = some m.cls := findClass_of_methodNamed B.named
  have hlocks := B.notSynchronized
  have hS : va_S dk_no s.heap s.heap [] := va_S.rf
  have hl := lv_entry ([.int (nI t)]) (n := 1) (Nat.le_of_ble_eq_true rfl)
  rw [lg_entry_eq]
  generalize (lg_sl ([.int (nI t)]) ++ List.replicate (1 - (lg_sl ([.int (nI t)])).length) Slot.unset).toArray = ls at hl ⊢
  have hl : lv_has ls 1 [(0, .int (nI t))] := hl
  refine lv_iload_n hx hb dX1_isResolved_0 rfl (lv_at hl 0 rfl) ?_
  refine lv_sipush (v := nI 150) hx hb dX1_isResolved_1 (by decide) ?_
  refine dk_icmp_lt (x := t) (y := 150) (tgt := 25) hx hb dX1_isResolved_4 (by decide) (by omega) (by omega) (fun c_4 => ?_) (fun c_4 => ?_)
  · refine lv_iconst (v := 0) hx hb dX1_isResolved_25 (by decide) ?_
    exact W.zret (v := 0) hx hb hr (by first | rfl | decide) (fun z8 hz8 hW8 => ⟨⟨0, (), rfl, Or.inr ⟨rfl, by unfold dk_iR; omega⟩, trivial⟩, hS.F hz8⟩) hS.2.2 dX1_isResolved_26
  · refine lv_iload_n hx hb dX1_isResolved_7 rfl (lv_at hl 0 rfl) ?_
    refine lv_sipush (v := nI 900) hx hb dX1_isResolved_8 (by decide) ?_
    refine dk_icmp_gt (x := t) (y := 900) (tgt := 25) hx hb dX1_isResolved_11 (by decide) (by omega) (by omega) (fun c_11 => ?_) (fun c_11 => ?_)
    · refine lv_iconst (v := 0) hx hb dX1_isResolved_25 (by decide) ?_
      exact W.zret (v := 0) hx hb hr (by first | rfl | decide) (fun z8 hz8 hW8 => ⟨⟨0, (), rfl, Or.inr ⟨rfl, by unfold dk_iR; omega⟩, trivial⟩, hS.F hz8⟩) hS.2.2 dX1_isResolved_26
    · refine lv_iload_n hx hb dX1_isResolved_14 rfl (lv_at hl 0 rfl) ?_
      refine lv_bipush (v := nI 50) hx hb dX1_isResolved_15 (by decide) ?_
      refine lv_irem hx hb dX1_isResolved_17 (by decide) ?_
      refine dk_asi (y := nI (t % 50)) (pk_rem (a := t) (d := 50) (by omega) (by omega) (by omega)) ?_
      refine dk_if_ne (x := t % 50) (tgt := 25) hx hb dX1_isResolved_18 (by decide) (by omega) (fun c_18 => ?_) (fun c_18 => ?_)
      · refine lv_iconst (v := 0) hx hb dX1_isResolved_25 (by decide) ?_
        exact W.zret (v := 0) hx hb hr (by first | rfl | decide) (fun z8 hz8 hW8 => ⟨⟨0, (), rfl, Or.inr ⟨rfl, by unfold dk_iR; omega⟩, trivial⟩, hS.F hz8⟩) hS.2.2 dX1_isResolved_26
      · refine lv_iconst (v := 1) hx hb dX1_isResolved_21 (by decide) ?_
        refine lv_goto (tgt := 26) hx hb dX1_isResolved_22 (by decide) ?_
        exact W.zret (v := 1) hx hb hr (by first | rfl | decide) (fun z8 hz8 hW8 => ⟨⟨1, (), rfl, Or.inl ⟨rfl, by unfold dk_iR; omega⟩, trivial⟩, hS.F hz8⟩) hS.2.2 dX1_isResolved_26
set_option maxHeartbeats 4000000 in
set_option maxRecDepth 100000 in
/-- phaseOf -/
theorem cY_phaseOf (l : Launch) (dC : Nat → ClassId) (dI : Nat → Nat → Nat) (t : Nat) (ht9 : t < 1000) : Met l yX1_phaseOf wsX1_phaseOf ({ frames := 0, cells := 0, slots := 0, locals := 0 }) (dk_Pr [.int (nI t)] (dC, dI) vwCl [] []) (va_Qi (fun (r : Int32) (_ : Unit) => r = nI (dk_ph t)) (fun _ _ => True) dk_no) 0 0 dk_no := by
  refine Met.ofW (cc := cX1_phaseOf) (maxL := 1) (ret := (some .int)) (by decide) rfl ?_
  intro p e s m args below meth c s₁ B hml hv
  obtain ⟨rfl, hP, hK⟩ := hv
  have hx := B.exec
  have hb := B.bytes
  have hr := B.returns
  have hts := atoms_spec (ws := wsX1_phaseOf) B.pre
  have hown : s.vm.findClass RX1 = some m.cls := findClass_of_methodNamed B.named
  have hlocks := B.notSynchronized
  have hS : va_S dk_no s.heap s.heap [] := va_S.rf
  have hl := lv_entry ([.int (nI t)]) (n := 1) (Nat.le_of_ble_eq_true rfl)
  rw [lg_entry_eq]
  generalize (lg_sl ([.int (nI t)]) ++ List.replicate (1 - (lg_sl ([.int (nI t)])).length) Slot.unset).toArray = ls at hl ⊢
  have hl : lv_has ls 1 [(0, .int (nI t))] := hl
  refine lv_iload_n hx hb dX1_phaseOf_0 rfl (lv_at hl 0 rfl) ?_
  refine lv_bipush (v := nI 100) hx hb dX1_phaseOf_1 (by decide) ?_
  refine dk_icmp_ge (x := t) (y := 100) (tgt := 10) hx hb dX1_phaseOf_3 (by decide) (by omega) (by omega) (fun c_3 => ?_) (fun c_3 => ?_)
  · refine lv_iload_n hx hb dX1_phaseOf_10 rfl (lv_at hl 0 rfl) ?_
    refine lv_sipush (v := nI 700) hx hb dX1_phaseOf_11 (by decide) ?_
    refine dk_icmp_ge (x := t) (y := 700) (tgt := 21) hx hb dX1_phaseOf_14 (by decide) (by omega) (by omega) (fun c_14 => ?_) (fun c_14 => ?_)
    · refine lv_iload_n hx hb dX1_phaseOf_21 rfl (lv_at hl 0 rfl) ?_
      refine lv_sipush (v := nI 800) hx hb dX1_phaseOf_22 (by decide) ?_
      refine dk_icmp_ge (x := t) (y := 800) (tgt := 32) hx hb dX1_phaseOf_25 (by decide) (by omega) (by omega) (fun c_25 => ?_) (fun c_25 => ?_)
      · refine lv_iload_n hx hb dX1_phaseOf_32 rfl (lv_at hl 0 rfl) ?_
        refine lv_sipush (v := nI 900) hx hb dX1_phaseOf_33 (by decide) ?_
        refine dk_icmp_ge (x := t) (y := 900) (tgt := 43) hx hb dX1_phaseOf_36 (by decide) (by omega) (by omega) (fun c_36 => ?_) (fun c_36 => ?_)
        · refine lv_iconst (v := 4) hx hb dX1_phaseOf_43 (by decide) ?_
          exact W.iret (v := 4) hx hb hr (fun z8 hz8 hW8 => ⟨⟨4, (), rfl, by rw [show dk_ph t = 4 from by unfold dk_ph; (repeat' split) <;> omega]; rfl, trivial⟩, hS.F hz8⟩) hS.2.2 dX1_phaseOf_44
        · refine lv_iconst (v := 3) hx hb dX1_phaseOf_39 (by decide) ?_
          refine lv_goto (tgt := 44) hx hb dX1_phaseOf_40 (by decide) ?_
          exact W.iret (v := 3) hx hb hr (fun z8 hz8 hW8 => ⟨⟨3, (), rfl, by rw [show dk_ph t = 3 from by unfold dk_ph; (repeat' split) <;> omega]; rfl, trivial⟩, hS.F hz8⟩) hS.2.2 dX1_phaseOf_44
      · refine lv_iconst (v := 2) hx hb dX1_phaseOf_28 (by decide) ?_
        refine lv_goto (tgt := 44) hx hb dX1_phaseOf_29 (by decide) ?_
        exact W.iret (v := 2) hx hb hr (fun z8 hz8 hW8 => ⟨⟨2, (), rfl, by rw [show dk_ph t = 2 from by unfold dk_ph; (repeat' split) <;> omega]; rfl, trivial⟩, hS.F hz8⟩) hS.2.2 dX1_phaseOf_44
    · refine lv_iconst (v := 1) hx hb dX1_phaseOf_17 (by decide) ?_
      refine lv_goto (tgt := 44) hx hb dX1_phaseOf_18 (by decide) ?_
      exact W.iret (v := 1) hx hb hr (fun z8 hz8 hW8 => ⟨⟨1, (), rfl, by rw [show dk_ph t = 1 from by unfold dk_ph; (repeat' split) <;> omega]; rfl, trivial⟩, hS.F hz8⟩) hS.2.2 dX1_phaseOf_44
  · refine lv_iconst (v := 0) hx hb dX1_phaseOf_6 (by decide) ?_
    refine lv_goto (tgt := 44) hx hb dX1_phaseOf_7 (by decide) ?_
    exact W.iret (v := 0) hx hb hr (fun z8 hz8 hW8 => ⟨⟨0, (), rfl, by rw [show dk_ph t = 0 from by unfold dk_ph; (repeat' split) <;> omega]; rfl, trivial⟩, hS.F hz8⟩) hS.2.2 dX1_phaseOf_44
set_option maxHeartbeats 4000000 in
set_option maxRecDepth 100000 in
/-- isPosition -/
theorem cY_isPosition (l : Launch) (dC : Nat → ClassId) (dI : Nat → Nat → Nat) (x : Int32) : Met l yX1_isPosition wsX1_isPosition ({ frames := 0, cells := 0, slots := 0, locals := 0 }) (dk_Pr [.int x] (dC, dI) vwCl [] []) (va_Qi (fun (r : Int32) (_ : Unit) => (r = 1 ∧ ∃ j : Nat, j < 200 ∧ x = nI j) ∨ (r = 0 ∧ (x < 0 ∨ nI 200 ≤ x))) (fun _ _ => True) dk_no) 0 0 dk_no := by
  refine Met.ofW (cc := cX1_isPosition) (maxL := 1) (ret := (some .boolean)) (by decide) rfl ?_
  intro p e s m args below meth c s₁ B hml hv
  obtain ⟨rfl, hP, hK⟩ := hv
  have hx := B.exec
  have hb := B.bytes
  have hr := B.returns
  have hts := atoms_spec (ws := wsX1_isPosition) B.pre
  have hown : s.vm.findClass RX1 = some m.cls := findClass_of_methodNamed B.named
  have hlocks := B.notSynchronized
  have hS : va_S dk_no s.heap s.heap [] := va_S.rf
  have hl := lv_entry ([.int x]) (n := 1) (Nat.le_of_ble_eq_true rfl)
  rw [lg_entry_eq]
  generalize (lg_sl ([.int x]) ++ List.replicate (1 - (lg_sl ([.int x])).length) Slot.unset).toArray = ls at hl ⊢
  have hl : lv_has ls 1 [(0, .int x)] := hl
  refine lv_iload_n hx hb dX1_isPosition_0 rfl (lv_at hl 0 rfl) ?_
  refine lv_if_lt (tgt := 15) hx hb dX1_isPosition_1 (by decide) (fun c_1 => ?_) (fun c_1 => ?_)
  · refine lv_iconst (v := 0) hx hb dX1_isPosition_15 (by decide) ?_
    exact W.zret (v := 0) hx hb hr (by first | rfl | decide) (fun z8 hz8 hW8 => ⟨⟨0, (), rfl, Or.inr ⟨rfl, Or.inl c_1⟩, trivial⟩, hS.F hz8⟩) hS.2.2 dX1_isPosition_16
  · refine lv_iload_n hx hb dX1_isPosition_4 rfl (lv_at hl 0 rfl) ?_
    refine lv_sipush (v := nI 200) hx hb dX1_isPosition_5 (by decide) ?_
    refine lv_icmp_ge (tgt := 15) hx hb dX1_isPosition_8 (by decide) (fun c_8 => ?_) (fun c_8 => ?_)
    · refine lv_iconst (v := 0) hx hb dX1_isPosition_15 (by decide) ?_
      exact W.zret (v := 0) hx hb hr (by first | rfl | decide) (fun z8 hz8 hW8 => ⟨⟨0, (), rfl, Or.inr ⟨rfl, Or.inr c_8⟩, trivial⟩, hS.F hz8⟩) hS.2.2 dX1_isPosition_16
    · refine lv_iconst (v := 1) hx hb dX1_isPosition_11 (by decide) ?_
      refine lv_goto (tgt := 16) hx hb dX1_isPosition_12 (by decide) ?_
      exact W.zret (v := 1) hx hb hr (by first | rfl | decide) (fun z8 hz8 hW8 => ⟨⟨1, (), rfl, Or.inl ⟨rfl, dk_pos c_1 c_8⟩, trivial⟩, hS.F hz8⟩) hS.2.2 dX1_isPosition_16
set_option maxHeartbeats 4000000 in
set_option maxRecDepth 100000 in
/-- isWithin -/
theorem cY_isWithin (l : Launch) (dC : Nat → ClassId) (dI : Nat → Nat → Nat) (v : Int64) : Met l yX1_isWithin wsX1_isWithin ({ frames := 0, cells := 0, slots := 0, locals := 0 }) (dk_Pr [.long v] (dC, dI) vwCl [] []) (va_Qi (fun (r : Int32) (_ : Unit) => (r = 1 ∧ dk_in v 9000000000000000000) ∨ (r = 0 ∧ ¬ dk_in v 9000000000000000000)) (fun _ _ => True) dk_no) 0 0 dk_no := by
  refine Met.ofW (cc := cX1_isWithin) (maxL := 2) (ret := (some .boolean)) (by decide) rfl ?_
  intro p e s m args below meth c s₁ B hml hv
  obtain ⟨rfl, hP, hK⟩ := hv
  have hx := B.exec
  have hb := B.bytes
  have hr := B.returns
  have hts := atoms_spec (ws := wsX1_isWithin) B.pre
  have hown : s.vm.findClass RX1 = some m.cls := findClass_of_methodNamed B.named
  have hlocks := B.notSynchronized
  have hS : va_S dk_no s.heap s.heap [] := va_S.rf
  have hl := lv_entry ([.long v]) (n := 2) (Nat.le_of_ble_eq_true rfl)
  rw [lg_entry_eq]
  generalize (lg_sl ([.long v]) ++ List.replicate (2 - (lg_sl ([.long v])).length) Slot.unset).toArray = ls at hl ⊢
  have hl : lv_has ls 2 [(0, .long v)] := hl
  refine lv_lload_n hx hb dX1_isWithin_0 rfl (lv_at hl 0 rfl) ?_
  refine lv_ldc2 (v := (-9000000000000000000)) hx hb hown (hts (.constantLong RX1 56 (-9000000000000000000)) (by decide +kernel)) dX1_isWithin_1 ?_
  refine W.lcmp hx hb dX1_isWithin_4 ?_
  refine lv_if_lt (tgt := 20) hx hb dX1_isWithin_5 (by decide) (fun c_5 => ?_) (fun c_5 => ?_)
  · have c_5 : v < ((-9000000000000000000) : Int64) := (lg_cmp_lt _ _).mp c_5
    refine lv_iconst (v := 0) hx hb dX1_isWithin_20 (by decide) ?_
    exact W.zret (v := 0) hx hb hr (by first | rfl | decide) (fun z8 hz8 hW8 => ⟨⟨0, (), rfl, Or.inr ⟨rfl, fun q9 => dk_lnle c_5 q9.1⟩, trivial⟩, hS.F hz8⟩) hS.2.2 dX1_isWithin_21
  · have c_5 : ¬ (v < ((-9000000000000000000) : Int64)) := fun q9 => c_5 ((lg_cmp_lt _ _).mpr q9)
    refine lv_lload_n hx hb dX1_isWithin_8 rfl (lv_at hl 0 rfl) ?_
    refine lv_ldc2 (v := 9000000000000000000) hx hb hown (hts (.constantLong RX1 58 9000000000000000000) (by decide +kernel)) dX1_isWithin_9 ?_
    refine W.lcmp hx hb dX1_isWithin_12 ?_
    refine lv_if_gt (tgt := 20) hx hb dX1_isWithin_13 (by decide) (fun c_13 => ?_) (fun c_13 => ?_)
    · have c_13 : (9000000000000000000 : Int64) < v := (lg_cmp_gt _ _).mp c_13
      refine lv_iconst (v := 0) hx hb dX1_isWithin_20 (by decide) ?_
      exact W.zret (v := 0) hx hb hr (by first | rfl | decide) (fun z8 hz8 hW8 => ⟨⟨0, (), rfl, Or.inr ⟨rfl, fun q9 => dk_lnle c_13 q9.2⟩, trivial⟩, hS.F hz8⟩) hS.2.2 dX1_isWithin_21
    · have c_13 : ¬ ((9000000000000000000 : Int64) < v) := fun q9 => c_13 ((lg_cmp_gt _ _).mpr q9)
      refine lv_iconst (v := 1) hx hb dX1_isWithin_16 (by decide) ?_
      refine lv_goto (tgt := 21) hx hb dX1_isWithin_17 (by decide) ?_
      exact W.zret (v := 1) hx hb hr (by first | rfl | decide) (fun z8 hz8 hW8 => ⟨⟨1, (), rfl, Or.inl ⟨rfl, dk_lnl c_5, dk_lnl c_13⟩, trivial⟩, hS.F hz8⟩) hS.2.2 dX1_isWithin_21
set_option maxHeartbeats 4000000 in
set_option maxRecDepth 100000 in
/-- at -/
theorem cY_at (l : Launch) (dC : Nat → ClassId) (dI : Nat → Nat → Nat) (g0 a1 a2 a3 a4 : Nat) (i4 : ClassId) (TT : Int64) (kk : Int32) (n : Nat) (hn9 : n ≤ 104) (tx : Nat → Int32) (x : Int32) : Met l yX1_at wsX1_at ({ frames := 0, cells := 0, slots := 0, locals := 0 }) (dk_Pr [.ref g0, .int x] (dC, dI) vwCl [(i4, .int)] [(g0, .inr (1, [.long TT, .ref a1, .int kk, .ref a2, .ref a3, .int (nI n), .ref a4])), (a4, .inl (i4, 120, .inl tx))]) (va_Qi (fun (r : Int32) (_ : Unit) => dk_at tx n x r) (fun _ _ => True) dk_no) 0 0 dk_no := by
  refine Met.ofW (cc := cX1_at) (maxL := 2) (ret := (some .int)) (by decide) rfl ?_
  intro p e s m args below meth c s₁ B hml hv
  obtain ⟨rfl, hP, hK⟩ := hv
  have hx := B.exec
  have hb := B.bytes
  have hr := B.returns
  have hts := atoms_spec (ws := wsX1_at) B.pre
  have hown : s.vm.findClass RX1 = some m.cls := findClass_of_methodNamed B.named
  have hlocks := B.notSynchronized
  have hinX1 : ∀ w ∈ wsX10, w ∈ wsX1_at := by decide +kernel
  have hS : va_S dk_no s.heap s.heap [] := va_S.rf
  have hl := lv_entry ([.ref g0, .int x]) (n := 2) (Nat.le_of_ble_eq_true rfl)
  rw [lg_entry_eq]
  generalize (lg_sl ([.ref g0, .int x]) ++ List.replicate (2 - (lg_sl ([.ref g0, .int x])).length) Slot.unset).toArray = ls at hl ⊢
  have hl : lv_has ls 2 [(0, .ref g0), (1, .int x)] := hl
  rcases pk_ix x (n := n) (by omega) with hx0 | hx0 | ⟨j, hj, rfl⟩
  · refine lv_iload_n hx hb dX1_at_0 rfl (lv_at hl 1 rfl) ?_
    refine lv_if_lt (tgt := 21) hx hb dX1_at_1 (by decide) (fun _ => ?_) (fun c9 => absurd hx0 c9)
    refine lv_iconst (v := (-1)) hx hb dX1_at_21 (by decide) ?_
    exact W.iret (v := (-1)) hx hb hr (fun z8 hz8 hW8 => ⟨⟨(-1), (), rfl, Or.inr ⟨rfl, Or.inl hx0⟩, trivial⟩, hS.F hz8⟩) hS.2.2 dX1_at_22
  · refine lv_iload_n hx hb dX1_at_0 rfl (lv_at hl 1 rfl) ?_
    refine lv_if_lt (tgt := 21) hx hb dX1_at_1 (by decide) (fun c9 => ?_) (fun c9 => ?_)
    · refine lv_iconst (v := (-1)) hx hb dX1_at_21 (by decide) ?_
      exact W.iret (v := (-1)) hx hb hr (fun z8 hz8 hW8 => ⟨⟨(-1), (), rfl, Or.inr ⟨rfl, Or.inl c9⟩, trivial⟩, hS.F hz8⟩) hS.2.2 dX1_at_22
    · refine lv_iload_n hx hb dX1_at_4 rfl (lv_at hl 1 rfl) ?_
      refine lv_aload_n hx hb dX1_at_5 rfl (lv_at hl 0 rfl) ?_
      refine va_get (D := (dC, dI)) (ci := 1) (v := .int (nI n)) (C := RX1) (T := TX1) (N := 7) hx hb hts hinX1 hown hK hP 0 rfl rfl 5 (by decide) (hts (.fieldLink RX1 71 "DayDeskModel" "written" "I") (by decide +kernel)) (fun _ h9 => h9) rfl dX1_at_6 ?_
      refine lv_icmp_ge (tgt := 21) hx hb dX1_at_9 (by decide) (fun c_9 => ?_) (fun c_9 => ?_)
      · refine lv_iconst (v := (-1)) hx hb dX1_at_21 (by decide) ?_
        exact W.iret (v := (-1)) hx hb hr (fun z8 hz8 hW8 => ⟨⟨(-1), (), rfl, Or.inr ⟨rfl, Or.inr hx0⟩, trivial⟩, hS.F hz8⟩) hS.2.2 dX1_at_22
      · exact absurd hx0 c_9
  · refine lv_iload_n hx hb dX1_at_0 rfl (lv_at hl 1 rfl) ?_
    refine dk_if_lt (x := j) (tgt := 21) hx hb dX1_at_1 (by decide) (by omega) ?_
    refine lv_iload_n hx hb dX1_at_4 rfl (lv_at hl 1 rfl) ?_
    refine lv_aload_n hx hb dX1_at_5 rfl (lv_at hl 0 rfl) ?_
    refine va_get (D := (dC, dI)) (ci := 1) (v := .int (nI n)) (C := RX1) (T := TX1) (N := 7) hx hb hts hinX1 hown hK hP 0 rfl rfl 5 (by decide) (hts (.fieldLink RX1 71 "DayDeskModel" "written" "I") (by decide +kernel)) (fun _ h9 => h9) rfl dX1_at_6 ?_
    refine dk_icmp_ge (x := j) (y := n) (tgt := 21) hx hb dX1_at_9 (by decide) (by omega) (by omega) (fun c_9 => ?_) (fun c_9 => ?_)
    · exfalso; omega
    · refine lv_aload_n hx hb dX1_at_12 rfl (lv_at hl 0 rfl) ?_
      refine va_get (D := (dC, dI)) (ci := 1) (v := .ref a4) (C := RX1) (T := TX1) (N := 7) hx hb hts hinX1 hown hK hP 0 rfl rfl 6 (by decide) (hts (.fieldLink RX1 20 "DayDeskModel" "text" "[I") (by decide +kernel)) (fun _ h9 => h9) rfl dX1_at_13 ?_
      refine lv_iload_n hx hb dX1_at_16 rfl (lv_at hl 1 rfl) ?_
      refine dk_iald hx hb hK hP 1 0 rfl rfl (j := j) (by omega) (by omega) dX1_at_17 ?_
      refine lv_goto (tgt := 22) hx hb dX1_at_18 (by decide) ?_
      exact W.iret (v := tx j) hx hb hr (fun z8 hz8 hW8 => ⟨⟨(tx j), (), rfl, Or.inl ⟨j, hj, rfl, rfl⟩, trivial⟩, hS.F hz8⟩) hS.2.2 dX1_at_22
