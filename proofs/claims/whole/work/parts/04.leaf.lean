set_option maxHeartbeats 4000000 in
set_option maxRecDepth 100000 in
/-- isPosition: whether there is such a position -/
theorem cX_isPosition (l : Launch) (dC : Nat → ClassId) (dI : Nat → Nat → Nat) (x : Int32) : Met l yX0_isPosition wsX0_isPosition ({ frames := 0, cells := 0, slots := 0, locals := 0 }) (dk_Pr [.int x] (dC, dI) vwCl [] []) (va_Qi (fun (r : Int32) (_ : Unit) => (r = 1 ∧ ∃ j : Nat, j < 200 ∧ x = nI j) ∨ (r = 0 ∧ (x < 0 ∨ nI 200 ≤ x))) (fun _ _ => True) dk_no) 0 0 dk_no := by
  refine Met.ofW (cc := cX0_isPosition) (maxL := 1) (ret := (some .boolean)) (by decide) rfl ?_
  intro p e s m args below meth c s₁ B hml hv
  obtain ⟨rfl, hP, hK⟩ := hv
  have hx := B.exec
  have hb := B.bytes
  have hr := B.returns
  have hts := atoms_spec (ws := wsX0_isPosition) B.pre
  have hown : s.vm.findClass RX0 = some m.cls := findClass_of_methodNamed B.named
  have hlocks := B.notSynchronized
  have hS : va_S dk_no s.heap s.heap [] := va_S.rf
  have hl := lv_entry ([.int x]) (n := 1) (Nat.le_of_ble_eq_true rfl)
  rw [lg_entry_eq]
  generalize (lg_sl ([.int x]) ++ List.replicate (1 - (lg_sl ([.int x])).length) Slot.unset).toArray = ls at hl ⊢
  have hl : lv_has ls 1 [(0, .int x)] := hl
  refine lv_iload_n hx hb dX0_isPosition_0 rfl (lv_at hl 0 rfl) ?_
  refine lv_if_lt (tgt := 15) hx hb dX0_isPosition_1 (by decide) (fun c_1 => ?_) (fun c_1 => ?_)
  · refine lv_iconst (v := 0) hx hb dX0_isPosition_15 (by decide) ?_
    exact W.zret (v := 0) hx hb hr (by first | rfl | decide) (fun z8 hz8 hW8 => ⟨⟨0, (), rfl, Or.inr ⟨rfl, Or.inl c_1⟩, trivial⟩, hS.F hz8⟩) hS.2.2 dX0_isPosition_16
  · refine lv_iload_n hx hb dX0_isPosition_4 rfl (lv_at hl 0 rfl) ?_
    refine lv_sipush (v := nI 200) hx hb dX0_isPosition_5 (by decide) ?_
    refine lv_icmp_ge (tgt := 15) hx hb dX0_isPosition_8 (by decide) (fun c_8 => ?_) (fun c_8 => ?_)
    · refine lv_iconst (v := 0) hx hb dX0_isPosition_15 (by decide) ?_
      exact W.zret (v := 0) hx hb hr (by first | rfl | decide) (fun z8 hz8 hW8 => ⟨⟨0, (), rfl, Or.inr ⟨rfl, Or.inr c_8⟩, trivial⟩, hS.F hz8⟩) hS.2.2 dX0_isPosition_16
    · refine lv_iconst (v := 1) hx hb dX0_isPosition_11 (by decide) ?_
      refine lv_goto (tgt := 16) hx hb dX0_isPosition_12 (by decide) ?_
      exact W.zret (v := 1) hx hb hr (by first | rfl | decide) (fun z8 hz8 hW8 => ⟨⟨1, (), rfl, Or.inl ⟨rfl, dk_pos c_1 c_8⟩, trivial⟩, hS.F hz8⟩) hS.2.2 dX0_isPosition_16
set_option maxHeartbeats 4000000 in
set_option maxRecDepth 100000 in
/-- isWithin: -b .. b -/
theorem cX_isWithin (l : Launch) (dC : Nat → ClassId) (dI : Nat → Nat → Nat) (v b : Int64) : Met l yX0_isWithin wsX0_isWithin ({ frames := 0, cells := 0, slots := 0, locals := 0 }) (dk_Pr [.long v, .long b] (dC, dI) vwCl [] []) (va_Qi (fun (r : Int32) (_ : Unit) => (r = 1 ∧ dk_in v b) ∨ (r = 0 ∧ ¬ dk_in v b)) (fun _ _ => True) dk_no) 0 0 dk_no := by
  refine Met.ofW (cc := cX0_isWithin) (maxL := 4) (ret := (some .boolean)) (by decide) rfl ?_
  intro p e s m args below meth c s₁ B hml hv
  obtain ⟨rfl, hP, hK⟩ := hv
  have hx := B.exec
  have hb := B.bytes
  have hr := B.returns
  have hts := atoms_spec (ws := wsX0_isWithin) B.pre
  have hown : s.vm.findClass RX0 = some m.cls := findClass_of_methodNamed B.named
  have hlocks := B.notSynchronized
  have hS : va_S dk_no s.heap s.heap [] := va_S.rf
  have hl := lv_entry ([.long v, .long b]) (n := 4) (Nat.le_of_ble_eq_true rfl)
  rw [lg_entry_eq]
  generalize (lg_sl ([.long v, .long b]) ++ List.replicate (4 - (lg_sl ([.long v, .long b])).length) Slot.unset).toArray = ls at hl ⊢
  have hl : lv_has ls 4 [(0, .long v), (2, .long b)] := hl
  refine lv_lload_n hx hb dX0_isWithin_0 rfl (lv_at hl 0 rfl) ?_
  refine lv_lload_n hx hb dX0_isWithin_1 rfl (lv_at hl 1 rfl) ?_
  refine lv_lneg hx hb dX0_isWithin_2 ?_
  refine W.lcmp hx hb dX0_isWithin_3 ?_
  refine lv_if_lt (tgt := 17) hx hb dX0_isWithin_4 (by decide) (fun c_4 => ?_) (fun c_4 => ?_)
  · have c_4 : v < (-b) := (lg_cmp_lt _ _).mp c_4
    refine lv_iconst (v := 0) hx hb dX0_isWithin_17 (by decide) ?_
    exact W.zret (v := 0) hx hb hr (by first | rfl | decide) (fun z8 hz8 hW8 => ⟨⟨0, (), rfl, Or.inr ⟨rfl, fun q9 => dk_lnle c_4 q9.1⟩, trivial⟩, hS.F hz8⟩) hS.2.2 dX0_isWithin_18
  · have c_4 : ¬ (v < (-b)) := fun q9 => c_4 ((lg_cmp_lt _ _).mpr q9)
    refine lv_lload_n hx hb dX0_isWithin_7 rfl (lv_at hl 0 rfl) ?_
    refine lv_lload_n hx hb dX0_isWithin_8 rfl (lv_at hl 1 rfl) ?_
    refine W.lcmp hx hb dX0_isWithin_9 ?_
    refine lv_if_gt (tgt := 17) hx hb dX0_isWithin_10 (by decide) (fun c_10 => ?_) (fun c_10 => ?_)
    · have c_10 : b < v := (lg_cmp_gt _ _).mp c_10
      refine lv_iconst (v := 0) hx hb dX0_isWithin_17 (by decide) ?_
      exact W.zret (v := 0) hx hb hr (by first | rfl | decide) (fun z8 hz8 hW8 => ⟨⟨0, (), rfl, Or.inr ⟨rfl, fun q9 => dk_lnle c_10 q9.2⟩, trivial⟩, hS.F hz8⟩) hS.2.2 dX0_isWithin_18
    · have c_10 : ¬ (b < v) := fun q9 => c_10 ((lg_cmp_gt _ _).mpr q9)
      refine lv_iconst (v := 1) hx hb dX0_isWithin_13 (by decide) ?_
      refine lv_goto (tgt := 18) hx hb dX0_isWithin_14 (by decide) ?_
      exact W.zret (v := 1) hx hb hr (by first | rfl | decide) (fun z8 hz8 hW8 => ⟨⟨1, (), rfl, Or.inl ⟨rfl, dk_lnl c_4, dk_lnl c_10⟩, trivial⟩, hS.F hz8⟩) hS.2.2 dX0_isWithin_18
set_option maxHeartbeats 4000000 in
set_option maxRecDepth 100000 in
/-- isResolving -/
theorem cX_isResolving (l : Launch) (dC : Nat → ClassId) (dI : Nat → Nat → Nat) (t : Nat) (ht9 : t < 1000) : Met l yX0_isResolving wsX0_isResolving ({ frames := 0, cells := 0, slots := 0, locals := 0 }) (dk_Pr [.int (nI t)] (dC, dI) vwCl [] []) (va_Qi (fun (r : Int32) (_ : Unit) => (r = 1 ∧ dk_iR t) ∨ (r = 0 ∧ ¬ dk_iR t)) (fun _ _ => True) dk_no) 0 0 dk_no := by
  refine Met.ofW (cc := cX0_isResolving) (maxL := 1) (ret := (some .boolean)) (by decide) rfl ?_
  intro p e s m args below meth c s₁ B hml hv
  obtain ⟨rfl, hP, hK⟩ := hv
  have hx := B.exec
  have hb := B.bytes
  have hr := B.returns
  have hts := atoms_spec (ws := wsX0_isResolving) B.pre
  have hown : s.vm.findClass RX0 = some m.cls := findClass_of_methodNamed B.named
  have hlocks := B.notSynchronized
  have hS : va_S dk_no s.heap s.heap [] := va_S.rf
  have hl := lv_entry ([.int (nI t)]) (n := 1) (Nat.le_of_ble_eq_true rfl)
  rw [lg_entry_eq]
  generalize (lg_sl ([.int (nI t)]) ++ List.replicate (1 - (lg_sl ([.int (nI t)])).length) Slot.unset).toArray = ls at hl ⊢
  have hl : lv_has ls 1 [(0, .int (nI t))] := hl
  refine lv_iload_n hx hb dX0_isResolving_0 rfl (lv_at hl 0 rfl) ?_
  refine lv_sipush (v := nI 150) hx hb dX0_isResolving_1 (by decide) ?_
  refine dk_icmp_lt (x := t) (y := 150) (tgt := 25) hx hb dX0_isResolving_4 (by decide) (by omega) (by omega) (fun c_4 => ?_) (fun c_4 => ?_)
  · refine lv_iconst (v := 0) hx hb dX0_isResolving_25 (by decide) ?_
    exact W.zret (v := 0) hx hb hr (by first | rfl | decide) (fun z8 hz8 hW8 => ⟨⟨0, (), rfl, Or.inr ⟨rfl, by unfold dk_iR; omega⟩, trivial⟩, hS.F hz8⟩) hS.2.2 dX0_isResolving_26
  · refine lv_iload_n hx hb dX0_isResolving_7 rfl (lv_at hl 0 rfl) ?_
    refine lv_sipush (v := nI 900) hx hb dX0_isResolving_8 (by decide) ?_
    refine dk_icmp_gt (x := t) (y := 900) (tgt := 25) hx hb dX0_isResolving_11 (by decide) (by omega) (by omega) (fun c_11 => ?_) (fun c_11 => ?_)
    · refine lv_iconst (v := 0) hx hb dX0_isResolving_25 (by decide) ?_
      exact W.zret (v := 0) hx hb hr (by first | rfl | decide) (fun z8 hz8 hW8 => ⟨⟨0, (), rfl, Or.inr ⟨rfl, by unfold dk_iR; omega⟩, trivial⟩, hS.F hz8⟩) hS.2.2 dX0_isResolving_26
    · refine lv_iload_n hx hb dX0_isResolving_14 rfl (lv_at hl 0 rfl) ?_
      refine lv_bipush (v := nI 50) hx hb dX0_isResolving_15 (by decide) ?_
      refine lv_irem hx hb dX0_isResolving_17 (by decide) ?_
      refine dk_asi (y := nI (t % 50)) (pk_rem (a := t) (d := 50) (by omega) (by omega) (by omega)) ?_
      refine dk_if_ne (x := t % 50) (tgt := 25) hx hb dX0_isResolving_18 (by decide) (by omega) (fun c_18 => ?_) (fun c_18 => ?_)
      · refine lv_iconst (v := 0) hx hb dX0_isResolving_25 (by decide) ?_
        exact W.zret (v := 0) hx hb hr (by first | rfl | decide) (fun z8 hz8 hW8 => ⟨⟨0, (), rfl, Or.inr ⟨rfl, by unfold dk_iR; omega⟩, trivial⟩, hS.F hz8⟩) hS.2.2 dX0_isResolving_26
      · refine lv_iconst (v := 1) hx hb dX0_isResolving_21 (by decide) ?_
        refine lv_goto (tgt := 26) hx hb dX0_isResolving_22 (by decide) ?_
        exact W.zret (v := 1) hx hb hr (by first | rfl | decide) (fun z8 hz8 hW8 => ⟨⟨1, (), rfl, Or.inl ⟨rfl, by unfold dk_iR; omega⟩, trivial⟩, hS.F hz8⟩) hS.2.2 dX0_isResolving_26
set_option maxHeartbeats 4000000 in
set_option maxRecDepth 100000 in
/-- resolvingsUntil -/
theorem cX_resolvingsUntil (l : Launch) (dC : Nat → ClassId) (dI : Nat → Nat → Nat) (t : Nat) (ht9 : t < 1000) : Met l yX0_resolvingsUntil wsX0_resolvingsUntil ({ frames := 1, cells := 0, slots := 0, locals := 13 }) (dk_Pr [.int (nI t)] (dC, dI) vwCl [] []) (va_Qi (fun (r : Int32) (_ : Unit) => r = nI (dk_rU t)) (fun _ _ => True) dk_no) 0 0 dk_no := by
  refine Met.ofW (cc := cX0_resolvingsUntil) (maxL := 2) (ret := (some .int)) (by decide) rfl ?_
  intro p e s m args below meth c s₁ B hml hv
  obtain ⟨rfl, hP, hK⟩ := hv
  have hx := B.exec
  have hb := B.bytes
  have hr := B.returns
  have hts := atoms_spec (ws := wsX0_resolvingsUntil) B.pre
  have hown : s.vm.findClass RX0 = some m.cls := findClass_of_methodNamed B.named
  have hlocks := B.notSynchronized
  have hS : va_S dk_no s.heap s.heap [] := va_S.rf
  have hl := lv_entry ([.int (nI t)]) (n := 2) (Nat.le_of_ble_eq_true rfl)
  rw [lg_entry_eq]
  generalize (lg_sl ([.int (nI t)]) ++ List.replicate (2 - (lg_sl ([.int (nI t)])).length) Slot.unset).toArray = ls at hl ⊢
  have hl : lv_has ls 2 [(0, .int (nI t))] := hl
  refine lv_iload_n hx hb dX0_resolvingsUntil_0 rfl (lv_at hl 0 rfl) ?_
  refine lv_sipush (v := nI 150) hx hb dX0_resolvingsUntil_1 (by decide) ?_
  refine dk_icmp_ge (x := t) (y := 150) (tgt := 9) hx hb dX0_resolvingsUntil_4 (by decide) (by omega) (by omega) (fun c_4 => ?_) (fun c_4 => ?_)
  · refine lv_iload_n hx hb dX0_resolvingsUntil_9 rfl (lv_at hl 0 rfl) ?_
    refine lv_sipush (v := nI 900) hx hb dX0_resolvingsUntil_10 (by decide) ?_
    refine va_mmin hx hb (by rw [hml]; exact hl.1.symm) hown (hts (.methodLink RX0 89 Lib.Math.min.name) (by decide +kernel)) (hts (.static Lib.Math.min.name) (by decide +kernel)) (hts (.initialized "java/lang/Math") (by decide +kernel)) (hts (.code Lib.Math.min.name Lib.Math.min.code 2 (some .int)) (by decide +kernel)) (Nat.le_of_ble_eq_true rfl) (Nat.le_of_ble_eq_true rfl) (Nat.le_of_ble_eq_true rfl) (Nat.le_of_ble_eq_true rfl) dX0_resolvingsUntil_13 ?_
    refine dk_asi (y := nI (min t 900)) (dk_min (by omega) (by omega)) ?_
    refine lv_istore_n (lv' := [(1, .int (nI (min t 900))), (0, .int (nI t))]) hx hb dX0_resolvingsUntil_16 rfl hl (by decide) rfl (fun ls hl => ?_)
    refine lv_iload_n hx hb dX0_resolvingsUntil_17 rfl (lv_at hl 0 rfl) ?_
    refine lv_sipush (v := nI 150) hx hb dX0_resolvingsUntil_18 (by decide) ?_
    refine lv_isub hx hb dX0_resolvingsUntil_21 ?_
    refine dk_asi (y := nI ((min t 900) - 150)) (pk_sub (a := min t 900) (b := 150) (by omega)) ?_
    refine lv_bipush (v := nI 50) hx hb dX0_resolvingsUntil_22 (by decide) ?_
    refine lv_idiv hx hb dX0_resolvingsUntil_24 (by decide) ?_
    refine dk_asi (y := nI (((min t 900) - 150) / 50)) (pk_div (a := (min t 900) - 150) (d := 50) (by omega) (by omega) (by omega)) ?_
    refine lv_iconst (v := 1) hx hb dX0_resolvingsUntil_25 (by decide) ?_
    refine lv_iadd hx hb dX0_resolvingsUntil_26 ?_
    refine dk_asi (y := nI ((((min t 900) - 150) / 50) + 1)) (nI_add (((min t 900) - 150) / 50) 1) ?_
    exact W.iret (v := nI ((((min t 900) - 150) / 50) + 1)) hx hb hr (fun z8 hz8 hW8 => ⟨⟨(nI ((((min t 900) - 150) / 50) + 1)), (), rfl, by unfold dk_rU; rw [if_neg (by omega)], trivial⟩, hS.F hz8⟩) hS.2.2 dX0_resolvingsUntil_27
  · refine lv_iconst (v := 0) hx hb dX0_resolvingsUntil_7 (by decide) ?_
    exact W.iret (v := 0) hx hb hr (fun z8 hz8 hW8 => ⟨⟨0, (), rfl, by unfold dk_rU; rw [if_pos (by omega)]; exact nI_0.symm, trivial⟩, hS.F hz8⟩) hS.2.2 dX0_resolvingsUntil_8
set_option maxHeartbeats 4000000 in
set_option maxRecDepth 100000 in
/-- phaseNow -/
theorem cX_phaseNow (l : Launch) (dC : Nat → ClassId) (dI : Nat → Nat → Nat) (h0 qo qw qc qn qm ql : Nat) (d ll : Int32) (t : Nat) (ht9 : t < 1000) : Met l yX0_phaseNow wsX0_phaseNow ({ frames := 0, cells := 0, slots := 0, locals := 0 }) (dk_Pr [.ref h0] (dC, dI) vwCl [] [(h0, .inr (0, [.int d, .int (nI t), .ref qo, .ref qw, .ref qc, .ref qn, .ref qm, .ref ql, .int ll]))]) (va_Qi (fun (r : Int32) (_ : Unit) => (r = 0 ∧ t < 100) ∨ (r = 1 ∧ 100 ≤ t ∧ t < 700) ∨ (r = 2 ∧ 700 ≤ t ∧ t < 800) ∨ (r = 3 ∧ 800 ≤ t ∧ t < 900) ∨ (r = 4 ∧ 900 ≤ t)) (fun _ _ => True) dk_no) 0 0 dk_no := by
  refine Met.ofW (cc := cX0_phaseNow) (maxL := 1) (ret := (some .int)) (by decide) rfl ?_
  intro p e s m args below meth c s₁ B hml hv
  obtain ⟨rfl, hP, hK⟩ := hv
  have hx := B.exec
  have hb := B.bytes
  have hr := B.returns
  have hts := atoms_spec (ws := wsX0_phaseNow) B.pre
  have hown : s.vm.findClass RX0 = some m.cls := findClass_of_methodNamed B.named
  have hlocks := B.notSynchronized
  have hinX0 : ∀ w ∈ wsX00, w ∈ wsX0_phaseNow := by decide +kernel
  have hS : va_S dk_no s.heap s.heap [] := va_S.rf
  have hl := lv_entry ([.ref h0]) (n := 1) (Nat.le_of_ble_eq_true rfl)
  rw [lg_entry_eq]
  generalize (lg_sl ([.ref h0]) ++ List.replicate (1 - (lg_sl ([.ref h0])).length) Slot.unset).toArray = ls at hl ⊢
  have hl : lv_has ls 1 [(0, .ref h0)] := hl
  refine lv_aload_n hx hb dX0_phaseNow_0 rfl (lv_at hl 0 rfl) ?_
  refine va_get (D := (dC, dI)) (ci := 0) (v := .int (nI t)) (C := RX0) (T := TX0) (N := 9) hx hb hts hinX0 hown hK hP 0 rfl rfl 1 (by decide) (hts (.fieldLink RX0 13 "DayDesk" "tick" "I") (by decide +kernel)) (fun _ h9 => h9) rfl dX0_phaseNow_1 ?_
  refine lv_bipush (v := nI 100) hx hb dX0_phaseNow_4 (by decide) ?_
  refine dk_icmp_ge (x := t) (y := 100) (tgt := 11) hx hb dX0_phaseNow_6 (by decide) (by omega) (by omega) (fun c_6 => ?_) (fun c_6 => ?_)
  · refine lv_aload_n hx hb dX0_phaseNow_11 rfl (lv_at hl 0 rfl) ?_
    refine va_get (D := (dC, dI)) (ci := 0) (v := .int (nI t)) (C := RX0) (T := TX0) (N := 9) hx hb hts hinX0 hown hK hP 0 rfl rfl 1 (by decide) (hts (.fieldLink RX0 13 "DayDesk" "tick" "I") (by decide +kernel)) (fun _ h9 => h9) rfl dX0_phaseNow_12 ?_
    refine lv_sipush (v := nI 700) hx hb dX0_phaseNow_15 (by decide) ?_
    refine dk_icmp_ge (x := t) (y := 700) (tgt := 23) hx hb dX0_phaseNow_18 (by decide) (by omega) (by omega) (fun c_18 => ?_) (fun c_18 => ?_)
    · refine lv_aload_n hx hb dX0_phaseNow_23 rfl (lv_at hl 0 rfl) ?_
      refine va_get (D := (dC, dI)) (ci := 0) (v := .int (nI t)) (C := RX0) (T := TX0) (N := 9) hx hb hts hinX0 hown hK hP 0 rfl rfl 1 (by decide) (hts (.fieldLink RX0 13 "DayDesk" "tick" "I") (by decide +kernel)) (fun _ h9 => h9) rfl dX0_phaseNow_24 ?_
      refine lv_sipush (v := nI 800) hx hb dX0_phaseNow_27 (by decide) ?_
      refine dk_icmp_ge (x := t) (y := 800) (tgt := 35) hx hb dX0_phaseNow_30 (by decide) (by omega) (by omega) (fun c_30 => ?_) (fun c_30 => ?_)
      · refine lv_aload_n hx hb dX0_phaseNow_35 rfl (lv_at hl 0 rfl) ?_
        refine va_get (D := (dC, dI)) (ci := 0) (v := .int (nI t)) (C := RX0) (T := TX0) (N := 9) hx hb hts hinX0 hown hK hP 0 rfl rfl 1 (by decide) (hts (.fieldLink RX0 13 "DayDesk" "tick" "I") (by decide +kernel)) (fun _ h9 => h9) rfl dX0_phaseNow_36 ?_
        refine lv_sipush (v := nI 900) hx hb dX0_phaseNow_39 (by decide) ?_
        refine dk_icmp_ge (x := t) (y := 900) (tgt := 49) hx hb dX0_phaseNow_42 (by decide) (by omega) (by omega) (fun c_42 => ?_) (fun c_42 => ?_)
        · refine lv_iconst (v := 4) hx hb dX0_phaseNow_49 (by decide) ?_
          exact W.iret (v := 4) hx hb hr (fun z8 hz8 hW8 => ⟨⟨4, (), rfl, Or.inr (Or.inr (Or.inr (Or.inr (⟨rfl, by omega⟩)))), trivial⟩, hS.F hz8⟩) hS.2.2 dX0_phaseNow_50
        · refine lv_iconst (v := 3) hx hb dX0_phaseNow_45 (by decide) ?_
          refine lv_goto (tgt := 50) hx hb dX0_phaseNow_46 (by decide) ?_
          exact W.iret (v := 3) hx hb hr (fun z8 hz8 hW8 => ⟨⟨3, (), rfl, Or.inr (Or.inr (Or.inr (Or.inl ⟨rfl, by omega, by omega⟩))), trivial⟩, hS.F hz8⟩) hS.2.2 dX0_phaseNow_50
      · refine lv_iconst (v := 2) hx hb dX0_phaseNow_33 (by decide) ?_
        exact W.iret (v := 2) hx hb hr (fun z8 hz8 hW8 => ⟨⟨2, (), rfl, Or.inr (Or.inr (Or.inl ⟨rfl, by omega, by omega⟩)), trivial⟩, hS.F hz8⟩) hS.2.2 dX0_phaseNow_34
    · refine lv_iconst (v := 1) hx hb dX0_phaseNow_21 (by decide) ?_
      exact W.iret (v := 1) hx hb hr (fun z8 hz8 hW8 => ⟨⟨1, (), rfl, Or.inr (Or.inl ⟨rfl, by omega, by omega⟩), trivial⟩, hS.F hz8⟩) hS.2.2 dX0_phaseNow_22
  · refine lv_iconst (v := 0) hx hb dX0_phaseNow_9 (by decide) ?_
    exact W.iret (v := 0) hx hb hr (fun z8 hz8 hW8 => ⟨⟨0, (), rfl, Or.inl ⟨rfl, by omega⟩, trivial⟩, hS.F hz8⟩) hS.2.2 dX0_phaseNow_10
set_option maxHeartbeats 4000000 in
set_option maxRecDepth 100000 in
/-- nextResolving -/
theorem cX_nextResolving (l : Launch) (dC : Nat → ClassId) (dI : Nat → Nat → Nat) (h0 qo qw qc qn qm ql : Nat) (d ll : Int32) (t : Nat) (ht9 : t < 1000) : Met l yX0_nextResolving wsX0_nextResolving ({ frames := 2, cells := 0, slots := 0, locals := 34 }) (dk_Pr [.ref h0] (dC, dI) vwCl [] [(h0, .inr (0, [.int d, .int (nI t), .ref qo, .ref qw, .ref qc, .ref qn, .ref qm, .ref ql, .int ll]))]) (va_Qi (fun (r : Int32) (_ : Unit) => r = nI (dk_nR t)) (fun _ _ => True) dk_no) 0 0 dk_no := by
  refine Met.ofW (cc := cX0_nextResolving) (maxL := 1) (ret := (some .int)) (by decide) rfl ?_
  intro p e s m args below meth c s₁ B hml hv
  obtain ⟨rfl, hP, hK⟩ := hv
  have hx := B.exec
  have hb := B.bytes
  have hr := B.returns
  have hts := atoms_spec (ws := wsX0_nextResolving) B.pre
  have hown : s.vm.findClass RX0 = some m.cls := findClass_of_methodNamed B.named
  have hlocks := B.notSynchronized
  have hinX0 : ∀ w ∈ wsX00, w ∈ wsX0_nextResolving := by decide +kernel
  have hS : va_S dk_no s.heap s.heap [] := va_S.rf
  have hl := lv_entry ([.ref h0]) (n := 1) (Nat.le_of_ble_eq_true rfl)
  rw [lg_entry_eq]
  generalize (lg_sl ([.ref h0]) ++ List.replicate (1 - (lg_sl ([.ref h0])).length) Slot.unset).toArray = ls at hl ⊢
  have hl : lv_has ls 1 [(0, .ref h0)] := hl
  have hrU := dk_rU_le t
  refine lv_aload_n hx hb dX0_nextResolving_0 rfl (lv_at hl 0 rfl) ?_
  refine va_get (D := (dC, dI)) (ci := 0) (v := .int (nI t)) (C := RX0) (T := TX0) (N := 9) hx hb hts hinX0 hown hK hP 0 rfl rfl 1 (by decide) (hts (.fieldLink RX0 13 "DayDesk" "tick" "I") (by decide +kernel)) (fun _ h9 => h9) rfl dX0_nextResolving_1 ?_
  refine lv_sipush (v := nI 900) hx hb dX0_nextResolving_4 (by decide) ?_
  refine dk_icmp_lt (x := t) (y := 900) (tgt := 14) hx hb dX0_nextResolving_7 (by decide) (by omega) (by omega) (fun c_7 => ?_) (fun c_7 => ?_)
  · refine lv_sipush (v := nI 150) hx hb dX0_nextResolving_14 (by decide) ?_
    refine lv_aload_n hx hb dX0_nextResolving_17 rfl (lv_at hl 0 rfl) ?_
    refine va_get (D := (dC, dI)) (ci := 0) (v := .int (nI t)) (C := RX0) (T := TX0) (N := 9) hx hb hts hinX0 hown hK hP 0 rfl rfl 1 (by decide) (hts (.fieldLink RX0 13 "DayDesk" "tick" "I") (by decide +kernel)) (fun _ h9 => h9) rfl dX0_nextResolving_18 ?_
    have hKc := hK
    refine va_calli (va_runS (As := [.int (nI t)]) (rest := [.int (nI 150)]) ⟨hx, hb, hml, hown, hts⟩ (cX_resolvingsUntil l dC dI t ht9) (va_cwS 1 hts gX0_nextResolving_X0_resolvingsUntil rfl rfl rfl (by decide +kernel) ⟨Nat.le_of_ble_eq_true rfl, Nat.le_of_ble_eq_true rfl⟩) (dk_rS dk_P0 hKc) rfl rfl hl.1 rfl (lv_room (Nat.le_of_ble_eq_true rfl)) dX0_nextResolving_21 ⟨Nat.zero_le _, Nat.zero_le _⟩) hS (fun q _ h => False.elim h) (fun q h => False.elim h) (fun r_21 u8 t8 H1 locs ht8 hvm8 hw hB hz1 hk1 hS => ?_)
    try dsimp only at hw
    have hP := dk_kept hP hk1
    generalize H1 = H at hP hS ⊢
    subst hw
    refine lv_bipush (v := nI 50) hx hb dX0_nextResolving_24 (by decide) ?_
    refine lv_imul hx hb dX0_nextResolving_26 ?_
    refine dk_asi (y := nI ((dk_rU t) * 50)) (pk_mul (dk_rU t) 50) ?_
    refine lv_iadd hx hb dX0_nextResolving_27 ?_
    refine dk_asi (y := nI (150 + ((dk_rU t) * 50))) (nI_add 150 ((dk_rU t) * 50)) ?_
    exact W.iret (v := nI (150 + ((dk_rU t) * 50))) hx hb hr (fun z8 hz8 hW8 => ⟨⟨(nI (150 + ((dk_rU t) * 50))), (), rfl, by unfold dk_nR; rw [if_neg (by omega)], trivial⟩, hS.F hz8⟩) hS.2.2 dX0_nextResolving_28
  · refine lv_sipush (v := nI 1150) hx hb dX0_nextResolving_10 (by decide) ?_
    exact W.iret (v := nI 1150) hx hb hr (fun z8 hz8 hW8 => ⟨⟨(nI 1150), (), rfl, by unfold dk_nR; rw [if_pos (by omega)], trivial⟩, hS.F hz8⟩) hS.2.2 dX0_nextResolving_13
set_option maxHeartbeats 4000000 in
set_option maxRecDepth 100000 in
/-- nextPhaseBegins -/
theorem cX_nextPhaseBegins (l : Launch) (dC : Nat → ClassId) (dI : Nat → Nat → Nat) (h0 qo qw qc qn qm ql : Nat) (d ll : Int32) (t : Nat) (ht9 : t < 1000) : Met l yX0_nextPhaseBegins wsX0_nextPhaseBegins ({ frames := 1, cells := 0, slots := 0, locals := 20 }) (dk_Pr [.ref h0] (dC, dI) vwCl [] [(h0, .inr (0, [.int d, .int (nI t), .ref qo, .ref qw, .ref qc, .ref qn, .ref qm, .ref ql, .int ll]))]) (va_Qi (fun (r : Int32) (_ : Unit) => r = nI (dk_nP t)) (fun _ _ => True) dk_no) 0 0 dk_no := by
  refine Met.ofW (cc := cX0_nextPhaseBegins) (maxL := 1) (ret := (some .int)) (by decide) rfl ?_
  intro p e s m args below meth c s₁ B hml hv
  obtain ⟨rfl, hP, hK⟩ := hv
  have hx := B.exec
  have hb := B.bytes
  have hr := B.returns
  have hts := atoms_spec (ws := wsX0_nextPhaseBegins) B.pre
  have hown : s.vm.findClass RX0 = some m.cls := findClass_of_methodNamed B.named
  have hlocks := B.notSynchronized
  have hS : va_S dk_no s.heap s.heap [] := va_S.rf
  have hl := lv_entry ([.ref h0]) (n := 1) (Nat.le_of_ble_eq_true rfl)
  rw [lg_entry_eq]
  generalize (lg_sl ([.ref h0]) ++ List.replicate (1 - (lg_sl ([.ref h0])).length) Slot.unset).toArray = ls at hl ⊢
  have hl : lv_has ls 1 [(0, .ref h0)] := hl
  refine lv_aload_n hx hb dX0_nextPhaseBegins_0 rfl (lv_at hl 0 rfl) ?_
  have hPc := hP
  have hKc := hK
  refine va_calli (va_runV (As := []) (rest := []) ⟨hx, hb, hml, hown, hts⟩ (cX_phaseNow l dC dI h0 qo qw qc qn qm ql d ll t ht9) (cwV 0 hts gX0_nextPhaseBegins_X0_phaseNow rfl rfl rfl (by decide +kernel) ⟨Nat.le_of_ble_eq_true rfl, Nat.le_of_ble_eq_true rfl⟩) (dk_rV hPc hKc (ci := 0) (q0 := 0) rfl rfl) rfl rfl hl.1 rfl (lv_room (Nat.le_of_ble_eq_true rfl)) dX0_nextPhaseBegins_1 ⟨Nat.zero_le _, Nat.zero_le _⟩) hS (fun q _ h => False.elim h) (fun q h => False.elim h) (fun r_1 u8 t8 H1 locs ht8 hvm8 hw hB hz1 hk1 hS => ?_)
  try dsimp only at hw
  have hP := dk_kept hP hk1
  generalize H1 = H at hP hS ⊢
  rcases hw with ⟨rfl, h1⟩ | ⟨rfl, h1, h2⟩ | ⟨rfl, h1, h2⟩ | ⟨rfl, h1, h2⟩ | ⟨rfl, h1⟩
  · refine lv_tableIn (tgt := 36) (off := 32) hx hb dX0_nextPhaseBegins_4 (by decide) (by decide) (by decide) (by decide) ?_
    refine lv_bipush (v := nI 100) hx hb dX0_nextPhaseBegins_36 (by decide) ?_
    exact W.iret (v := nI 100) hx hb hr (fun z8 hz8 hW8 => ⟨⟨(nI 100), (), rfl, by rw [show dk_nP t = 100 from by unfold dk_nP; (repeat' split) <;> omega], trivial⟩, hS.F hz8⟩) hS.2.2 dX0_nextPhaseBegins_38
  · refine lv_tableIn (tgt := 39) (off := 35) hx hb dX0_nextPhaseBegins_4 (by decide) (by decide) (by decide) (by decide) ?_
    refine lv_sipush (v := nI 700) hx hb dX0_nextPhaseBegins_39 (by decide) ?_
    exact W.iret (v := nI 700) hx hb hr (fun z8 hz8 hW8 => ⟨⟨(nI 700), (), rfl, by rw [show dk_nP t = 700 from by unfold dk_nP; (repeat' split) <;> omega], trivial⟩, hS.F hz8⟩) hS.2.2 dX0_nextPhaseBegins_42
  · refine lv_tableIn (tgt := 43) (off := 39) hx hb dX0_nextPhaseBegins_4 (by decide) (by decide) (by decide) (by decide) ?_
    refine lv_sipush (v := nI 800) hx hb dX0_nextPhaseBegins_43 (by decide) ?_
    exact W.iret (v := nI 800) hx hb hr (fun z8 hz8 hW8 => ⟨⟨(nI 800), (), rfl, by rw [show dk_nP t = 800 from by unfold dk_nP; (repeat' split) <;> omega], trivial⟩, hS.F hz8⟩) hS.2.2 dX0_nextPhaseBegins_46
  · refine lv_tableIn (tgt := 47) (off := 43) hx hb dX0_nextPhaseBegins_4 (by decide) (by decide) (by decide) (by decide) ?_
    refine lv_sipush (v := nI 900) hx hb dX0_nextPhaseBegins_47 (by decide) ?_
    exact W.iret (v := nI 900) hx hb hr (fun z8 hz8 hW8 => ⟨⟨(nI 900), (), rfl, by rw [show dk_nP t = 900 from by unfold dk_nP; (repeat' split) <;> omega], trivial⟩, hS.F hz8⟩) hS.2.2 dX0_nextPhaseBegins_50
  · refine lv_tableOut (tgt := 51) hx hb dX0_nextPhaseBegins_4 (by decide) (by decide) ?_
    refine lv_sipush (v := nI 1000) hx hb dX0_nextPhaseBegins_51 (by decide) ?_
    exact W.iret (v := nI 1000) hx hb hr (fun z8 hz8 hW8 => ⟨⟨(nI 1000), (), rfl, by rw [show dk_nP t = 1000 from by unfold dk_nP; (repeat' split) <;> omega], trivial⟩, hS.F hz8⟩) hS.2.2 dX0_nextPhaseBegins_54
set_option maxHeartbeats 4000000 in
set_option maxRecDepth 100000 in
/-- isClosedWhenEarly -/
theorem cX_isClosedWhenEarly (l : Launch) (dC : Nat → ClassId) (dI : Nat → Nat → Nat) (x : Int32) : Met l yX0_isClosedWhenEarly wsX0_isClosedWhenEarly ({ frames := 0, cells := 0, slots := 0, locals := 0 }) (dk_Pr [.int x] (dC, dI) vwCl [] []) (va_Qi (fun (r : Int32) (_ : Unit) => (r = 1 ∧ dk_cE x) ∨ (r = 0 ∧ ¬ dk_cE x)) (fun _ _ => True) dk_no) 0 0 dk_no := by
  refine Met.ofW (cc := cX0_isClosedWhenEarly) (maxL := 1) (ret := (some .boolean)) (by decide) rfl ?_
  intro p e s m args below meth c s₁ B hml hv
  obtain ⟨rfl, hP, hK⟩ := hv
  have hx := B.exec
  have hb := B.bytes
  have hr := B.returns
  have hts := atoms_spec (ws := wsX0_isClosedWhenEarly) B.pre
  have hown : s.vm.findClass RX0 = some m.cls := findClass_of_methodNamed B.named
  have hlocks := B.notSynchronized
  have hS : va_S dk_no s.heap s.heap [] := va_S.rf
  have hl := lv_entry ([.int x]) (n := 1) (Nat.le_of_ble_eq_true rfl)
  rw [lg_entry_eq]
  generalize (lg_sl ([.int x]) ++ List.replicate (1 - (lg_sl ([.int x])).length) Slot.unset).toArray = ls at hl ⊢
  have hl : lv_has ls 1 [(0, .int x)] := hl
  refine lv_iload_n hx hb dX0_isClosedWhenEarly_0 rfl (lv_at hl 0 rfl) ?_
  refine lv_iconst (v := 3) hx hb dX0_isClosedWhenEarly_1 (by decide) ?_
  refine lv_icmp_eq (tgt := 27) hx hb dX0_isClosedWhenEarly_2 (by decide) (fun c_2 => ?_) (fun c_2 => ?_)
  · refine lv_iconst (v := 1) hx hb dX0_isClosedWhenEarly_27 (by decide) ?_
    refine lv_goto (tgt := 32) hx hb dX0_isClosedWhenEarly_28 (by decide) ?_
    exact W.zret (v := 1) hx hb hr (by first | rfl | decide) (fun z8 hz8 hW8 => ⟨⟨1, (), rfl, Or.inl ⟨rfl, Or.inl c_2⟩, trivial⟩, hS.F hz8⟩) hS.2.2 dX0_isClosedWhenEarly_32
  · refine lv_iload_n hx hb dX0_isClosedWhenEarly_5 rfl (lv_at hl 0 rfl) ?_
    refine lv_iconst (v := 4) hx hb dX0_isClosedWhenEarly_6 (by decide) ?_
    refine lv_icmp_eq (tgt := 27) hx hb dX0_isClosedWhenEarly_7 (by decide) (fun c_7 => ?_) (fun c_7 => ?_)
    · refine lv_iconst (v := 1) hx hb dX0_isClosedWhenEarly_27 (by decide) ?_
      refine lv_goto (tgt := 32) hx hb dX0_isClosedWhenEarly_28 (by decide) ?_
      exact W.zret (v := 1) hx hb hr (by first | rfl | decide) (fun z8 hz8 hW8 => ⟨⟨1, (), rfl, Or.inl ⟨rfl, Or.inr (Or.inl c_7)⟩, trivial⟩, hS.F hz8⟩) hS.2.2 dX0_isClosedWhenEarly_32
    · refine lv_iload_n hx hb dX0_isClosedWhenEarly_10 rfl (lv_at hl 0 rfl) ?_
      refine lv_iconst (v := 5) hx hb dX0_isClosedWhenEarly_11 (by decide) ?_
      refine lv_icmp_eq (tgt := 27) hx hb dX0_isClosedWhenEarly_12 (by decide) (fun c_12 => ?_) (fun c_12 => ?_)
      · refine lv_iconst (v := 1) hx hb dX0_isClosedWhenEarly_27 (by decide) ?_
        refine lv_goto (tgt := 32) hx hb dX0_isClosedWhenEarly_28 (by decide) ?_
        exact W.zret (v := 1) hx hb hr (by first | rfl | decide) (fun z8 hz8 hW8 => ⟨⟨1, (), rfl, Or.inl ⟨rfl, Or.inr (Or.inr (Or.inl c_12))⟩, trivial⟩, hS.F hz8⟩) hS.2.2 dX0_isClosedWhenEarly_32
      · refine lv_iload_n hx hb dX0_isClosedWhenEarly_15 rfl (lv_at hl 0 rfl) ?_
        refine lv_bipush (v := 6) hx hb dX0_isClosedWhenEarly_16 (by decide) ?_
        refine lv_icmp_eq (tgt := 27) hx hb dX0_isClosedWhenEarly_18 (by decide) (fun c_18 => ?_) (fun c_18 => ?_)
        · refine lv_iconst (v := 1) hx hb dX0_isClosedWhenEarly_27 (by decide) ?_
          refine lv_goto (tgt := 32) hx hb dX0_isClosedWhenEarly_28 (by decide) ?_
          exact W.zret (v := 1) hx hb hr (by first | rfl | decide) (fun z8 hz8 hW8 => ⟨⟨1, (), rfl, Or.inl ⟨rfl, Or.inr (Or.inr (Or.inr (Or.inl c_18)))⟩, trivial⟩, hS.F hz8⟩) hS.2.2 dX0_isClosedWhenEarly_32
        · refine lv_iload_n hx hb dX0_isClosedWhenEarly_21 rfl (lv_at hl 0 rfl) ?_
          refine lv_bipush (v := 13) hx hb dX0_isClosedWhenEarly_22 (by decide) ?_
          refine lv_icmp_ne (tgt := 31) hx hb dX0_isClosedWhenEarly_24 (by decide) (fun c_24 => ?_) (fun c_24 => ?_)
          · refine lv_iconst (v := 0) hx hb dX0_isClosedWhenEarly_31 (by decide) ?_
            exact W.zret (v := 0) hx hb hr (by first | rfl | decide) (fun z8 hz8 hW8 => ⟨⟨0, (), rfl, Or.inr ⟨rfl, by unfold dk_cE; intro q9; rcases q9 with q9 | q9 | q9 | q9 | q9 <;> contradiction⟩, trivial⟩, hS.F hz8⟩) hS.2.2 dX0_isClosedWhenEarly_32
          · refine lv_iconst (v := 1) hx hb dX0_isClosedWhenEarly_27 (by decide) ?_
            refine lv_goto (tgt := 32) hx hb dX0_isClosedWhenEarly_28 (by decide) ?_
            exact W.zret (v := 1) hx hb hr (by first | rfl | decide) (fun z8 hz8 hW8 => ⟨⟨1, (), rfl, Or.inl ⟨rfl, Or.inr (Or.inr (Or.inr (Or.inr (c_24))))⟩, trivial⟩, hS.F hz8⟩) hS.2.2 dX0_isClosedWhenEarly_32
set_option maxHeartbeats 4000000 in
set_option maxRecDepth 100000 in
/-- isClosedWhenShut -/
theorem cX_isClosedWhenShut (l : Launch) (dC : Nat → ClassId) (dI : Nat → Nat → Nat) (x : Int32) : Met l yX0_isClosedWhenShut wsX0_isClosedWhenShut ({ frames := 1, cells := 0, slots := 0, locals := 20 }) (dk_Pr [.int x] (dC, dI) vwCl [] []) (va_Qi (fun (r : Int32) (_ : Unit) => (r = 1 ∧ dk_cS x) ∨ (r = 0 ∧ ¬ dk_cS x)) (fun _ _ => True) dk_no) 0 0 dk_no := by
  refine Met.ofW (cc := cX0_isClosedWhenShut) (maxL := 1) (ret := (some .boolean)) (by decide) rfl ?_
  intro p e s m args below meth c s₁ B hml hv
  obtain ⟨rfl, hP, hK⟩ := hv
  have hx := B.exec
  have hb := B.bytes
  have hr := B.returns
  have hts := atoms_spec (ws := wsX0_isClosedWhenShut) B.pre
  have hown : s.vm.findClass RX0 = some m.cls := findClass_of_methodNamed B.named
  have hlocks := B.notSynchronized
  have hS : va_S dk_no s.heap s.heap [] := va_S.rf
  have hl := lv_entry ([.int x]) (n := 1) (Nat.le_of_ble_eq_true rfl)
  rw [lg_entry_eq]
  generalize (lg_sl ([.int x]) ++ List.replicate (1 - (lg_sl ([.int x])).length) Slot.unset).toArray = ls at hl ⊢
  have hl : lv_has ls 1 [(0, .int x)] := hl
  refine lv_iload_n hx hb dX0_isClosedWhenShut_0 rfl (lv_at hl 0 rfl) ?_
  have hPc := hP
  have hKc := hK
  refine va_calli (va_runS (As := [.int x]) (rest := []) ⟨hx, hb, hml, hown, hts⟩ (cX_isClosedWhenEarly l dC dI x) (va_cwS 1 hts gX0_isClosedWhenShut_X0_isClosedWhenEarly rfl rfl rfl (by decide +kernel) ⟨Nat.le_of_ble_eq_true rfl, Nat.le_of_ble_eq_true rfl⟩) (dk_rS dk_P0 hKc) rfl rfl hl.1 rfl (lv_room (Nat.le_of_ble_eq_true rfl)) dX0_isClosedWhenShut_1 ⟨Nat.zero_le _, Nat.zero_le _⟩) hS (fun q _ h => False.elim h) (fun q h => False.elim h) (fun r_1 u8 t8 H1 locs ht8 hvm8 hw hB hz1 hk1 hS => ?_)
  try dsimp only at hw
  have hP := dk_kept hP hk1
  generalize H1 = H at hP hS ⊢
  rcases hw with ⟨rfl, hE⟩ | ⟨rfl, hE⟩
  · refine lv_if_ne (tgt := 19) hx hb dX0_isClosedWhenShut_4 (by decide) (fun _ => ?_) (fun c9 => absurd c9 (by decide))
    refine lv_iconst (v := 1) hx hb dX0_isClosedWhenShut_19 (by decide) ?_
    refine lv_goto (tgt := 24) hx hb dX0_isClosedWhenShut_20 (by decide) ?_
    exact W.zret (v := 1) hx hb hr (by first | rfl | decide) (fun z8 hz8 hW8 => ⟨⟨1, (), rfl, Or.inl ⟨rfl, Or.inl hE⟩, trivial⟩, hS.F hz8⟩) hS.2.2 dX0_isClosedWhenShut_24
  · refine lv_if_ne (tgt := 19) hx hb dX0_isClosedWhenShut_4 (by decide) (fun c9 => absurd (by decide) c9) (fun _ => ?_)
    refine lv_iload_n hx hb dX0_isClosedWhenShut_7 rfl (lv_at hl 0 rfl) ?_
    refine lv_bipush (v := 7) hx hb dX0_isClosedWhenShut_8 (by decide) ?_
    refine lv_icmp_eq (tgt := 19) hx hb dX0_isClosedWhenShut_10 (by decide) (fun c_10 => ?_) (fun c_10 => ?_)
    · refine lv_iconst (v := 1) hx hb dX0_isClosedWhenShut_19 (by decide) ?_
      refine lv_goto (tgt := 24) hx hb dX0_isClosedWhenShut_20 (by decide) ?_
      exact W.zret (v := 1) hx hb hr (by first | rfl | decide) (fun z8 hz8 hW8 => ⟨⟨1, (), rfl, Or.inl ⟨rfl, Or.inr (Or.inl c_10)⟩, trivial⟩, hS.F hz8⟩) hS.2.2 dX0_isClosedWhenShut_24
    · refine lv_iload_n hx hb dX0_isClosedWhenShut_13 rfl (lv_at hl 0 rfl) ?_
      refine lv_bipush (v := 8) hx hb dX0_isClosedWhenShut_14 (by decide) ?_
      refine lv_icmp_ne (tgt := 23) hx hb dX0_isClosedWhenShut_16 (by decide) (fun c_16 => ?_) (fun c_16 => ?_)
      · refine lv_iconst (v := 0) hx hb dX0_isClosedWhenShut_23 (by decide) ?_
        exact W.zret (v := 0) hx hb hr (by first | rfl | decide) (fun z8 hz8 hW8 => ⟨⟨0, (), rfl, Or.inr ⟨rfl, by unfold dk_cS; intro q9; rcases q9 with q9 | q9 | q9 <;> contradiction⟩, trivial⟩, hS.F hz8⟩) hS.2.2 dX0_isClosedWhenShut_24
      · refine lv_iconst (v := 1) hx hb dX0_isClosedWhenShut_19 (by decide) ?_
        refine lv_goto (tgt := 24) hx hb dX0_isClosedWhenShut_20 (by decide) ?_
        exact W.zret (v := 1) hx hb hr (by first | rfl | decide) (fun z8 hz8 hW8 => ⟨⟨1, (), rfl, Or.inl ⟨rfl, Or.inr (Or.inr c_16)⟩, trivial⟩, hS.F hz8⟩) hS.2.2 dX0_isClosedWhenShut_24
