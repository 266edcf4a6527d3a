theorem dk_arL (n : Nat) (cA : ClassId) : vp_cell cA (n, .inr (.inl (fun _ => 0))) = arrV cA n (fun _ => defaultValue .long) := rfl
theorem dk_arC (n : Nat) (cA : ClassId) : vp_cell cA (n, .inl (fun _ => 0)) = arrV cA n (fun _ => defaultValue .char) := rfl
theorem dk_arI (n : Nat) (cA : ClassId) : vp_cell cA (n, .inl (fun _ => 0)) = arrV cA n (fun _ => defaultValue .int) := rfl
set_option maxHeartbeats 4000000 in
set_option maxRecDepth 100000 in
/-- the constructor: all is 0 -/
theorem cX_init (l : Launch) (dC : Nat → ClassId) (dI : Nat → Nat → Nat) (sz : Nat) (h0 : Nat) : Met l yX0_init wsX0_init ({ frames := 1, cells := 6, slots := 1104, locals := 12 }) (dk_Pw [.ref h0] (dC, dI) vwCl [] [(h0, .inr (0, [.int 0, .int 0, .null, .null, .null, .null, .null, .null, .int 0]))] sz) (va_Qv (fun _ => True) (fun (u : Nat × Nat × Nat × Nat × Nat × Nat × ClassId × ClassId × ClassId × ClassId × ClassId × ClassId) z8 => match u with | (qo, qw, qc, qn, qm, ql, k1, k2, k3, k4, k5, k6) => va_P (dC, dI) vwCl [(h0, .inr (0, [.int 0, .int 0, .ref qo, .ref qw, .ref qc, .ref qn, .ref qm, .ref ql, .int 0])), (qo, .inl (k1, 200, .inr (.inl (fun _ => 0)))), (qw, .inl (k2, 200, .inr (.inl (fun _ => 0)))), (qc, .inl (k3, 200, .inr (.inl (fun _ => 0)))), (qn, .inl (k4, 200, .inr (.inl (fun _ => 0)))), (qm, .inl (k5, 200, .inr (.inl (fun _ => 0)))), (ql, .inl (k6, 104, .inl (fun _ => 0)))] z8.heap ∧ va_K (dC, dI) vwCl [(k1, .long), (k2, .long), (k3, .long), (k4, .long), (k5, .long), (k6, .char)] z8 ∧ va_D (va_A [(h0, .inr (0, [.int 0, .int 0, .null, .null, .null, .null, .null, .null, .int 0]))] sz) [(h0, .inr (0, [.int 0, .int 0, .ref qo, .ref qw, .ref qc, .ref qn, .ref qm, .ref ql, .int 0])), (qo, .inl (k1, 200, .inr (.inl (fun _ => 0)))), (qw, .inl (k2, 200, .inr (.inl (fun _ => 0)))), (qc, .inl (k3, 200, .inr (.inl (fun _ => 0)))), (qn, .inl (k4, 200, .inr (.inl (fun _ => 0)))), (qm, .inl (k5, 200, .inr (.inl (fun _ => 0)))), (ql, .inl (k6, 104, .inl (fun _ => 0)))]) (va_A [(h0, .inr (0, [.int 0, .int 0, .null, .null, .null, .null, .null, .null, .int 0]))] sz)) 6 1104 (va_A [(h0, .inr (0, [.int 0, .int 0, .null, .null, .null, .null, .null, .null, .int 0]))] sz) := by
  refine Met.ofW (cc := cX0_init) (maxL := 1) (ret := none) (by decide) rfl ?_
  intro p e s m args below meth c s₁ B hml hv
  obtain ⟨rfl, hsz, hP, hK, hD0⟩ := hv
  have hx := B.exec
  have hb := B.bytes
  have hr := B.returns
  have hts := atoms_spec (ws := wsX0_init) B.pre
  have hown : s.vm.findClass RX0 = some m.cls := findClass_of_methodNamed B.named
  have hlocks := B.notSynchronized
  have hin9 : meth.name = "<init>" := (name_of_methodNamed B.named B.method).1
  have hinX0 : ∀ w ∈ wsX00, w ∈ wsX0_init := by decide +kernel
  subst hsz
  have hD := hD0.self (sz := s.heap.size)
  generalize hAe : va_A [(h0, .inr (0, [.int 0, .int 0, .null, .null, .null, .null, .null, .null, .int 0]))] s.heap.size = A at hD ⊢
  have hA : ∀ q : Nat, s.heap.size ≤ q → A q := fun q h => by rw [← hAe]; exact Or.inr h
  have hS : va_S A s.heap s.heap [] := va_S.rf
  have hl := lv_entry ([.ref h0]) (n := 1) (Nat.le_of_ble_eq_true rfl)
  rw [lg_entry_eq]
  generalize (lg_sl ([.ref h0]) ++ List.replicate (1 - (lg_sl ([.ref h0])).length) Slot.unset).toArray = ls at hl ⊢
  have hl : lv_has ls 1 [(0, .ref h0)] := hl
  refine lv_aload_n hx hb dX0_init_0 rfl (lv_at hl 0 rfl) ?_
  refine W.objInit hx hb hown (hts (.methodLink RX0 1 objectInit) (by decide +kernel)) (hts (.instanceMethod objectInit) (by decide +kernel)) (hts (.code objectInit ⟨#[0xb1]⟩ 1 none) (by decide +kernel)) rfl (by rw [hml]; exact hl.1) rfl dX0_init_1 (Nat.le_of_ble_eq_true rfl) (Nat.le_of_ble_eq_true rfl) ?_
  refine W.eq (g2 := F0 m 4 ls []) rfl ?_
  refine lv_aload_n hx hb dX0_init_4 rfl (lv_at hl 0 rfl) ?_
  refine lv_iconst (v := 0) hx hb dX0_init_5 (by decide) ?_
  refine va_put (D := (dC, dI)) (ci := 0) (v := .int 0) (ty := .int) (C := RX0) (T := TX0) (N := 9) hx hb hts hinX0 tyX0 tyX0_ok nmX0 hown hK hP hD hS 0 rfl rfl 0 (by decide) (hts (.fieldLink RX0 7 "DayDesk" "day" "I") (by decide +kernel)) (fun _ h9 => h9) rfl (by decide +kernel) rfl rfl (Nat.le_of_ble_eq_true rfl) dX0_init_6 (fun H locs hP hD hS => ?_)
  have hP : va_P (dC, dI) vwCl [(h0, .inr (0, [.int 0, .int 0, .null, .null, .null, .null, .null, .null, .int 0]))] H := hP
  have hD : va_D A [(h0, .inr (0, [.int 0, .int 0, .null, .null, .null, .null, .null, .null, .int 0]))] := hD
  refine lv_aload_n hx hb dX0_init_9 rfl (lv_at hl 0 rfl) ?_
  refine lv_iconst (v := 0) hx hb dX0_init_10 (by decide) ?_
  refine va_put (D := (dC, dI)) (ci := 0) (v := .int 0) (ty := .int) (C := RX0) (T := TX0) (N := 9) hx hb hts hinX0 tyX0 tyX0_ok nmX0 hown hK hP hD hS 0 rfl rfl 1 (by decide) (hts (.fieldLink RX0 13 "DayDesk" "tick" "I") (by decide +kernel)) (fun _ h9 => h9) rfl (by decide +kernel) rfl rfl (Nat.le_of_ble_eq_true rfl) dX0_init_11 (fun H locs hP hD hS => ?_)
  have hP : va_P (dC, dI) vwCl [(h0, .inr (0, [.int 0, .int 0, .null, .null, .null, .null, .null, .null, .int 0]))] H := hP
  have hD : va_D A [(h0, .inr (0, [.int 0, .int 0, .null, .null, .null, .null, .null, .null, .int 0]))] := hD
  refine lv_aload_n hx hb dX0_init_14 rfl (lv_at hl 0 rfl) ?_
  refine lv_sipush (v := nI 200) hx hb dX0_init_15 (by decide) ?_
  refine va_newa (atype := .long) (a0 := (200, .inr (.inl (fun _ => 0)))) (N' := 200) (ty := .long) hx hb (hts (.arrayClass .long) (by decide +kernel)) rfl hK hP hD hS hA (fun cA => dk_arL 200 cA) (by decide) (nI_clamp (by omega)) (by decide) (show 1 ≤ 6 from by decide) (show 200 ≤ 1104 from by decide) dX0_init_18 (fun qo k1 H hK hP hD hS => ?_)
  have hP : va_P (dC, dI) vwCl [(h0, .inr (0, [.int 0, .int 0, .null, .null, .null, .null, .null, .null, .int 0])), (qo, .inl (k1, 200, .inr (.inl (fun _ => 0))))] H := hP
  have hD : va_D A [(h0, .inr (0, [.int 0, .int 0, .null, .null, .null, .null, .null, .null, .int 0])), (qo, .inl (k1, 200, .inr (.inl (fun _ => 0))))] := hD
  have hK : va_K (dC, dI) vwCl [(k1, .long)] s := hK
  refine W.widen (k := 1) (n := 200) (by decide) (by decide) ?_
  refine va_putF (D := (dC, dI)) (ci := 0) (v := .ref qo) (ty := (.array .long)) (C := RX0) (T := TX0) (N := 9) hx hb hts hinX0 tyX0 tyX0_ok nmX0 hown hK hP hD hS 0 rfl rfl 2 (by decide) (hts (.fieldLink RX0 16 "DayDesk" "opening" "[J") (by decide +kernel)) (fun _ h9 => h9) rfl hin9 rfl (by decide +kernel) rfl rfl (Nat.le_of_ble_eq_true rfl) dX0_init_20 (fun H locs hP hD hS => ?_)
  have hP : va_P (dC, dI) vwCl [(h0, .inr (0, [.int 0, .int 0, .ref qo, .null, .null, .null, .null, .null, .int 0])), (qo, .inl (k1, 200, .inr (.inl (fun _ => 0))))] H := hP
  have hD : va_D A [(h0, .inr (0, [.int 0, .int 0, .ref qo, .null, .null, .null, .null, .null, .int 0])), (qo, .inl (k1, 200, .inr (.inl (fun _ => 0))))] := hD
  refine lv_aload_n hx hb dX0_init_23 rfl (lv_at hl 0 rfl) ?_
  refine lv_sipush (v := nI 200) hx hb dX0_init_24 (by decide) ?_
  refine va_newa (atype := .long) (a0 := (200, .inr (.inl (fun _ => 0)))) (N' := 200) (ty := .long) hx hb (hts (.arrayClass .long) (by decide +kernel)) rfl hK hP hD hS hA (fun cA => dk_arL 200 cA) (by decide) (nI_clamp (by omega)) (by decide) (show 2 ≤ 6 from by decide) (show 400 ≤ 1104 from by decide) dX0_init_27 (fun qw k2 H hK hP hD hS => ?_)
  have hP : va_P (dC, dI) vwCl [(h0, .inr (0, [.int 0, .int 0, .ref qo, .null, .null, .null, .null, .null, .int 0])), (qo, .inl (k1, 200, .inr (.inl (fun _ => 0)))), (qw, .inl (k2, 200, .inr (.inl (fun _ => 0))))] H := hP
  have hD : va_D A [(h0, .inr (0, [.int 0, .int 0, .ref qo, .null, .null, .null, .null, .null, .int 0])), (qo, .inl (k1, 200, .inr (.inl (fun _ => 0)))), (qw, .inl (k2, 200, .inr (.inl (fun _ => 0))))] := hD
  have hK : va_K (dC, dI) vwCl [(k1, .long), (k2, .long)] s := hK
  refine W.widen (k := 2) (n := 400) (by decide) (by decide) ?_
  refine va_putF (D := (dC, dI)) (ci := 0) (v := .ref qw) (ty := (.array .long)) (C := RX0) (T := TX0) (N := 9) hx hb hts hinX0 tyX0 tyX0_ok nmX0 hown hK hP hD hS 0 rfl rfl 3 (by decide) (hts (.fieldLink RX0 20 "DayDesk" "went" "[J") (by decide +kernel)) (fun _ h9 => h9) rfl hin9 rfl (by decide +kernel) rfl rfl (Nat.le_of_ble_eq_true rfl) dX0_init_29 (fun H locs hP hD hS => ?_)
  have hP : va_P (dC, dI) vwCl [(h0, .inr (0, [.int 0, .int 0, .ref qo, .ref qw, .null, .null, .null, .null, .int 0])), (qo, .inl (k1, 200, .inr (.inl (fun _ => 0)))), (qw, .inl (k2, 200, .inr (.inl (fun _ => 0))))] H := hP
  have hD : va_D A [(h0, .inr (0, [.int 0, .int 0, .ref qo, .ref qw, .null, .null, .null, .null, .int 0])), (qo, .inl (k1, 200, .inr (.inl (fun _ => 0)))), (qw, .inl (k2, 200, .inr (.inl (fun _ => 0))))] := hD
  refine lv_aload_n hx hb dX0_init_32 rfl (lv_at hl 0 rfl) ?_
  refine lv_sipush (v := nI 200) hx hb dX0_init_33 (by decide) ?_
  refine va_newa (atype := .long) (a0 := (200, .inr (.inl (fun _ => 0)))) (N' := 200) (ty := .long) hx hb (hts (.arrayClass .long) (by decide +kernel)) rfl hK hP hD hS hA (fun cA => dk_arL 200 cA) (by decide) (nI_clamp (by omega)) (by decide) (show 3 ≤ 6 from by decide) (show 600 ≤ 1104 from by decide) dX0_init_36 (fun qc k3 H hK hP hD hS => ?_)
  have hP : va_P (dC, dI) vwCl [(h0, .inr (0, [.int 0, .int 0, .ref qo, .ref qw, .null, .null, .null, .null, .int 0])), (qo, .inl (k1, 200, .inr (.inl (fun _ => 0)))), (qw, .inl (k2, 200, .inr (.inl (fun _ => 0)))), (qc, .inl (k3, 200, .inr (.inl (fun _ => 0))))] H := hP
  have hD : va_D A [(h0, .inr (0, [.int 0, .int 0, .ref qo, .ref qw, .null, .null, .null, .null, .int 0])), (qo, .inl (k1, 200, .inr (.inl (fun _ => 0)))), (qw, .inl (k2, 200, .inr (.inl (fun _ => 0)))), (qc, .inl (k3, 200, .inr (.inl (fun _ => 0))))] := hD
  have hK : va_K (dC, dI) vwCl [(k1, .long), (k2, .long), (k3, .long)] s := hK
  refine W.widen (k := 3) (n := 600) (by decide) (by decide) ?_
  refine va_putF (D := (dC, dI)) (ci := 0) (v := .ref qc) (ty := (.array .long)) (C := RX0) (T := TX0) (N := 9) hx hb hts hinX0 tyX0 tyX0_ok nmX0 hown hK hP hD hS 0 rfl rfl 4 (by decide) (hts (.fieldLink RX0 23 "DayDesk" "came" "[J") (by decide +kernel)) (fun _ h9 => h9) rfl hin9 rfl (by decide +kernel) rfl rfl (Nat.le_of_ble_eq_true rfl) dX0_init_38 (fun H locs hP hD hS => ?_)
  have hP : va_P (dC, dI) vwCl [(h0, .inr (0, [.int 0, .int 0, .ref qo, .ref qw, .ref qc, .null, .null, .null, .int 0])), (qo, .inl (k1, 200, .inr (.inl (fun _ => 0)))), (qw, .inl (k2, 200, .inr (.inl (fun _ => 0)))), (qc, .inl (k3, 200, .inr (.inl (fun _ => 0))))] H := hP
  have hD : va_D A [(h0, .inr (0, [.int 0, .int 0, .ref qo, .ref qw, .ref qc, .null, .null, .null, .int 0])), (qo, .inl (k1, 200, .inr (.inl (fun _ => 0)))), (qw, .inl (k2, 200, .inr (.inl (fun _ => 0)))), (qc, .inl (k3, 200, .inr (.inl (fun _ => 0))))] := hD
  refine lv_aload_n hx hb dX0_init_41 rfl (lv_at hl 0 rfl) ?_
  refine lv_sipush (v := nI 200) hx hb dX0_init_42 (by decide) ?_
  refine va_newa (atype := .long) (a0 := (200, .inr (.inl (fun _ => 0)))) (N' := 200) (ty := .long) hx hb (hts (.arrayClass .long) (by decide +kernel)) rfl hK hP hD hS hA (fun cA => dk_arL 200 cA) (by decide) (nI_clamp (by omega)) (by decide) (show 4 ≤ 6 from by decide) (show 800 ≤ 1104 from by decide) dX0_init_45 (fun qn k4 H hK hP hD hS => ?_)
  have hP : va_P (dC, dI) vwCl [(h0, .inr (0, [.int 0, .int 0, .ref qo, .ref qw, .ref qc, .null, .null, .null, .int 0])), (qo, .inl (k1, 200, .inr (.inl (fun _ => 0)))), (qw, .inl (k2, 200, .inr (.inl (fun _ => 0)))), (qc, .inl (k3, 200, .inr (.inl (fun _ => 0)))), (qn, .inl (k4, 200, .inr (.inl (fun _ => 0))))] H := hP
  have hD : va_D A [(h0, .inr (0, [.int 0, .int 0, .ref qo, .ref qw, .ref qc, .null, .null, .null, .int 0])), (qo, .inl (k1, 200, .inr (.inl (fun _ => 0)))), (qw, .inl (k2, 200, .inr (.inl (fun _ => 0)))), (qc, .inl (k3, 200, .inr (.inl (fun _ => 0)))), (qn, .inl (k4, 200, .inr (.inl (fun _ => 0))))] := hD
  have hK : va_K (dC, dI) vwCl [(k1, .long), (k2, .long), (k3, .long), (k4, .long)] s := hK
  refine W.widen (k := 4) (n := 800) (by decide) (by decide) ?_
  refine va_putF (D := (dC, dI)) (ci := 0) (v := .ref qn) (ty := (.array .long)) (C := RX0) (T := TX0) (N := 9) hx hb hts hinX0 tyX0 tyX0_ok nmX0 hown hK hP hD hS 0 rfl rfl 5 (by decide) (hts (.fieldLink RX0 26 "DayDesk" "now" "[J") (by decide +kernel)) (fun _ h9 => h9) rfl hin9 rfl (by decide +kernel) rfl rfl (Nat.le_of_ble_eq_true rfl) dX0_init_47 (fun H locs hP hD hS => ?_)
  have hP : va_P (dC, dI) vwCl [(h0, .inr (0, [.int 0, .int 0, .ref qo, .ref qw, .ref qc, .ref qn, .null, .null, .int 0])), (qo, .inl (k1, 200, .inr (.inl (fun _ => 0)))), (qw, .inl (k2, 200, .inr (.inl (fun _ => 0)))), (qc, .inl (k3, 200, .inr (.inl (fun _ => 0)))), (qn, .inl (k4, 200, .inr (.inl (fun _ => 0))))] H := hP
  have hD : va_D A [(h0, .inr (0, [.int 0, .int 0, .ref qo, .ref qw, .ref qc, .ref qn, .null, .null, .int 0])), (qo, .inl (k1, 200, .inr (.inl (fun _ => 0)))), (qw, .inl (k2, 200, .inr (.inl (fun _ => 0)))), (qc, .inl (k3, 200, .inr (.inl (fun _ => 0)))), (qn, .inl (k4, 200, .inr (.inl (fun _ => 0))))] := hD
  refine lv_aload_n hx hb dX0_init_50 rfl (lv_at hl 0 rfl) ?_
  refine lv_sipush (v := nI 200) hx hb dX0_init_51 (by decide) ?_
  refine va_newa (atype := .long) (a0 := (200, .inr (.inl (fun _ => 0)))) (N' := 200) (ty := .long) hx hb (hts (.arrayClass .long) (by decide +kernel)) rfl hK hP hD hS hA (fun cA => dk_arL 200 cA) (by decide) (nI_clamp (by omega)) (by decide) (show 5 ≤ 6 from by decide) (show 1000 ≤ 1104 from by decide) dX0_init_54 (fun qm k5 H hK hP hD hS => ?_)
  have hP : va_P (dC, dI) vwCl [(h0, .inr (0, [.int 0, .int 0, .ref qo, .ref qw, .ref qc, .ref qn, .null, .null, .int 0])), (qo, .inl (k1, 200, .inr (.inl (fun _ => 0)))), (qw, .inl (k2, 200, .inr (.inl (fun _ => 0)))), (qc, .inl (k3, 200, .inr (.inl (fun _ => 0)))), (qn, .inl (k4, 200, .inr (.inl (fun _ => 0)))), (qm, .inl (k5, 200, .inr (.inl (fun _ => 0))))] H := hP
  have hD : va_D A [(h0, .inr (0, [.int 0, .int 0, .ref qo, .ref qw, .ref qc, .ref qn, .null, .null, .int 0])), (qo, .inl (k1, 200, .inr (.inl (fun _ => 0)))), (qw, .inl (k2, 200, .inr (.inl (fun _ => 0)))), (qc, .inl (k3, 200, .inr (.inl (fun _ => 0)))), (qn, .inl (k4, 200, .inr (.inl (fun _ => 0)))), (qm, .inl (k5, 200, .inr (.inl (fun _ => 0))))] := hD
  have hK : va_K (dC, dI) vwCl [(k1, .long), (k2, .long), (k3, .long), (k4, .long), (k5, .long)] s := hK
  refine W.widen (k := 5) (n := 1000) (by decide) (by decide) ?_
  refine va_putF (D := (dC, dI)) (ci := 0) (v := .ref qm) (ty := (.array .long)) (C := RX0) (T := TX0) (N := 9) hx hb hts hinX0 tyX0 tyX0_ok nmX0 hown hK hP hD hS 0 rfl rfl 6 (by decide) (hts (.fieldLink RX0 29 "DayDesk" "moved" "[J") (by decide +kernel)) (fun _ h9 => h9) rfl hin9 rfl (by decide +kernel) rfl rfl (Nat.le_of_ble_eq_true rfl) dX0_init_56 (fun H locs hP hD hS => ?_)
  have hP : va_P (dC, dI) vwCl [(h0, .inr (0, [.int 0, .int 0, .ref qo, .ref qw, .ref qc, .ref qn, .ref qm, .null, .int 0])), (qo, .inl (k1, 200, .inr (.inl (fun _ => 0)))), (qw, .inl (k2, 200, .inr (.inl (fun _ => 0)))), (qc, .inl (k3, 200, .inr (.inl (fun _ => 0)))), (qn, .inl (k4, 200, .inr (.inl (fun _ => 0)))), (qm, .inl (k5, 200, .inr (.inl (fun _ => 0))))] H := hP
  have hD : va_D A [(h0, .inr (0, [.int 0, .int 0, .ref qo, .ref qw, .ref qc, .ref qn, .ref qm, .null, .int 0])), (qo, .inl (k1, 200, .inr (.inl (fun _ => 0)))), (qw, .inl (k2, 200, .inr (.inl (fun _ => 0)))), (qc, .inl (k3, 200, .inr (.inl (fun _ => 0)))), (qn, .inl (k4, 200, .inr (.inl (fun _ => 0)))), (qm, .inl (k5, 200, .inr (.inl (fun _ => 0))))] := hD
  refine lv_aload_n hx hb dX0_init_59 rfl (lv_at hl 0 rfl) ?_
  refine lv_bipush (v := nI 104) hx hb dX0_init_60 (by decide) ?_
  refine va_newa (atype := .char) (a0 := (104, .inl (fun _ => 0))) (N' := 104) (ty := .char) hx hb (hts (.arrayClass .char) (by decide +kernel)) rfl hK hP hD hS hA (fun cA => dk_arC 104 cA) (by decide) (nI_clamp (by omega)) (by decide) (show 6 ≤ 6 from by decide) (show 1104 ≤ 1104 from by decide) dX0_init_62 (fun ql k6 H hK hP hD hS => ?_)
  have hP : va_P (dC, dI) vwCl [(h0, .inr (0, [.int 0, .int 0, .ref qo, .ref qw, .ref qc, .ref qn, .ref qm, .null, .int 0])), (qo, .inl (k1, 200, .inr (.inl (fun _ => 0)))), (qw, .inl (k2, 200, .inr (.inl (fun _ => 0)))), (qc, .inl (k3, 200, .inr (.inl (fun _ => 0)))), (qn, .inl (k4, 200, .inr (.inl (fun _ => 0)))), (qm, .inl (k5, 200, .inr (.inl (fun _ => 0)))), (ql, .inl (k6, 104, .inl (fun _ => 0)))] H := hP
  have hD : va_D A [(h0, .inr (0, [.int 0, .int 0, .ref qo, .ref qw, .ref qc, .ref qn, .ref qm, .null, .int 0])), (qo, .inl (k1, 200, .inr (.inl (fun _ => 0)))), (qw, .inl (k2, 200, .inr (.inl (fun _ => 0)))), (qc, .inl (k3, 200, .inr (.inl (fun _ => 0)))), (qn, .inl (k4, 200, .inr (.inl (fun _ => 0)))), (qm, .inl (k5, 200, .inr (.inl (fun _ => 0)))), (ql, .inl (k6, 104, .inl (fun _ => 0)))] := hD
  have hK : va_K (dC, dI) vwCl [(k1, .long), (k2, .long), (k3, .long), (k4, .long), (k5, .long), (k6, .char)] s := hK
  refine W.widen (k := 6) (n := 1104) (by decide) (by decide) ?_
  refine va_putF (D := (dC, dI)) (ci := 0) (v := .ref ql) (ty := (.array .char)) (C := RX0) (T := TX0) (N := 9) hx hb hts hinX0 tyX0 tyX0_ok nmX0 hown hK hP hD hS 0 rfl rfl 7 (by decide) (hts (.fieldLink RX0 32 "DayDesk" "line" "[C") (by decide +kernel)) (fun _ h9 => h9) rfl hin9 rfl (by decide +kernel) rfl rfl (Nat.le_of_ble_eq_true rfl) dX0_init_64 (fun H locs hP hD hS => ?_)
  have hP : va_P (dC, dI) vwCl [(h0, .inr (0, [.int 0, .int 0, .ref qo, .ref qw, .ref qc, .ref qn, .ref qm, .ref ql, .int 0])), (qo, .inl (k1, 200, .inr (.inl (fun _ => 0)))), (qw, .inl (k2, 200, .inr (.inl (fun _ => 0)))), (qc, .inl (k3, 200, .inr (.inl (fun _ => 0)))), (qn, .inl (k4, 200, .inr (.inl (fun _ => 0)))), (qm, .inl (k5, 200, .inr (.inl (fun _ => 0)))), (ql, .inl (k6, 104, .inl (fun _ => 0)))] H := hP
  have hD : va_D A [(h0, .inr (0, [.int 0, .int 0, .ref qo, .ref qw, .ref qc, .ref qn, .ref qm, .ref ql, .int 0])), (qo, .inl (k1, 200, .inr (.inl (fun _ => 0)))), (qw, .inl (k2, 200, .inr (.inl (fun _ => 0)))), (qc, .inl (k3, 200, .inr (.inl (fun _ => 0)))), (qn, .inl (k4, 200, .inr (.inl (fun _ => 0)))), (qm, .inl (k5, 200, .inr (.inl (fun _ => 0)))), (ql, .inl (k6, 104, .inl (fun _ => 0)))] := hD
  refine lv_aload_n hx hb dX0_init_67 rfl (lv_at hl 0 rfl) ?_
  refine lv_iconst (v := 0) hx hb dX0_init_68 (by decide) ?_
  refine va_put (D := (dC, dI)) (ci := 0) (v := .int 0) (ty := .int) (C := RX0) (T := TX0) (N := 9) hx hb hts hinX0 tyX0 tyX0_ok nmX0 hown hK hP hD hS 0 rfl rfl 8 (by decide) (hts (.fieldLink RX0 36 "DayDesk" "lineLength" "I") (by decide +kernel)) (fun _ h9 => h9) rfl (by decide +kernel) rfl rfl (Nat.le_of_ble_eq_true rfl) dX0_init_69 (fun H locs hP hD hS => ?_)
  have hP : va_P (dC, dI) vwCl [(h0, .inr (0, [.int 0, .int 0, .ref qo, .ref qw, .ref qc, .ref qn, .ref qm, .ref ql, .int 0])), (qo, .inl (k1, 200, .inr (.inl (fun _ => 0)))), (qw, .inl (k2, 200, .inr (.inl (fun _ => 0)))), (qc, .inl (k3, 200, .inr (.inl (fun _ => 0)))), (qn, .inl (k4, 200, .inr (.inl (fun _ => 0)))), (qm, .inl (k5, 200, .inr (.inl (fun _ => 0)))), (ql, .inl (k6, 104, .inl (fun _ => 0)))] H := hP
  have hD : va_D A [(h0, .inr (0, [.int 0, .int 0, .ref qo, .ref qw, .ref qc, .ref qn, .ref qm, .ref ql, .int 0])), (qo, .inl (k1, 200, .inr (.inl (fun _ => 0)))), (qw, .inl (k2, 200, .inr (.inl (fun _ => 0)))), (qc, .inl (k3, 200, .inr (.inl (fun _ => 0)))), (qn, .inl (k4, 200, .inr (.inl (fun _ => 0)))), (qm, .inl (k5, 200, .inr (.inl (fun _ => 0)))), (ql, .inl (k6, 104, .inl (fun _ => 0)))] := hD
  exact W.vret hx hb hr (fun z8 hz8 hW8 => ⟨⟨(qo, qw, qc, qn, qm, ql, k1, k2, k3, k4, k5, k6), rfl, trivial, by rw [hz8]; exact hP, va_K.moved hW8.alike hK, hD⟩, hS.F hz8⟩) hS.2.2 dX0_init_72
