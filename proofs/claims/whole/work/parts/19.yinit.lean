set_option maxHeartbeats 4000000 in
set_option maxRecDepth 100000 in
/-- the reference's constructor: all is 0 -/
theorem cY_init (l : Launch) (dC : Nat → ClassId) (dI : Nat → Nat → Nat) (sz : Nat) (g0 : Nat) : Met l yX1_init wsX1_init ({ frames := 1, cells := 4, slots := 1360, locals := 12 }) (dk_Pw [.ref g0] (dC, dI) vwCl [] [(g0, .inr (1, [.long 0, .null, .int 0, .null, .null, .int 0, .null]))] sz) (va_Qv (fun _ => True) (fun (u : Nat × Nat × Nat × Nat × ClassId × ClassId × ClassId × ClassId) z8 => match u with | (a1, a2, a3, a4, i1, i2, i3, i4) => va_P (dC, dI) vwCl [(g0, .inr (1, [.long 0, .ref a1, .int 0, .ref a2, .ref a3, .int 0, .ref a4])), (a1, .inl (i1, 200, .inr (.inl (fun _ => 0)))), (a2, .inl (i2, 520, .inl (fun _ => 0))), (a3, .inl (i3, 520, .inr (.inl (fun _ => 0)))), (a4, .inl (i4, 120, .inl (fun _ => 0)))] z8.heap ∧ va_K (dC, dI) vwCl [(i1, .long), (i2, .int), (i3, .long), (i4, .int)] z8 ∧ va_D (va_A [(g0, .inr (1, [.long 0, .null, .int 0, .null, .null, .int 0, .null]))] sz) [(g0, .inr (1, [.long 0, .ref a1, .int 0, .ref a2, .ref a3, .int 0, .ref a4])), (a1, .inl (i1, 200, .inr (.inl (fun _ => 0)))), (a2, .inl (i2, 520, .inl (fun _ => 0))), (a3, .inl (i3, 520, .inr (.inl (fun _ => 0)))), (a4, .inl (i4, 120, .inl (fun _ => 0)))]) (va_A [(g0, .inr (1, [.long 0, .null, .int 0, .null, .null, .int 0, .null]))] sz)) 4 1360 (va_A [(g0, .inr (1, [.long 0, .null, .int 0, .null, .null, .int 0, .null]))] sz) := by
  refine Met.ofW (cc := cX1_init) (maxL := 1) (ret := none) (by decide) rfl ?_
  intro p e s m args below meth c s₁ B hml hv
  obtain ⟨rfl, hsz, hP, hK, hD0⟩ := hv
  have hx := B.exec
  have hb := B.bytes
  have hr := B.returns
  have hts := atoms_spec (ws := wsX1_init) B.pre
  have hown : s.vm.findClass RX1 = some m.cls := findClass_of_methodNamed B.named
  have hlocks := B.notSynchronized
  have hin9 : meth.name = "<init>" := (name_of_methodNamed B.named B.method).1
  have hinX1 : ∀ w ∈ wsX10, w ∈ wsX1_init := by decide +kernel
  subst hsz
  have hD := hD0.self (sz := s.heap.size)
  generalize hAe : va_A [(g0, .inr (1, [.long 0, .null, .int 0, .null, .null, .int 0, .null]))] s.heap.size = A at hD ⊢
  have hA : ∀ q : Nat, s.heap.size ≤ q → A q := fun q h => by rw [← hAe]; exact Or.inr h
  have hS : va_S A s.heap s.heap [] := va_S.rf
  have hl := lv_entry ([.ref g0]) (n := 1) (Nat.le_of_ble_eq_true rfl)
  rw [lg_entry_eq]
  generalize (lg_sl ([.ref g0]) ++ List.replicate (1 - (lg_sl ([.ref g0])).length) Slot.unset).toArray = ls at hl ⊢
  have hl : lv_has ls 1 [(0, .ref g0)] := hl
  refine lv_aload_n hx hb dX1_init_0 rfl (lv_at hl 0 rfl) ?_
  refine W.objInit hx hb hown (hts (.methodLink RX1 1 objectInit) (by decide +kernel)) (hts (.instanceMethod objectInit) (by decide +kernel)) (hts (.code objectInit ⟨#[0xb1]⟩ 1 none) (by decide +kernel)) rfl (by rw [hml]; exact hl.1) rfl dX1_init_1 (Nat.le_of_ble_eq_true rfl) (Nat.le_of_ble_eq_true rfl) ?_
  refine W.eq (g2 := F0 m 4 ls []) rfl ?_
  refine lv_aload_n hx hb dX1_init_4 rfl (lv_at hl 0 rfl) ?_
  refine lv_sipush (v := nI 200) hx hb dX1_init_5 (by decide) ?_
  refine va_newa (atype := .long) (a0 := (200, .inr (.inl (fun _ => 0)))) (N' := 200) (ty := .long) hx hb (hts (.arrayClass .long) (by decide +kernel)) rfl hK hP hD hS hA (fun cA => dk_arL 200 cA) (by decide) (nI_clamp (by omega)) (by decide) (show 1 ≤ 4 from by decide) (show 200 ≤ 1360 from by decide) dX1_init_8 (fun a1 i1 H hK hP hD hS => ?_)
  have hP : va_P (dC, dI) vwCl [(g0, .inr (1, [.long 0, .null, .int 0, .null, .null, .int 0, .null])), (a1, .inl (i1, 200, .inr (.inl (fun _ => 0))))] H := hP
  have hD : va_D A [(g0, .inr (1, [.long 0, .null, .int 0, .null, .null, .int 0, .null])), (a1, .inl (i1, 200, .inr (.inl (fun _ => 0))))] := hD
  have hK : va_K (dC, dI) vwCl [(i1, .long)] s := hK
  refine W.widen (k := 1) (n := 200) (by decide) (by decide) ?_
  refine va_putF (D := (dC, dI)) (ci := 1) (v := .ref a1) (ty := (.array .long)) (C := RX1) (T := TX1) (N := 7) hx hb hts hinX1 tyX1 tyX1_ok nmX1 hown hK hP hD hS 0 rfl rfl 1 (by decide) (hts (.fieldLink RX1 7 "DayDeskModel" "opening" "[J") (by decide +kernel)) (fun _ h9 => h9) rfl hin9 rfl (by decide +kernel) rfl rfl (Nat.le_of_ble_eq_true rfl) dX1_init_10 (fun H locs hP hD hS => ?_)
  have hP : va_P (dC, dI) vwCl [(g0, .inr (1, [.long 0, .ref a1, .int 0, .null, .null, .int 0, .null])), (a1, .inl (i1, 200, .inr (.inl (fun _ => 0))))] H := hP
  have hD : va_D A [(g0, .inr (1, [.long 0, .ref a1, .int 0, .null, .null, .int 0, .null])), (a1, .inl (i1, 200, .inr (.inl (fun _ => 0))))] := hD
  refine lv_aload_n hx hb dX1_init_13 rfl (lv_at hl 0 rfl) ?_
  refine lv_sipush (v := nI 520) hx hb dX1_init_14 (by decide) ?_
  refine va_newa (atype := .int) (a0 := (520, .inl (fun _ => 0))) (N' := 520) (ty := .int) hx hb (hts (.arrayClass .int) (by decide +kernel)) rfl hK hP hD hS hA (fun cA => dk_arI 520 cA) (by decide) (nI_clamp (by omega)) (by decide) (show 2 ≤ 4 from by decide) (show 720 ≤ 1360 from by decide) dX1_init_17 (fun a2 i2 H hK hP hD hS => ?_)
  have hP : va_P (dC, dI) vwCl [(g0, .inr (1, [.long 0, .ref a1, .int 0, .null, .null, .int 0, .null])), (a1, .inl (i1, 200, .inr (.inl (fun _ => 0)))), (a2, .inl (i2, 520, .inl (fun _ => 0)))] H := hP
  have hD : va_D A [(g0, .inr (1, [.long 0, .ref a1, .int 0, .null, .null, .int 0, .null])), (a1, .inl (i1, 200, .inr (.inl (fun _ => 0)))), (a2, .inl (i2, 520, .inl (fun _ => 0)))] := hD
  have hK : va_K (dC, dI) vwCl [(i1, .long), (i2, .int)] s := hK
  refine W.widen (k := 2) (n := 720) (by decide) (by decide) ?_
  refine va_putF (D := (dC, dI)) (ci := 1) (v := .ref a2) (ty := (.array .int)) (C := RX1) (T := TX1) (N := 7) hx hb hts hinX1 tyX1 tyX1_ok nmX1 hown hK hP hD hS 0 rfl rfl 3 (by decide) (hts (.fieldLink RX1 13 "DayDeskModel" "moveOf" "[I") (by decide +kernel)) (fun _ h9 => h9) rfl hin9 rfl (by decide +kernel) rfl rfl (Nat.le_of_ble_eq_true rfl) dX1_init_19 (fun H locs hP hD hS => ?_)
  have hP : va_P (dC, dI) vwCl [(g0, .inr (1, [.long 0, .ref a1, .int 0, .ref a2, .null, .int 0, .null])), (a1, .inl (i1, 200, .inr (.inl (fun _ => 0)))), (a2, .inl (i2, 520, .inl (fun _ => 0)))] H := hP
  have hD : va_D A [(g0, .inr (1, [.long 0, .ref a1, .int 0, .ref a2, .null, .int 0, .null])), (a1, .inl (i1, 200, .inr (.inl (fun _ => 0)))), (a2, .inl (i2, 520, .inl (fun _ => 0)))] := hD
  refine lv_aload_n hx hb dX1_init_22 rfl (lv_at hl 0 rfl) ?_
  refine lv_sipush (v := nI 520) hx hb dX1_init_23 (by decide) ?_
  refine va_newa (atype := .long) (a0 := (520, .inr (.inl (fun _ => 0)))) (N' := 520) (ty := .long) hx hb (hts (.arrayClass .long) (by decide +kernel)) rfl hK hP hD hS hA (fun cA => dk_arL 520 cA) (by decide) (nI_clamp (by omega)) (by decide) (show 3 ≤ 4 from by decide) (show 1240 ≤ 1360 from by decide) dX1_init_26 (fun a3 i3 H hK hP hD hS => ?_)
  have hP : va_P (dC, dI) vwCl [(g0, .inr (1, [.long 0, .ref a1, .int 0, .ref a2, .null, .int 0, .null])), (a1, .inl (i1, 200, .inr (.inl (fun _ => 0)))), (a2, .inl (i2, 520, .inl (fun _ => 0))), (a3, .inl (i3, 520, .inr (.inl (fun _ => 0))))] H := hP
  have hD : va_D A [(g0, .inr (1, [.long 0, .ref a1, .int 0, .ref a2, .null, .int 0, .null])), (a1, .inl (i1, 200, .inr (.inl (fun _ => 0)))), (a2, .inl (i2, 520, .inl (fun _ => 0))), (a3, .inl (i3, 520, .inr (.inl (fun _ => 0))))] := hD
  have hK : va_K (dC, dI) vwCl [(i1, .long), (i2, .int), (i3, .long)] s := hK
  refine W.widen (k := 3) (n := 1240) (by decide) (by decide) ?_
  refine va_putF (D := (dC, dI)) (ci := 1) (v := .ref a3) (ty := (.array .long)) (C := RX1) (T := TX1) (N := 7) hx hb hts hinX1 tyX1 tyX1_ok nmX1 hown hK hP hD hS 0 rfl rfl 4 (by decide) (hts (.fieldLink RX1 17 "DayDeskModel" "moveBy" "[J") (by decide +kernel)) (fun _ h9 => h9) rfl hin9 rfl (by decide +kernel) rfl rfl (Nat.le_of_ble_eq_true rfl) dX1_init_28 (fun H locs hP hD hS => ?_)
  have hP : va_P (dC, dI) vwCl [(g0, .inr (1, [.long 0, .ref a1, .int 0, .ref a2, .ref a3, .int 0, .null])), (a1, .inl (i1, 200, .inr (.inl (fun _ => 0)))), (a2, .inl (i2, 520, .inl (fun _ => 0))), (a3, .inl (i3, 520, .inr (.inl (fun _ => 0))))] H := hP
  have hD : va_D A [(g0, .inr (1, [.long 0, .ref a1, .int 0, .ref a2, .ref a3, .int 0, .null])), (a1, .inl (i1, 200, .inr (.inl (fun _ => 0)))), (a2, .inl (i2, 520, .inl (fun _ => 0))), (a3, .inl (i3, 520, .inr (.inl (fun _ => 0))))] := hD
  refine lv_aload_n hx hb dX1_init_31 rfl (lv_at hl 0 rfl) ?_
  refine lv_bipush (v := nI 120) hx hb dX1_init_32 (by decide) ?_
  refine va_newa (atype := .int) (a0 := (120, .inl (fun _ => 0))) (N' := 120) (ty := .int) hx hb (hts (.arrayClass .int) (by decide +kernel)) rfl hK hP hD hS hA (fun cA => dk_arI 120 cA) (by decide) (nI_clamp (by omega)) (by decide) (show 4 ≤ 4 from by decide) (show 1360 ≤ 1360 from by decide) dX1_init_34 (fun a4 i4 H hK hP hD hS => ?_)
  have hP : va_P (dC, dI) vwCl [(g0, .inr (1, [.long 0, .ref a1, .int 0, .ref a2, .ref a3, .int 0, .null])), (a1, .inl (i1, 200, .inr (.inl (fun _ => 0)))), (a2, .inl (i2, 520, .inl (fun _ => 0))), (a3, .inl (i3, 520, .inr (.inl (fun _ => 0)))), (a4, .inl (i4, 120, .inl (fun _ => 0)))] H := hP
  have hD : va_D A [(g0, .inr (1, [.long 0, .ref a1, .int 0, .ref a2, .ref a3, .int 0, .null])), (a1, .inl (i1, 200, .inr (.inl (fun _ => 0)))), (a2, .inl (i2, 520, .inl (fun _ => 0))), (a3, .inl (i3, 520, .inr (.inl (fun _ => 0)))), (a4, .inl (i4, 120, .inl (fun _ => 0)))] := hD
  have hK : va_K (dC, dI) vwCl [(i1, .long), (i2, .int), (i3, .long), (i4, .int)] s := hK
  refine W.widen (k := 4) (n := 1360) (by decide) (by decide) ?_
  refine va_putF (D := (dC, dI)) (ci := 1) (v := .ref a4) (ty := (.array .int)) (C := RX1) (T := TX1) (N := 7) hx hb hts hinX1 tyX1 tyX1_ok nmX1 hown hK hP hD hS 0 rfl rfl 6 (by decide) (hts (.fieldLink RX1 20 "DayDeskModel" "text" "[I") (by decide +kernel)) (fun _ h9 => h9) rfl hin9 rfl (by decide +kernel) rfl rfl (Nat.le_of_ble_eq_true rfl) dX1_init_36 (fun H locs hP hD hS => ?_)
  have hP : va_P (dC, dI) vwCl [(g0, .inr (1, [.long 0, .ref a1, .int 0, .ref a2, .ref a3, .int 0, .ref a4])), (a1, .inl (i1, 200, .inr (.inl (fun _ => 0)))), (a2, .inl (i2, 520, .inl (fun _ => 0))), (a3, .inl (i3, 520, .inr (.inl (fun _ => 0)))), (a4, .inl (i4, 120, .inl (fun _ => 0)))] H := hP
  have hD : va_D A [(g0, .inr (1, [.long 0, .ref a1, .int 0, .ref a2, .ref a3, .int 0, .ref a4])), (a1, .inl (i1, 200, .inr (.inl (fun _ => 0)))), (a2, .inl (i2, 520, .inl (fun _ => 0))), (a3, .inl (i3, 520, .inr (.inl (fun _ => 0)))), (a4, .inl (i4, 120, .inl (fun _ => 0)))] := hD
  exact W.vret hx hb hr (fun z8 hz8 hW8 => ⟨⟨(a1, a2, a3, a4, i1, i2, i3, i4), rfl, trivial, by rw [hz8]; exact hP, va_K.moved hW8.alike hK, hD⟩, hS.F hz8⟩) hS.2.2 dX1_init_39
