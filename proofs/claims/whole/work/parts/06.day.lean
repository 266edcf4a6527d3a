set_option maxHeartbeats 4000000 in
set_option maxRecDepth 100000 in
/-- pass -/
theorem cX_pass (l : Launch) (dC : Nat → ClassId) (dI : Nat → Nat → Nat) (sz : Nat) (h0 qo qw qc qn qm ql : Nat) (k1 k2 k3 k4 k5 : ClassId) (d ll : Int32) (t : Nat) (ht9 : t < 1000) (fo fw fc fn fm : Nat → Int64) : Met l yX0_pass wsX0_pass ({ frames := 2, cells := 0, slots := 0, locals := 44 }) (dk_Pw [.ref h0] (dC, dI) vwCl [(k1, .long), (k2, .long), (k3, .long), (k4, .long), (k5, .long)] [(h0, .inr (0, [.int d, .int (nI t), .ref qo, .ref qw, .ref qc, .ref qn, .ref qm, .ref ql, .int ll])), (qo, .inl (k1, 200, .inr (.inl fo))), (qw, .inl (k2, 200, .inr (.inl fw))), (qc, .inl (k3, 200, .inr (.inl fc))), (qn, .inl (k4, 200, .inr (.inl fn))), (qm, .inl (k5, 200, .inr (.inl fm)))] sz) (va_Qi (fun (r : Int32) (u : (Nat → Int64) × (Nat → Int64) × (Nat → Int64) × (Nat → Int64)) => match u with | (go, gw, gc, gm) => r = nI (dk_pA ((t + 1) % 1000)) ∧ dk_Op ((t + 1) / 1000) fo fw fc fn fm go gw gc gm) (fun (u : (Nat → Int64) × (Nat → Int64) × (Nat → Int64) × (Nat → Int64)) z8 => match u with | (go, gw, gc, gm) => dk_B (dC, dI) vwCl (va_A [(h0, .inr (0, [.int d, .int (nI t), .ref qo, .ref qw, .ref qc, .ref qn, .ref qm, .ref ql, .int ll])), (qo, .inl (k1, 200, .inr (.inl fo))), (qw, .inl (k2, 200, .inr (.inl fw))), (qc, .inl (k3, 200, .inr (.inl fc))), (qn, .inl (k4, 200, .inr (.inl fn))), (qm, .inl (k5, 200, .inr (.inl fm)))] sz) [(h0, .inr (0, [.int (d + nI ((t + 1) / 1000)), .int (nI ((t + 1) % 1000)), .ref qo, .ref qw, .ref qc, .ref qn, .ref qm, .ref ql, .int ll])), (qo, .inl (k1, 200, .inr (.inl go))), (qw, .inl (k2, 200, .inr (.inl gw))), (qc, .inl (k3, 200, .inr (.inl gc))), (qn, .inl (k4, 200, .inr (.inl fn))), (qm, .inl (k5, 200, .inr (.inl gm)))] z8) (va_A [(h0, .inr (0, [.int d, .int (nI t), .ref qo, .ref qw, .ref qc, .ref qn, .ref qm, .ref ql, .int ll])), (qo, .inl (k1, 200, .inr (.inl fo))), (qw, .inl (k2, 200, .inr (.inl fw))), (qc, .inl (k3, 200, .inr (.inl fc))), (qn, .inl (k4, 200, .inr (.inl fn))), (qm, .inl (k5, 200, .inr (.inl fm)))] sz)) 0 0 (va_A [(h0, .inr (0, [.int d, .int (nI t), .ref qo, .ref qw, .ref qc, .ref qn, .ref qm, .ref ql, .int ll])), (qo, .inl (k1, 200, .inr (.inl fo))), (qw, .inl (k2, 200, .inr (.inl fw))), (qc, .inl (k3, 200, .inr (.inl fc))), (qn, .inl (k4, 200, .inr (.inl fn))), (qm, .inl (k5, 200, .inr (.inl fm)))] sz) := by
  refine Met.ofW (cc := cX0_pass) (maxL := 2) (ret := (some .int)) (by decide) rfl ?_
  intro p e s m args below meth c s₁ B hml hv
  obtain ⟨rfl, hsz, hP, hK, hD0⟩ := hv
  have hx := B.exec
  have hb := B.bytes
  have hr := B.returns
  have hts := atoms_spec (ws := wsX0_pass) B.pre
  have hown : s.vm.findClass RX0 = some m.cls := findClass_of_methodNamed B.named
  have hlocks := B.notSynchronized
  have hinX0 : ∀ w ∈ wsX00, w ∈ wsX0_pass := by decide +kernel
  subst hsz
  have hD := hD0.self (sz := s.heap.size)
  generalize hAe : va_A [(h0, .inr (0, [.int d, .int (nI t), .ref qo, .ref qw, .ref qc, .ref qn, .ref qm, .ref ql, .int ll])), (qo, .inl (k1, 200, .inr (.inl fo))), (qw, .inl (k2, 200, .inr (.inl fw))), (qc, .inl (k3, 200, .inr (.inl fc))), (qn, .inl (k4, 200, .inr (.inl fn))), (qm, .inl (k5, 200, .inr (.inl fm)))] s.heap.size = A at hD ⊢
  have hA : ∀ q : Nat, s.heap.size ≤ q → A q := fun q h => by rw [← hAe]; exact Or.inr h
  have hS : va_S A s.heap s.heap [] := va_S.rf
  have hl := lv_entry ([.ref h0]) (n := 2) (Nat.le_of_ble_eq_true rfl)
  rw [lg_entry_eq]
  generalize (lg_sl ([.ref h0]) ++ List.replicate (2 - (lg_sl ([.ref h0])).length) Slot.unset).toArray = ls at hl ⊢
  have hl : lv_has ls 2 [(0, .ref h0)] := hl
  refine lv_aload_n hx hb dX0_pass_0 rfl (lv_at hl 0 rfl) ?_
  refine lv_iconst (v := nI 1) hx hb dX0_pass_1 (by decide) ?_
  have hPc := hP
  have hDc := hD
  have hFc := va_free (wc := [(h0, .inr (0, [.int d, .int (nI t), .ref qo, .ref qw, .ref qc, .ref qn, .ref qm, .ref ql, .int ll])), (qo, .inl (k1, 200, .inr (.inl fo))), (qw, .inl (k2, 200, .inr (.inl fw))), (qc, .inl (k3, 200, .inr (.inl fc))), (qn, .inl (k4, 200, .inr (.inl fn))), (qm, .inl (k5, 200, .inr (.inl fm)))]) hD hS hA [0, 1, 2, 3, 4, 5] rfl
  have hKc := hK
  refine va_calli (va_runV (As := [.int (nI 1)]) (rest := []) ⟨hx, hb, hml, hown, hts⟩ (cX_advance l dC dI _ h0 qo qw qc qn qm ql k1 k2 k3 k4 k5 d ll t ht9 fo fw fc fn fm 1 (by omega)) (cwV 1 hts gX0_pass_X0_advance rfl rfl rfl (by decide +kernel) ⟨Nat.le_of_ble_eq_true rfl, Nat.le_of_ble_eq_true rfl⟩) (dk_wV hPc hKc hDc (ci := 0) (q0 := 0) rfl rfl) rfl rfl hl.1 rfl (lv_room (Nat.le_of_ble_eq_true rfl)) dX0_pass_2 ⟨Nat.zero_le _, Nat.zero_le _⟩) hS (fun q _ h => hFc q h) hFc (fun r_2 u8 t8 H1 locs ht8 hvm8 hw hB hz1 hk1 hS => ?_)
  try dsimp only at hw
  obtain ⟨go, gw, gc, gm⟩ := u8
  try dsimp only at hw hB
  obtain ⟨hP1, hD1⟩ := hB
  rw [ht8] at hP1
  obtain ⟨hP, hD⟩ := va_join (wr := []) (w1 := [(h0, .inr (0, [.int (d + nI ((t + 1) / 1000)), .int (nI ((t + 1) % 1000)), .ref qo, .ref qw, .ref qc, .ref qn, .ref qm, .ref ql, .int ll])), (qo, .inl (k1, 200, .inr (.inl go))), (qw, .inl (k2, 200, .inr (.inl gw))), (qc, .inl (k3, 200, .inr (.inl gc))), (qn, .inl (k4, 200, .inr (.inl fn))), (qm, .inl (k5, 200, .inr (.inl gm)))]) hP hD [0, 1, 2, 3, 4, 5] [] rfl rfl (by decide) (by decide) hk1 hFc hP1 hD1
  generalize H1 = H at hP hS ⊢
  have hP : va_P (dC, dI) vwCl [(h0, .inr (0, [.int (d + nI ((t + 1) / 1000)), .int (nI ((t + 1) % 1000)), .ref qo, .ref qw, .ref qc, .ref qn, .ref qm, .ref ql, .int ll])), (qo, .inl (k1, 200, .inr (.inl go))), (qw, .inl (k2, 200, .inr (.inl gw))), (qc, .inl (k3, 200, .inr (.inl gc))), (qn, .inl (k4, 200, .inr (.inl fn))), (qm, .inl (k5, 200, .inr (.inl gm)))] H := hP
  have hD : va_D A [(h0, .inr (0, [.int (d + nI ((t + 1) / 1000)), .int (nI ((t + 1) % 1000)), .ref qo, .ref qw, .ref qc, .ref qn, .ref qm, .ref ql, .int ll])), (qo, .inl (k1, 200, .inr (.inl go))), (qw, .inl (k2, 200, .inr (.inl gw))), (qc, .inl (k3, 200, .inr (.inl gc))), (qn, .inl (k4, 200, .inr (.inl fn))), (qm, .inl (k5, 200, .inr (.inl gm)))] := hD
  obtain ⟨rfl, hop⟩ := hw
  refine lv_pop hx hb dX0_pass_5 rfl ?_
  refine lv_iconst (v := nI 0) hx hb dX0_pass_6 (by decide) ?_
  refine lv_istore_n (lv' := [(1, .int (nI 0)), (0, .ref h0)]) hx hb dX0_pass_7 rfl hl (by decide) rfl (fun ls hl => ?_)
  refine lv_aload_n hx hb dX0_pass_8 rfl (lv_at hl 1 rfl) ?_
  refine va_get (D := (dC, dI)) (ci := 0) (v := .int (nI ((t + 1) % 1000))) (C := RX0) (T := TX0) (N := 9) hx hb hts hinX0 hown hK hP 0 rfl rfl 1 (by decide) (hts (.fieldLink RX0 13 "DayDesk" "tick" "I") (by decide +kernel)) (fun _ h9 => h9) rfl dX0_pass_9 ?_
  have hKc := hK.sub (tys' := []) [] rfl
  refine va_calli (va_runS (As := [.int (nI ((t + 1) % 1000))]) (rest := []) ⟨hx, hb, hml, hown, hts⟩ (cX_isResolving l dC dI ((t + 1) % 1000) (by omega)) (va_cwS 1 hts gX0_pass_X0_isResolving rfl rfl rfl (by decide +kernel) ⟨Nat.le_of_ble_eq_true rfl, Nat.le_of_ble_eq_true rfl⟩) (dk_rS dk_P0 hKc) rfl rfl hl.1 rfl (lv_room (Nat.le_of_ble_eq_true rfl)) dX0_pass_12 ⟨Nat.zero_le _, Nat.zero_le _⟩) hS (fun q _ h => False.elim h) (fun q h => False.elim h) (fun r_12 u8 t8 H1 locs ht8 hvm8 hw hB hz1 hk1 hS => ?_)
  try dsimp only at hw
  have hP := dk_kept hP hk1
  generalize H1 = H at hP hS ⊢
  unfold dk_iR at hw
  rcases hw with ⟨rfl, hR⟩ | ⟨rfl, hR⟩
  · refine lv_if_eq (tgt := 21) hx hb dX0_pass_15 (by decide) (fun c9 => absurd c9 (by decide)) (fun _ => ?_)
    refine lv_iinc (v := nI (0 + 1)) (lv' := [(1, .int (nI (0 + 1))), (0, .ref h0)]) hx hb dX0_pass_18 hl (k := 0) rfl (by rw [show Int32.ofInt 1 = nI 1 from by decide]; exact nI_add 0 1) (by decide) rfl (fun ls hl => ?_)
    refine lv_aload_n hx hb dX0_pass_21 rfl (lv_at hl 1 rfl) ?_
    refine va_get (D := (dC, dI)) (ci := 0) (v := .int (nI ((t + 1) % 1000))) (C := RX0) (T := TX0) (N := 9) hx hb hts hinX0 hown hK hP 0 rfl rfl 1 (by decide) (hts (.fieldLink RX0 13 "DayDesk" "tick" "I") (by decide +kernel)) (fun _ h9 => h9) rfl dX0_pass_22 ?_
    refine lv_sipush (v := nI 900) hx hb dX0_pass_25 (by decide) ?_
    refine dk_icmp_ne (x := (t + 1) % 1000) (y := 900) (tgt := 34) hx hb dX0_pass_28 (by decide) (by omega) (by omega) (fun c_28 => ?_) (fun c_28 => ?_)
    · refine lv_aload_n hx hb dX0_pass_34 rfl (lv_at hl 1 rfl) ?_
      refine va_get (D := (dC, dI)) (ci := 0) (v := .int (nI ((t + 1) % 1000))) (C := RX0) (T := TX0) (N := 9) hx hb hts hinX0 hown hK hP 0 rfl rfl 1 (by decide) (hts (.fieldLink RX0 13 "DayDesk" "tick" "I") (by decide +kernel)) (fun _ h9 => h9) rfl dX0_pass_35 ?_
      refine dk_if_ne (x := (t + 1) % 1000) (tgt := 44) hx hb dX0_pass_38 (by decide) (by omega) (fun c_38 => ?_) (fun c_38 => ?_)
      · refine lv_iload_n hx hb dX0_pass_44 rfl (lv_at hl 0 rfl) ?_
        exact W.iret (v := nI (0 + 1)) hx hb hr (fun z8 hz8 hW8 => ⟨⟨(nI (0 + 1)), (go, gw, gc, gm), rfl, ⟨congrArg nI (by unfold dk_pA; (repeat' split) <;> omega), hop⟩, by rw [hz8]; exact hP, hD⟩, hS.F hz8⟩) hS.2.2 dX0_pass_45
      · refine lv_iinc (v := nI ((0 + 1) + 4)) (lv' := [(1, .int (nI ((0 + 1) + 4))), (0, .ref h0)]) hx hb dX0_pass_41 hl (k := 0) rfl (by rw [show Int32.ofInt 4 = nI 4 from by decide]; exact nI_add (0 + 1) 4) (by decide) rfl (fun ls hl => ?_)
        refine lv_iload_n hx hb dX0_pass_44 rfl (lv_at hl 0 rfl) ?_
        exact W.iret (v := nI ((0 + 1) + 4)) hx hb hr (fun z8 hz8 hW8 => ⟨⟨(nI ((0 + 1) + 4)), (go, gw, gc, gm), rfl, ⟨congrArg nI (by unfold dk_pA; (repeat' split) <;> omega), hop⟩, by rw [hz8]; exact hP, hD⟩, hS.F hz8⟩) hS.2.2 dX0_pass_45
    · refine lv_iinc (v := nI ((0 + 1) + 2)) (lv' := [(1, .int (nI ((0 + 1) + 2))), (0, .ref h0)]) hx hb dX0_pass_31 hl (k := 0) rfl (by rw [show Int32.ofInt 2 = nI 2 from by decide]; exact nI_add (0 + 1) 2) (by decide) rfl (fun ls hl => ?_)
      refine lv_aload_n hx hb dX0_pass_34 rfl (lv_at hl 1 rfl) ?_
      refine va_get (D := (dC, dI)) (ci := 0) (v := .int (nI ((t + 1) % 1000))) (C := RX0) (T := TX0) (N := 9) hx hb hts hinX0 hown hK hP 0 rfl rfl 1 (by decide) (hts (.fieldLink RX0 13 "DayDesk" "tick" "I") (by decide +kernel)) (fun _ h9 => h9) rfl dX0_pass_35 ?_
      refine dk_if_ne (x := (t + 1) % 1000) (tgt := 44) hx hb dX0_pass_38 (by decide) (by omega) (fun c_38 => ?_) (fun c_38 => ?_)
      · refine lv_iload_n hx hb dX0_pass_44 rfl (lv_at hl 0 rfl) ?_
        exact W.iret (v := nI ((0 + 1) + 2)) hx hb hr (fun z8 hz8 hW8 => ⟨⟨(nI ((0 + 1) + 2)), (go, gw, gc, gm), rfl, ⟨congrArg nI (by unfold dk_pA; (repeat' split) <;> omega), hop⟩, by rw [hz8]; exact hP, hD⟩, hS.F hz8⟩) hS.2.2 dX0_pass_45
      · refine lv_iinc (v := nI (((0 + 1) + 2) + 4)) (lv' := [(1, .int (nI (((0 + 1) + 2) + 4))), (0, .ref h0)]) hx hb dX0_pass_41 hl (k := 0) rfl (by rw [show Int32.ofInt 4 = nI 4 from by decide]; exact nI_add ((0 + 1) + 2) 4) (by decide) rfl (fun ls hl => ?_)
        refine lv_iload_n hx hb dX0_pass_44 rfl (lv_at hl 0 rfl) ?_
        exact W.iret (v := nI (((0 + 1) + 2) + 4)) hx hb hr (fun z8 hz8 hW8 => ⟨⟨(nI (((0 + 1) + 2) + 4)), (go, gw, gc, gm), rfl, ⟨congrArg nI (by unfold dk_pA; (repeat' split) <;> omega), hop⟩, by rw [hz8]; exact hP, hD⟩, hS.F hz8⟩) hS.2.2 dX0_pass_45
  · refine lv_if_eq (tgt := 21) hx hb dX0_pass_15 (by decide) (fun _ => ?_) (fun c9 => absurd (by decide) c9)
    refine lv_aload_n hx hb dX0_pass_21 rfl (lv_at hl 1 rfl) ?_
    refine va_get (D := (dC, dI)) (ci := 0) (v := .int (nI ((t + 1) % 1000))) (C := RX0) (T := TX0) (N := 9) hx hb hts hinX0 hown hK hP 0 rfl rfl 1 (by decide) (hts (.fieldLink RX0 13 "DayDesk" "tick" "I") (by decide +kernel)) (fun _ h9 => h9) rfl dX0_pass_22 ?_
    refine lv_sipush (v := nI 900) hx hb dX0_pass_25 (by decide) ?_
    refine dk_icmp_ne (x := (t + 1) % 1000) (y := 900) (tgt := 34) hx hb dX0_pass_28 (by decide) (by omega) (by omega) (fun c_28 => ?_) (fun c_28 => ?_)
    · refine lv_aload_n hx hb dX0_pass_34 rfl (lv_at hl 1 rfl) ?_
      refine va_get (D := (dC, dI)) (ci := 0) (v := .int (nI ((t + 1) % 1000))) (C := RX0) (T := TX0) (N := 9) hx hb hts hinX0 hown hK hP 0 rfl rfl 1 (by decide) (hts (.fieldLink RX0 13 "DayDesk" "tick" "I") (by decide +kernel)) (fun _ h9 => h9) rfl dX0_pass_35 ?_
      refine dk_if_ne (x := (t + 1) % 1000) (tgt := 44) hx hb dX0_pass_38 (by decide) (by omega) (fun c_38 => ?_) (fun c_38 => ?_)
      · refine lv_iload_n hx hb dX0_pass_44 rfl (lv_at hl 0 rfl) ?_
        exact W.iret (v := nI 0) hx hb hr (fun z8 hz8 hW8 => ⟨⟨(nI 0), (go, gw, gc, gm), rfl, ⟨congrArg nI (by unfold dk_pA; (repeat' split) <;> omega), hop⟩, by rw [hz8]; exact hP, hD⟩, hS.F hz8⟩) hS.2.2 dX0_pass_45
      · refine lv_iinc (v := nI (0 + 4)) (lv' := [(1, .int (nI (0 + 4))), (0, .ref h0)]) hx hb dX0_pass_41 hl (k := 0) rfl (by rw [show Int32.ofInt 4 = nI 4 from by decide]; exact nI_add 0 4) (by decide) rfl (fun ls hl => ?_)
        refine lv_iload_n hx hb dX0_pass_44 rfl (lv_at hl 0 rfl) ?_
        exact W.iret (v := nI (0 + 4)) hx hb hr (fun z8 hz8 hW8 => ⟨⟨(nI (0 + 4)), (go, gw, gc, gm), rfl, ⟨congrArg nI (by unfold dk_pA; (repeat' split) <;> omega), hop⟩, by rw [hz8]; exact hP, hD⟩, hS.F hz8⟩) hS.2.2 dX0_pass_45
    · refine lv_iinc (v := nI (0 + 2)) (lv' := [(1, .int (nI (0 + 2))), (0, .ref h0)]) hx hb dX0_pass_31 hl (k := 0) rfl (by rw [show Int32.ofInt 2 = nI 2 from by decide]; exact nI_add 0 2) (by decide) rfl (fun ls hl => ?_)
      refine lv_aload_n hx hb dX0_pass_34 rfl (lv_at hl 1 rfl) ?_
      refine va_get (D := (dC, dI)) (ci := 0) (v := .int (nI ((t + 1) % 1000))) (C := RX0) (T := TX0) (N := 9) hx hb hts hinX0 hown hK hP 0 rfl rfl 1 (by decide) (hts (.fieldLink RX0 13 "DayDesk" "tick" "I") (by decide +kernel)) (fun _ h9 => h9) rfl dX0_pass_35 ?_
      refine dk_if_ne (x := (t + 1) % 1000) (tgt := 44) hx hb dX0_pass_38 (by decide) (by omega) (fun c_38 => ?_) (fun c_38 => ?_)
      · refine lv_iload_n hx hb dX0_pass_44 rfl (lv_at hl 0 rfl) ?_
        exact W.iret (v := nI (0 + 2)) hx hb hr (fun z8 hz8 hW8 => ⟨⟨(nI (0 + 2)), (go, gw, gc, gm), rfl, ⟨congrArg nI (by unfold dk_pA; (repeat' split) <;> omega), hop⟩, by rw [hz8]; exact hP, hD⟩, hS.F hz8⟩) hS.2.2 dX0_pass_45
      · refine lv_iinc (v := nI ((0 + 2) + 4)) (lv' := [(1, .int (nI ((0 + 2) + 4))), (0, .ref h0)]) hx hb dX0_pass_41 hl (k := 0) rfl (by rw [show Int32.ofInt 4 = nI 4 from by decide]; exact nI_add (0 + 2) 4) (by decide) rfl (fun ls hl => ?_)
        refine lv_iload_n hx hb dX0_pass_44 rfl (lv_at hl 0 rfl) ?_
        exact W.iret (v := nI ((0 + 2) + 4)) hx hb hr (fun z8 hz8 hW8 => ⟨⟨(nI ((0 + 2) + 4)), (go, gw, gc, gm), rfl, ⟨congrArg nI (by unfold dk_pA; (repeat' split) <;> omega), hop⟩, by rw [hz8]; exact hP, hD⟩, hS.F hz8⟩) hS.2.2 dX0_pass_45
set_option maxHeartbeats 4000000 in
set_option maxRecDepth 100000 in
/-- skip -/
theorem cX_skip (l : Launch) (dC : Nat → ClassId) (dI : Nat → Nat → Nat) (sz : Nat) (h0 qo qw qc qn qm ql : Nat) (k1 k2 k3 k4 k5 : ClassId) (d ll : Int32) (t : Nat) (ht9 : t < 1000) (fo fw fc fn fm : Nat → Int64) (x : Int32) : Met l yX0_skip wsX0_skip ({ frames := 2, cells := 0, slots := 0, locals := 44 }) (dk_Pw [.ref h0, .int x] (dC, dI) vwCl [(k1, .long), (k2, .long), (k3, .long), (k4, .long), (k5, .long)] [(h0, .inr (0, [.int d, .int (nI t), .ref qo, .ref qw, .ref qc, .ref qn, .ref qm, .ref ql, .int ll])), (qo, .inl (k1, 200, .inr (.inl fo))), (qw, .inl (k2, 200, .inr (.inl fw))), (qc, .inl (k3, 200, .inr (.inl fc))), (qn, .inl (k4, 200, .inr (.inl fn))), (qm, .inl (k5, 200, .inr (.inl fm)))] sz) (va_Qi (fun (r : Int32) (u : Int32 × Nat × (Nat → Int64) × (Nat → Int64) × (Nat → Int64) × (Nat → Int64)) => match u with | (e2, t2, go, gw, gc, gm) => (r = -1 ∧ (x < 1 ∨ nI 100000 < x) ∧ e2 = d ∧ t2 = t ∧ go = fo ∧ gw = fw ∧ gc = fc ∧ gm = fm) ∨ (∃ n : Nat, 1 ≤ n ∧ n ≤ 100000 ∧ x = nI n ∧ e2 = d + nI ((t + n) / 1000) ∧ t2 = (t + n) % 1000 ∧ dk_Op ((t + n) / 1000) fo fw fc fn fm go gw gc gm ∧ r = nI ((t + n) / 1000 * 16 + dk_rU ((t + n) % 1000) - dk_rU t))) (fun (u : Int32 × Nat × (Nat → Int64) × (Nat → Int64) × (Nat → Int64) × (Nat → Int64)) z8 => match u with | (e2, t2, go, gw, gc, gm) => dk_B (dC, dI) vwCl (va_A [(h0, .inr (0, [.int d, .int (nI t), .ref qo, .ref qw, .ref qc, .ref qn, .ref qm, .ref ql, .int ll])), (qo, .inl (k1, 200, .inr (.inl fo))), (qw, .inl (k2, 200, .inr (.inl fw))), (qc, .inl (k3, 200, .inr (.inl fc))), (qn, .inl (k4, 200, .inr (.inl fn))), (qm, .inl (k5, 200, .inr (.inl fm)))] sz) [(h0, .inr (0, [.int e2, .int (nI t2), .ref qo, .ref qw, .ref qc, .ref qn, .ref qm, .ref ql, .int ll])), (qo, .inl (k1, 200, .inr (.inl go))), (qw, .inl (k2, 200, .inr (.inl gw))), (qc, .inl (k3, 200, .inr (.inl gc))), (qn, .inl (k4, 200, .inr (.inl fn))), (qm, .inl (k5, 200, .inr (.inl gm)))] z8) (va_A [(h0, .inr (0, [.int d, .int (nI t), .ref qo, .ref qw, .ref qc, .ref qn, .ref qm, .ref ql, .int ll])), (qo, .inl (k1, 200, .inr (.inl fo))), (qw, .inl (k2, 200, .inr (.inl fw))), (qc, .inl (k3, 200, .inr (.inl fc))), (qn, .inl (k4, 200, .inr (.inl fn))), (qm, .inl (k5, 200, .inr (.inl fm)))] sz)) 0 0 (va_A [(h0, .inr (0, [.int d, .int (nI t), .ref qo, .ref qw, .ref qc, .ref qn, .ref qm, .ref ql, .int ll])), (qo, .inl (k1, 200, .inr (.inl fo))), (qw, .inl (k2, 200, .inr (.inl fw))), (qc, .inl (k3, 200, .inr (.inl fc))), (qn, .inl (k4, 200, .inr (.inl fn))), (qm, .inl (k5, 200, .inr (.inl fm)))] sz) := by
  refine Met.ofW (cc := cX0_skip) (maxL := 4) (ret := (some .int)) (by decide) rfl ?_
  intro p e s m args below meth c s₁ B hml hv
  obtain ⟨rfl, hsz, hP, hK, hD0⟩ := hv
  have hx := B.exec
  have hb := B.bytes
  have hr := B.returns
  have hts := atoms_spec (ws := wsX0_skip) B.pre
  have hown : s.vm.findClass RX0 = some m.cls := findClass_of_methodNamed B.named
  have hlocks := B.notSynchronized
  have hinX0 : ∀ w ∈ wsX00, w ∈ wsX0_skip := by decide +kernel
  subst hsz
  have hD := hD0.self (sz := s.heap.size)
  generalize hAe : va_A [(h0, .inr (0, [.int d, .int (nI t), .ref qo, .ref qw, .ref qc, .ref qn, .ref qm, .ref ql, .int ll])), (qo, .inl (k1, 200, .inr (.inl fo))), (qw, .inl (k2, 200, .inr (.inl fw))), (qc, .inl (k3, 200, .inr (.inl fc))), (qn, .inl (k4, 200, .inr (.inl fn))), (qm, .inl (k5, 200, .inr (.inl fm)))] s.heap.size = A at hD ⊢
  have hA : ∀ q : Nat, s.heap.size ≤ q → A q := fun q h => by rw [← hAe]; exact Or.inr h
  have hS : va_S A s.heap s.heap [] := va_S.rf
  have hl := lv_entry ([.ref h0, .int x]) (n := 4) (Nat.le_of_ble_eq_true rfl)
  rw [lg_entry_eq]
  generalize (lg_sl ([.ref h0, .int x]) ++ List.replicate (4 - (lg_sl ([.ref h0, .int x])).length) Slot.unset).toArray = ls at hl ⊢
  have hl : lv_has ls 4 [(0, .ref h0), (1, .int x)] := hl
  refine lv_iload_n hx hb dX0_skip_0 rfl (lv_at hl 1 rfl) ?_
  refine lv_iconst (v := 1) hx hb dX0_skip_1 (by decide) ?_
  refine lv_icmp_lt (tgt := 11) hx hb dX0_skip_2 (by decide) (fun c_2 => ?_) (fun c_2 => ?_)
  · refine lv_iconst (v := (-1)) hx hb dX0_skip_11 (by decide) ?_
    exact W.iret (v := (-1)) hx hb hr (fun z8 hz8 hW8 => ⟨⟨(-1), (d, t, fo, fw, fc, fm), rfl, Or.inl ⟨rfl, Or.inl c_2, rfl, rfl, rfl, rfl, rfl, rfl⟩, by rw [hz8]; exact hP, hD⟩, hS.F hz8⟩) hS.2.2 dX0_skip_12
  · refine lv_iload_n hx hb dX0_skip_5 rfl (lv_at hl 1 rfl) ?_
    refine lv_ldc (v := nI 100000) hx hb hown (hts (.constant RX0 47 (nI 100000)) (by decide +kernel)) dX0_skip_6 ?_
    refine lv_icmp_le (tgt := 13) hx hb dX0_skip_8 (by decide) (fun c_8 => ?_) (fun c_8 => ?_)
    · obtain ⟨n, hn1, hn2, rfl⟩ := dk_ticks c_2 c_8
      have hrU1 := dk_rU_le t
      have hrU2 := dk_rU_le ((t + n) % 1000)
      have hsk := dk_skip_le t n ht9
      refine lv_aload_n hx hb dX0_skip_13 rfl (lv_at hl 0 rfl) ?_
      refine va_get (D := (dC, dI)) (ci := 0) (v := .int (nI t)) (C := RX0) (T := TX0) (N := 9) hx hb hts hinX0 hown hK hP 0 rfl rfl 1 (by decide) (hts (.fieldLink RX0 13 "DayDesk" "tick" "I") (by decide +kernel)) (fun _ h9 => h9) rfl dX0_skip_14 ?_
      have hKc := hK.sub (tys' := []) [] rfl
      refine va_calli (va_runS (As := [.int (nI t)]) (rest := []) ⟨hx, hb, hml, hown, hts⟩ (cX_resolvingsUntil l dC dI t ht9) (va_cwS 1 hts gX0_skip_X0_resolvingsUntil rfl rfl rfl (by decide +kernel) ⟨Nat.le_of_ble_eq_true rfl, Nat.le_of_ble_eq_true rfl⟩) (dk_rS dk_P0 hKc) rfl rfl hl.1 rfl (lv_room (Nat.le_of_ble_eq_true rfl)) dX0_skip_17 ⟨Nat.zero_le _, Nat.zero_le _⟩) hS (fun q _ h => False.elim h) (fun q h => False.elim h) (fun r_17 u8 t8 H1 locs ht8 hvm8 hw hB hz1 hk1 hS => ?_)
      try dsimp only at hw
      have hP := dk_kept hP hk1
      generalize H1 = H at hP hS ⊢
      subst hw
      refine lv_istore_n (lv' := [(2, .int (nI (dk_rU t))), (0, .ref h0), (1, .int (nI n))]) hx hb dX0_skip_20 rfl hl (by decide) rfl (fun ls hl => ?_)
      refine lv_aload_n hx hb dX0_skip_21 rfl (lv_at hl 1 rfl) ?_
      refine lv_iload_n hx hb dX0_skip_22 rfl (lv_at hl 2 rfl) ?_
      have hPc := hP
      have hDc := hD
      have hFc := va_free (wc := [(h0, .inr (0, [.int d, .int (nI t), .ref qo, .ref qw, .ref qc, .ref qn, .ref qm, .ref ql, .int ll])), (qo, .inl (k1, 200, .inr (.inl fo))), (qw, .inl (k2, 200, .inr (.inl fw))), (qc, .inl (k3, 200, .inr (.inl fc))), (qn, .inl (k4, 200, .inr (.inl fn))), (qm, .inl (k5, 200, .inr (.inl fm)))]) hD hS hA [0, 1, 2, 3, 4, 5] rfl
      have hKc := hK
      refine va_calli (va_runV (As := [.int (nI n)]) (rest := []) ⟨hx, hb, hml, hown, hts⟩ (cX_advance l dC dI _ h0 qo qw qc qn qm ql k1 k2 k3 k4 k5 d ll t ht9 fo fw fc fn fm n hn2) (cwV 1 hts gX0_skip_X0_advance rfl rfl rfl (by decide +kernel) ⟨Nat.le_of_ble_eq_true rfl, Nat.le_of_ble_eq_true rfl⟩) (dk_wV hPc hKc hDc (ci := 0) (q0 := 0) rfl rfl) rfl rfl hl.1 rfl (lv_room (Nat.le_of_ble_eq_true rfl)) dX0_skip_23 ⟨Nat.zero_le _, Nat.zero_le _⟩) hS (fun q _ h => hFc q h) hFc (fun r_23 u8 t8 H1 locs ht8 hvm8 hw hB hz1 hk1 hS => ?_)
      try dsimp only at hw
      obtain ⟨go, gw, gc, gm⟩ := u8
      try dsimp only at hw hB
      obtain ⟨hP1, hD1⟩ := hB
      rw [ht8] at hP1
      obtain ⟨hP, hD⟩ := va_join (wr := []) (w1 := [(h0, .inr (0, [.int (d + nI ((t + n) / 1000)), .int (nI ((t + n) % 1000)), .ref qo, .ref qw, .ref qc, .ref qn, .ref qm, .ref ql, .int ll])), (qo, .inl (k1, 200, .inr (.inl go))), (qw, .inl (k2, 200, .inr (.inl gw))), (qc, .inl (k3, 200, .inr (.inl gc))), (qn, .inl (k4, 200, .inr (.inl fn))), (qm, .inl (k5, 200, .inr (.inl gm)))]) hP hD [0, 1, 2, 3, 4, 5] [] rfl rfl (by decide) (by decide) hk1 hFc hP1 hD1
      generalize H1 = H at hP hS ⊢
      have hP : va_P (dC, dI) vwCl [(h0, .inr (0, [.int (d + nI ((t + n) / 1000)), .int (nI ((t + n) % 1000)), .ref qo, .ref qw, .ref qc, .ref qn, .ref qm, .ref ql, .int ll])), (qo, .inl (k1, 200, .inr (.inl go))), (qw, .inl (k2, 200, .inr (.inl gw))), (qc, .inl (k3, 200, .inr (.inl gc))), (qn, .inl (k4, 200, .inr (.inl fn))), (qm, .inl (k5, 200, .inr (.inl gm)))] H := hP
      have hD : va_D A [(h0, .inr (0, [.int (d + nI ((t + n) / 1000)), .int (nI ((t + n) % 1000)), .ref qo, .ref qw, .ref qc, .ref qn, .ref qm, .ref ql, .int ll])), (qo, .inl (k1, 200, .inr (.inl go))), (qw, .inl (k2, 200, .inr (.inl gw))), (qc, .inl (k3, 200, .inr (.inl gc))), (qn, .inl (k4, 200, .inr (.inl fn))), (qm, .inl (k5, 200, .inr (.inl gm)))] := hD
      obtain ⟨rfl, hop⟩ := hw
      refine lv_istore_n (lv' := [(3, .int (nI ((t + n) / 1000))), (2, .int (nI (dk_rU t))), (0, .ref h0), (1, .int (nI n))]) hx hb dX0_skip_26 rfl hl (by decide) rfl (fun ls hl => ?_)
      refine lv_iload_n hx hb dX0_skip_27 rfl (lv_at hl 0 rfl) ?_
      refine lv_bipush (v := nI 16) hx hb dX0_skip_28 (by decide) ?_
      refine lv_imul hx hb dX0_skip_30 ?_
      refine dk_asi (y := nI (((t + n) / 1000) * 16)) (pk_mul ((t + n) / 1000) 16) ?_
      refine lv_aload_n hx hb dX0_skip_31 rfl (lv_at hl 2 rfl) ?_
      refine va_get (D := (dC, dI)) (ci := 0) (v := .int (nI ((t + n) % 1000))) (C := RX0) (T := TX0) (N := 9) hx hb hts hinX0 hown hK hP 0 rfl rfl 1 (by decide) (hts (.fieldLink RX0 13 "DayDesk" "tick" "I") (by decide +kernel)) (fun _ h9 => h9) rfl dX0_skip_32 ?_
      have hKc := hK.sub (tys' := []) [] rfl
      refine va_calli (va_runS (As := [.int (nI ((t + n) % 1000))]) (rest := [.int (nI (((t + n) / 1000) * 16))]) ⟨hx, hb, hml, hown, hts⟩ (cX_resolvingsUntil l dC dI ((t + n) % 1000) (by omega)) (va_cwS 1 hts gX0_skip_X0_resolvingsUntil rfl rfl rfl (by decide +kernel) ⟨Nat.le_of_ble_eq_true rfl, Nat.le_of_ble_eq_true rfl⟩) (dk_rS dk_P0 hKc) rfl rfl hl.1 rfl (lv_room (Nat.le_of_ble_eq_true rfl)) dX0_skip_35 ⟨Nat.zero_le _, Nat.zero_le _⟩) hS (fun q _ h => False.elim h) (fun q h => False.elim h) (fun r_35 u8 t8 H1 locs ht8 hvm8 hw hB hz1 hk1 hS => ?_)
      try dsimp only at hw
      have hP := dk_kept hP hk1
      generalize H1 = H at hP hS ⊢
      subst hw
      refine lv_iadd hx hb dX0_skip_38 ?_
      refine dk_asi (y := nI ((((t + n) / 1000) * 16) + (dk_rU ((t + n) % 1000)))) (nI_add (((t + n) / 1000) * 16) (dk_rU ((t + n) % 1000))) ?_
      refine lv_iload_n hx hb dX0_skip_39 rfl (lv_at hl 1 rfl) ?_
      refine lv_isub hx hb dX0_skip_40 ?_
      refine dk_asi (y := nI (((((t + n) / 1000) * 16) + (dk_rU ((t + n) % 1000))) - (dk_rU t))) (pk_sub (a := (((t + n) / 1000) * 16) + (dk_rU ((t + n) % 1000))) (b := dk_rU t) (by omega)) ?_
      exact W.iret (v := nI (((((t + n) / 1000) * 16) + (dk_rU ((t + n) % 1000))) - (dk_rU t))) hx hb hr (fun z8 hz8 hW8 => ⟨⟨(nI (((((t + n) / 1000) * 16) + (dk_rU ((t + n) % 1000))) - (dk_rU t))), (d + nI ((t + n) / 1000), (t + n) % 1000, go, gw, gc, gm), rfl, Or.inr ⟨n, hn1, hn2, rfl, rfl, rfl, hop, rfl⟩, by rw [hz8]; exact hP, hD⟩, hS.F hz8⟩) hS.2.2 dX0_skip_41
    · refine lv_iconst (v := (-1)) hx hb dX0_skip_11 (by decide) ?_
      exact W.iret (v := (-1)) hx hb hr (fun z8 hz8 hW8 => ⟨⟨(-1), (d, t, fo, fw, fc, fm), rfl, Or.inl ⟨rfl, Or.inr (dk_inle c_8), rfl, rfl, rfl, rfl, rfl, rfl⟩, by rw [hz8]; exact hP, hD⟩, hS.F hz8⟩) hS.2.2 dX0_skip_12
set_option maxHeartbeats 4000000 in
set_option maxRecDepth 100000 in
/-- may -/
theorem cX_may (l : Launch) (dC : Nat → ClassId) (dI : Nat → Nat → Nat) (h0 qo qw qc qn qm ql : Nat) (d ll : Int32) (t : Nat) (ht9 : t < 1000) (x pr mo : Int32) : Met l yX0_may wsX0_may ({ frames := 2, cells := 0, slots := 0, locals := 40 }) (dk_Pr [.ref h0, .int x, .int pr, .int mo] (dC, dI) vwCl [] [(h0, .inr (0, [.int d, .int (nI t), .ref qo, .ref qw, .ref qc, .ref qn, .ref qm, .ref ql, .int ll]))]) (va_Qi (fun (r : Int32) (_ : Unit) => (r = 1 ∧ dk_may t x pr mo) ∨ (r = 0 ∧ ¬ dk_may t x pr mo)) (fun _ _ => True) dk_no) 0 0 dk_no := by
  refine Met.ofW (cc := cX0_may) (maxL := 4) (ret := (some .boolean)) (by decide) rfl ?_
  intro p e s m args below meth c s₁ B hml hv
  obtain ⟨rfl, hP, hK⟩ := hv
  have hx := B.exec
  have hb := B.bytes
  have hr := B.returns
  have hts := atoms_spec (ws := wsX0_may) B.pre
  have hown : s.vm.findClass RX0 = some m.cls := findClass_of_methodNamed B.named
  have hlocks := B.notSynchronized
  have hS : va_S dk_no s.heap s.heap [] := va_S.rf
  have hl := lv_entry ([.ref h0, .int x, .int pr, .int mo]) (n := 4) (Nat.le_of_ble_eq_true rfl)
  rw [lg_entry_eq]
  generalize (lg_sl ([.ref h0, .int x, .int pr, .int mo]) ++ List.replicate (4 - (lg_sl ([.ref h0, .int x, .int pr, .int mo])).length) Slot.unset).toArray = ls at hl ⊢
  have hl : lv_has ls 4 [(0, .ref h0), (1, .int x), (2, .int pr), (3, .int mo)] := hl
  refine lv_iload_n hx hb dX0_may_0 rfl (lv_at hl 1 rfl) ?_
  refine lv_if_lt (tgt := 10) hx hb dX0_may_1 (by decide) (fun c_1 => ?_) (fun c_1 => ?_)
  · refine lv_iconst (v := 0) hx hb dX0_may_10 (by decide) ?_
    exact W.zret (v := 0) hx hb hr (by first | rfl | decide) (fun z8 hz8 hW8 => ⟨⟨0, (), rfl, Or.inr ⟨rfl, fun q9 => q9.1 c_1⟩, trivial⟩, hS.F hz8⟩) hS.2.2 dX0_may_11
  · refine lv_iload_n hx hb dX0_may_4 rfl (lv_at hl 1 rfl) ?_
    refine lv_bipush (v := 14) hx hb dX0_may_5 (by decide) ?_
    refine lv_icmp_le (tgt := 12) hx hb dX0_may_7 (by decide) (fun c_7 => ?_) (fun c_7 => ?_)
    · refine lv_aload_n hx hb dX0_may_12 rfl (lv_at hl 0 rfl) ?_
      have hPc := hP
      have hKc := hK
      refine va_calli (va_runV (As := []) (rest := []) ⟨hx, hb, hml, hown, hts⟩ (cX_phaseNow l dC dI h0 qo qw qc qn qm ql d ll t ht9) (cwV 0 hts gX0_may_X0_phaseNow rfl rfl rfl (by decide +kernel) ⟨Nat.le_of_ble_eq_true rfl, Nat.le_of_ble_eq_true rfl⟩) (dk_rV hPc hKc (ci := 0) (q0 := 0) rfl rfl) rfl rfl hl.1 rfl (lv_room (Nat.le_of_ble_eq_true rfl)) dX0_may_13 ⟨Nat.zero_le _, Nat.zero_le _⟩) hS (fun q _ h => False.elim h) (fun q h => False.elim h) (fun r_13 u8 t8 H1 locs ht8 hvm8 hw hB hz1 hk1 hS => ?_)
      try dsimp only at hw
      have hP := dk_kept hP hk1
      generalize H1 = H at hP hS ⊢
      rcases hw with ⟨rfl, h1⟩ | ⟨rfl, h1, h2⟩ | ⟨rfl, h1, h2⟩ | ⟨rfl, h1, h2⟩ | ⟨rfl, h1⟩
      · refine lv_tableIn (tgt := 52) (off := 36) hx hb dX0_may_16 (by decide) (by decide) (by decide) (by decide) ?_
        refine lv_iload_n hx hb dX0_may_52 rfl (lv_at hl 1 rfl) ?_
        have hKc := hK
        refine va_calli (va_runS (As := [.int x]) (rest := []) ⟨hx, hb, hml, hown, hts⟩ (cX_isClosedWhenEarly l dC dI x) (va_cwS 1 hts gX0_may_X0_isClosedWhenEarly rfl rfl rfl (by decide +kernel) ⟨Nat.le_of_ble_eq_true rfl, Nat.le_of_ble_eq_true rfl⟩) (dk_rS dk_P0 hKc) rfl rfl hl.1 rfl (lv_room (Nat.le_of_ble_eq_true rfl)) dX0_may_53 ⟨Nat.zero_le _, Nat.zero_le _⟩) hS (fun q _ h => False.elim h) (fun q h => False.elim h) (fun r_53 u8 t8 H1 locs ht8 hvm8 hw hB hz1 hk1 hS => ?_)
        try dsimp only at hw
        have hP := dk_kept hP hk1
        generalize H1 = H at hP hS ⊢
        rcases hw with ⟨rfl, hE⟩ | ⟨rfl, hE⟩
        · refine lv_if_ne (tgt := 63) hx hb dX0_may_56 (by decide) (fun _ => ?_) (fun c9 => absurd c9 (by decide))
          refine lv_iconst (v := 0) hx hb dX0_may_63 (by decide) ?_
          exact W.zret (v := 0) hx hb hr (by first | rfl | decide) (fun z8 hz8 hW8 => ⟨⟨0, (), rfl, Or.inr ⟨rfl, by unfold dk_may; rintro ⟨q1, q2, q3, q4, q5, q6⟩; first | exact q3 (by omega) hE | exact q6 (by omega) hE | exact (q4 (by omega) (by omega)).elim (fun z9 => z9 c_67) (fun z9 => (Int32.not_le.mpr c_72) z9) | exact (q5 (by omega) (by omega)).elim (fun z9 => z9 c_83) (fun z9 => z9 c_87)⟩, trivial⟩, hS.F hz8⟩) hS.2.2 dX0_may_64
        · refine lv_if_ne (tgt := 63) hx hb dX0_may_56 (by decide) (fun c9 => absurd (by decide) c9) (fun _ => ?_)
          refine lv_iconst (v := 1) hx hb dX0_may_59 (by decide) ?_
          refine lv_goto (tgt := 64) hx hb dX0_may_60 (by decide) ?_
          exact W.zret (v := 1) hx hb hr (by first | rfl | decide) (fun z8 hz8 hW8 => ⟨⟨1, (), rfl, Or.inl ⟨rfl, by unfold dk_may; refine ⟨c_1, c_7, ?_, ?_, ?_, ?_⟩ <;> intros <;> first | assumption | (exfalso; omega) | (left; assumption) | (right; assumption) | (right; exact dk_inl (by assumption)) | (exact Or.inr (dk_inl (by assumption)))⟩, trivial⟩, hS.F hz8⟩) hS.2.2 dX0_may_64
      · refine lv_tableIn (tgt := 109) (off := 93) hx hb dX0_may_16 (by decide) (by decide) (by decide) (by decide) ?_
        refine lv_iconst (v := 1) hx hb dX0_may_109 (by decide) ?_
        exact W.zret (v := 1) hx hb hr (by first | rfl | decide) (fun z8 hz8 hW8 => ⟨⟨1, (), rfl, Or.inl ⟨rfl, by unfold dk_may; refine ⟨c_1, c_7, ?_, ?_, ?_, ?_⟩ <;> intros <;> first | assumption | (exfalso; omega) | (left; assumption) | (right; assumption) | (right; exact dk_inl (by assumption)) | (exact Or.inr (dk_inl (by assumption)))⟩, trivial⟩, hS.F hz8⟩) hS.2.2 dX0_may_110
      · refine lv_tableIn (tgt := 65) (off := 49) hx hb dX0_may_16 (by decide) (by decide) (by decide) (by decide) ?_
        refine lv_iload_n hx hb dX0_may_65 rfl (lv_at hl 1 rfl) ?_
        refine lv_iconst (v := 5) hx hb dX0_may_66 (by decide) ?_
        refine lv_icmp_ne (tgt := 75) hx hb dX0_may_67 (by decide) (fun c_67 => ?_) (fun c_67 => ?_)
        · refine lv_iconst (v := 1) hx hb dX0_may_75 (by decide) ?_
          refine lv_goto (tgt := 80) hx hb dX0_may_76 (by decide) ?_
          exact W.zret (v := 1) hx hb hr (by first | rfl | decide) (fun z8 hz8 hW8 => ⟨⟨1, (), rfl, Or.inl ⟨rfl, by unfold dk_may; refine ⟨c_1, c_7, ?_, ?_, ?_, ?_⟩ <;> intros <;> first | assumption | (exfalso; omega) | (left; assumption) | (right; assumption) | (right; exact dk_inl (by assumption)) | (exact Or.inr (dk_inl (by assumption)))⟩, trivial⟩, hS.F hz8⟩) hS.2.2 dX0_may_80
        · refine lv_iload_n hx hb dX0_may_70 rfl (lv_at hl 2 rfl) ?_
          refine lv_iconst (v := 4) hx hb dX0_may_71 (by decide) ?_
          refine lv_icmp_gt (tgt := 79) hx hb dX0_may_72 (by decide) (fun c_72 => ?_) (fun c_72 => ?_)
          · refine lv_iconst (v := 0) hx hb dX0_may_79 (by decide) ?_
            exact W.zret (v := 0) hx hb hr (by first | rfl | decide) (fun z8 hz8 hW8 => ⟨⟨0, (), rfl, Or.inr ⟨rfl, by unfold dk_may; rintro ⟨q1, q2, q3, q4, q5, q6⟩; first | exact q3 (by omega) hE | exact q6 (by omega) hE | exact (q4 (by omega) (by omega)).elim (fun z9 => z9 c_67) (fun z9 => (Int32.not_le.mpr c_72) z9) | exact (q5 (by omega) (by omega)).elim (fun z9 => z9 c_83) (fun z9 => z9 c_87)⟩, trivial⟩, hS.F hz8⟩) hS.2.2 dX0_may_80
          · refine lv_iconst (v := 1) hx hb dX0_may_75 (by decide) ?_
            refine lv_goto (tgt := 80) hx hb dX0_may_76 (by decide) ?_
            exact W.zret (v := 1) hx hb hr (by first | rfl | decide) (fun z8 hz8 hW8 => ⟨⟨1, (), rfl, Or.inl ⟨rfl, by unfold dk_may; refine ⟨c_1, c_7, ?_, ?_, ?_, ?_⟩ <;> intros <;> first | assumption | (exfalso; omega) | (left; assumption) | (right; assumption) | (right; exact dk_inl (by assumption)) | (exact Or.inr (dk_inl (by assumption)))⟩, trivial⟩, hS.F hz8⟩) hS.2.2 dX0_may_80
      · refine lv_tableIn (tgt := 81) (off := 65) hx hb dX0_may_16 (by decide) (by decide) (by decide) (by decide) ?_
        refine lv_iload_n hx hb dX0_may_81 rfl (lv_at hl 1 rfl) ?_
        refine lv_iconst (v := 5) hx hb dX0_may_82 (by decide) ?_
        refine lv_icmp_ne (tgt := 90) hx hb dX0_may_83 (by decide) (fun c_83 => ?_) (fun c_83 => ?_)
        · refine lv_iconst (v := 1) hx hb dX0_may_90 (by decide) ?_
          refine lv_goto (tgt := 95) hx hb dX0_may_91 (by decide) ?_
          exact W.zret (v := 1) hx hb hr (by first | rfl | decide) (fun z8 hz8 hW8 => ⟨⟨1, (), rfl, Or.inl ⟨rfl, by unfold dk_may; refine ⟨c_1, c_7, ?_, ?_, ?_, ?_⟩ <;> intros <;> first | assumption | (exfalso; omega) | (left; assumption) | (right; assumption) | (right; exact dk_inl (by assumption)) | (exact Or.inr (dk_inl (by assumption)))⟩, trivial⟩, hS.F hz8⟩) hS.2.2 dX0_may_95
        · refine lv_iload_n hx hb dX0_may_86 rfl (lv_at hl 3 rfl) ?_
          refine lv_if_eq (tgt := 94) hx hb dX0_may_87 (by decide) (fun c_87 => ?_) (fun c_87 => ?_)
          · refine lv_iconst (v := 0) hx hb dX0_may_94 (by decide) ?_
            exact W.zret (v := 0) hx hb hr (by first | rfl | decide) (fun z8 hz8 hW8 => ⟨⟨0, (), rfl, Or.inr ⟨rfl, by unfold dk_may; rintro ⟨q1, q2, q3, q4, q5, q6⟩; first | exact q3 (by omega) hE | exact q6 (by omega) hE | exact (q4 (by omega) (by omega)).elim (fun z9 => z9 c_67) (fun z9 => (Int32.not_le.mpr c_72) z9) | exact (q5 (by omega) (by omega)).elim (fun z9 => z9 c_83) (fun z9 => z9 c_87)⟩, trivial⟩, hS.F hz8⟩) hS.2.2 dX0_may_95
          · refine lv_iconst (v := 1) hx hb dX0_may_90 (by decide) ?_
            refine lv_goto (tgt := 95) hx hb dX0_may_91 (by decide) ?_
            exact W.zret (v := 1) hx hb hr (by first | rfl | decide) (fun z8 hz8 hW8 => ⟨⟨1, (), rfl, Or.inl ⟨rfl, by unfold dk_may; refine ⟨c_1, c_7, ?_, ?_, ?_, ?_⟩ <;> intros <;> first | assumption | (exfalso; omega) | (left; assumption) | (right; assumption) | (right; exact dk_inl (by assumption)) | (exact Or.inr (dk_inl (by assumption)))⟩, trivial⟩, hS.F hz8⟩) hS.2.2 dX0_may_95
      · refine lv_tableIn (tgt := 96) (off := 80) hx hb dX0_may_16 (by decide) (by decide) (by decide) (by decide) ?_
        refine lv_iload_n hx hb dX0_may_96 rfl (lv_at hl 1 rfl) ?_
        have hKc := hK
        refine va_calli (va_runS (As := [.int x]) (rest := []) ⟨hx, hb, hml, hown, hts⟩ (cX_isClosedWhenShut l dC dI x) (va_cwS 1 hts gX0_may_X0_isClosedWhenShut rfl rfl rfl (by decide +kernel) ⟨Nat.le_of_ble_eq_true rfl, Nat.le_of_ble_eq_true rfl⟩) (dk_rS dk_P0 hKc) rfl rfl hl.1 rfl (lv_room (Nat.le_of_ble_eq_true rfl)) dX0_may_97 ⟨Nat.zero_le _, Nat.zero_le _⟩) hS (fun q _ h => False.elim h) (fun q h => False.elim h) (fun r_97 u8 t8 H1 locs ht8 hvm8 hw hB hz1 hk1 hS => ?_)
        try dsimp only at hw
        have hP := dk_kept hP hk1
        generalize H1 = H at hP hS ⊢
        rcases hw with ⟨rfl, hE⟩ | ⟨rfl, hE⟩
        · refine lv_if_ne (tgt := 107) hx hb dX0_may_100 (by decide) (fun _ => ?_) (fun c9 => absurd c9 (by decide))
          refine lv_iconst (v := 0) hx hb dX0_may_107 (by decide) ?_
          exact W.zret (v := 0) hx hb hr (by first | rfl | decide) (fun z8 hz8 hW8 => ⟨⟨0, (), rfl, Or.inr ⟨rfl, by unfold dk_may; rintro ⟨q1, q2, q3, q4, q5, q6⟩; first | exact q3 (by omega) hE | exact q6 (by omega) hE | exact (q4 (by omega) (by omega)).elim (fun z9 => z9 c_67) (fun z9 => (Int32.not_le.mpr c_72) z9) | exact (q5 (by omega) (by omega)).elim (fun z9 => z9 c_83) (fun z9 => z9 c_87)⟩, trivial⟩, hS.F hz8⟩) hS.2.2 dX0_may_108
        · refine lv_if_ne (tgt := 107) hx hb dX0_may_100 (by decide) (fun c9 => absurd (by decide) c9) (fun _ => ?_)
          refine lv_iconst (v := 1) hx hb dX0_may_103 (by decide) ?_
          refine lv_goto (tgt := 108) hx hb dX0_may_104 (by decide) ?_
          exact W.zret (v := 1) hx hb hr (by first | rfl | decide) (fun z8 hz8 hW8 => ⟨⟨1, (), rfl, Or.inl ⟨rfl, by unfold dk_may; refine ⟨c_1, c_7, ?_, ?_, ?_, ?_⟩ <;> intros <;> first | assumption | (exfalso; omega) | (left; assumption) | (right; assumption) | (right; exact dk_inl (by assumption)) | (exact Or.inr (dk_inl (by assumption)))⟩, trivial⟩, hS.F hz8⟩) hS.2.2 dX0_may_108
    · refine lv_iconst (v := 0) hx hb dX0_may_10 (by decide) ?_
      exact W.zret (v := 0) hx hb hr (by first | rfl | decide) (fun z8 hz8 hW8 => ⟨⟨0, (), rfl, Or.inr ⟨rfl, fun q9 => c_7 q9.2.1⟩, trivial⟩, hS.F hz8⟩) hS.2.2 dX0_may_11
set_option maxHeartbeats 4000000 in
set_option maxRecDepth 100000 in
/-- look -/
theorem cX_look (l : Launch) (dC : Nat → ClassId) (dI : Nat → Nat → Nat) (h0 qo qw qc qn qm ql : Nat) (d ll : Int32) (t : Nat) (ht9 : t < 1000) (x : Int32) : Met l yX0_look wsX0_look ({ frames := 3, cells := 0, slots := 0, locals := 54 }) (dk_Pr [.ref h0, .int x] (dC, dI) vwCl [] [(h0, .inr (0, [.int d, .int (nI t), .ref qo, .ref qw, .ref qc, .ref qn, .ref qm, .ref ql, .int ll]))]) (va_Qi (fun (r : Int32) (_ : Unit) => dk_look d t x r) (fun _ _ => True) dk_no) 0 0 dk_no := by
  refine Met.ofW (cc := cX0_look) (maxL := 2) (ret := (some .int)) (by decide) rfl ?_
  intro p e s m args below meth c s₁ B hml hv
  obtain ⟨rfl, hP, hK⟩ := hv
  have hx := B.exec
  have hb := B.bytes
  have hr := B.returns
  have hts := atoms_spec (ws := wsX0_look) B.pre
  have hown : s.vm.findClass RX0 = some m.cls := findClass_of_methodNamed B.named
  have hlocks := B.notSynchronized
  have hinX0 : ∀ w ∈ wsX00, w ∈ wsX0_look := by decide +kernel
  have hS : va_S dk_no s.heap s.heap [] := va_S.rf
  have hl := lv_entry ([.ref h0, .int x]) (n := 2) (Nat.le_of_ble_eq_true rfl)
  rw [lg_entry_eq]
  generalize (lg_sl ([.ref h0, .int x]) ++ List.replicate (2 - (lg_sl ([.ref h0, .int x])).length) Slot.unset).toArray = ls at hl ⊢
  have hl : lv_has ls 2 [(0, .ref h0), (1, .int x)] := hl
  refine lv_iload_n hx hb dX0_look_0 rfl (lv_at hl 1 rfl) ?_
  rcases dk_sw5 x with rfl | rfl | rfl | rfl | rfl | hsw
  · refine lv_tableIn (tgt := 36) (off := 35) hx hb dX0_look_1 (by decide) (by decide) (by decide) (by decide) ?_
    refine lv_aload_n hx hb dX0_look_36 rfl (lv_at hl 0 rfl) ?_
    refine va_get (D := (dC, dI)) (ci := 0) (v := .int d) (C := RX0) (T := TX0) (N := 9) hx hb hts hinX0 hown hK hP 0 rfl rfl 0 (by decide) (hts (.fieldLink RX0 7 "DayDesk" "day" "I") (by decide +kernel)) (fun _ h9 => h9) rfl dX0_look_37 ?_
    exact W.iret (v := d) hx hb hr (fun z8 hz8 hW8 => ⟨⟨d, (), rfl, Or.inl ⟨rfl, rfl⟩, trivial⟩, hS.F hz8⟩) hS.2.2 dX0_look_40
  · refine lv_tableIn (tgt := 41) (off := 40) hx hb dX0_look_1 (by decide) (by decide) (by decide) (by decide) ?_
    refine lv_aload_n hx hb dX0_look_41 rfl (lv_at hl 0 rfl) ?_
    refine va_get (D := (dC, dI)) (ci := 0) (v := .int (nI t)) (C := RX0) (T := TX0) (N := 9) hx hb hts hinX0 hown hK hP 0 rfl rfl 1 (by decide) (hts (.fieldLink RX0 13 "DayDesk" "tick" "I") (by decide +kernel)) (fun _ h9 => h9) rfl dX0_look_42 ?_
    exact W.iret (v := nI t) hx hb hr (fun z8 hz8 hW8 => ⟨⟨(nI t), (), rfl, Or.inr (Or.inl ⟨rfl, rfl⟩), trivial⟩, hS.F hz8⟩) hS.2.2 dX0_look_45
  · refine lv_tableIn (tgt := 46) (off := 45) hx hb dX0_look_1 (by decide) (by decide) (by decide) (by decide) ?_
    refine lv_aload_n hx hb dX0_look_46 rfl (lv_at hl 0 rfl) ?_
    have hPc := hP
    have hKc := hK
    refine va_calli (va_runV (As := []) (rest := []) ⟨hx, hb, hml, hown, hts⟩ (cX_phaseNow l dC dI h0 qo qw qc qn qm ql d ll t ht9) (cwV 0 hts gX0_look_X0_phaseNow rfl rfl rfl (by decide +kernel) ⟨Nat.le_of_ble_eq_true rfl, Nat.le_of_ble_eq_true rfl⟩) (dk_rV hPc hKc (ci := 0) (q0 := 0) rfl rfl) rfl rfl hl.1 rfl (lv_room (Nat.le_of_ble_eq_true rfl)) dX0_look_47 ⟨Nat.zero_le _, Nat.zero_le _⟩) hS (fun q _ h => False.elim h) (fun q h => False.elim h) (fun r_47 u8 t8 H1 locs ht8 hvm8 hw hB hz1 hk1 hS => ?_)
    try dsimp only at hw
    have hP := dk_kept hP hk1
    generalize H1 = H at hP hS ⊢
    rcases hw with ⟨rfl, h1⟩ | ⟨rfl, h1, h2⟩ | ⟨rfl, h1, h2⟩ | ⟨rfl, h1, h2⟩ | ⟨rfl, h1⟩
    · exact W.iret (v := 0) hx hb hr (fun z8 hz8 hW8 => ⟨⟨0, (), rfl, Or.inr (Or.inr (Or.inl ⟨rfl, by rw [show dk_ph t = 0 from by unfold dk_ph; (repeat' split) <;> omega]; rfl⟩)), trivial⟩, hS.F hz8⟩) hS.2.2 dX0_look_50
    · exact W.iret (v := 1) hx hb hr (fun z8 hz8 hW8 => ⟨⟨1, (), rfl, Or.inr (Or.inr (Or.inl ⟨rfl, by rw [show dk_ph t = 1 from by unfold dk_ph; (repeat' split) <;> omega]; rfl⟩)), trivial⟩, hS.F hz8⟩) hS.2.2 dX0_look_50
    · exact W.iret (v := 2) hx hb hr (fun z8 hz8 hW8 => ⟨⟨2, (), rfl, Or.inr (Or.inr (Or.inl ⟨rfl, by rw [show dk_ph t = 2 from by unfold dk_ph; (repeat' split) <;> omega]; rfl⟩)), trivial⟩, hS.F hz8⟩) hS.2.2 dX0_look_50
    · exact W.iret (v := 3) hx hb hr (fun z8 hz8 hW8 => ⟨⟨3, (), rfl, Or.inr (Or.inr (Or.inl ⟨rfl, by rw [show dk_ph t = 3 from by unfold dk_ph; (repeat' split) <;> omega]; rfl⟩)), trivial⟩, hS.F hz8⟩) hS.2.2 dX0_look_50
    · exact W.iret (v := 4) hx hb hr (fun z8 hz8 hW8 => ⟨⟨4, (), rfl, Or.inr (Or.inr (Or.inl ⟨rfl, by rw [show dk_ph t = 4 from by unfold dk_ph; (repeat' split) <;> omega]; rfl⟩)), trivial⟩, hS.F hz8⟩) hS.2.2 dX0_look_50
  · refine lv_tableIn (tgt := 51) (off := 50) hx hb dX0_look_1 (by decide) (by decide) (by decide) (by decide) ?_
    refine lv_aload_n hx hb dX0_look_51 rfl (lv_at hl 0 rfl) ?_
    have hPc := hP
    have hKc := hK
    refine va_calli (va_runV (As := []) (rest := []) ⟨hx, hb, hml, hown, hts⟩ (cX_nextResolving l dC dI h0 qo qw qc qn qm ql d ll t ht9) (cwV 0 hts gX0_look_X0_nextResolving rfl rfl rfl (by decide +kernel) ⟨Nat.le_of_ble_eq_true rfl, Nat.le_of_ble_eq_true rfl⟩) (dk_rV hPc hKc (ci := 0) (q0 := 0) rfl rfl) rfl rfl hl.1 rfl (lv_room (Nat.le_of_ble_eq_true rfl)) dX0_look_52 ⟨Nat.zero_le _, Nat.zero_le _⟩) hS (fun q _ h => False.elim h) (fun q h => False.elim h) (fun r_52 u8 t8 H1 locs ht8 hvm8 hw hB hz1 hk1 hS => ?_)
    try dsimp only at hw
    have hP := dk_kept hP hk1
    generalize H1 = H at hP hS ⊢
    subst hw
    have hlt := dk_nR_lt ht9
    refine lv_aload_n hx hb dX0_look_55 rfl (lv_at hl 0 rfl) ?_
    refine va_get (D := (dC, dI)) (ci := 0) (v := .int (nI t)) (C := RX0) (T := TX0) (N := 9) hx hb hts hinX0 hown hK hP 0 rfl rfl 1 (by decide) (hts (.fieldLink RX0 13 "DayDesk" "tick" "I") (by decide +kernel)) (fun _ h9 => h9) rfl dX0_look_56 ?_
    refine lv_isub hx hb dX0_look_59 ?_
    refine dk_asi (y := nI ((dk_nR t) - t)) (pk_sub (a := dk_nR t) (b := t) (by omega)) ?_
    exact W.iret (v := nI ((dk_nR t) - t)) hx hb hr (fun z8 hz8 hW8 => ⟨⟨(nI ((dk_nR t) - t)), (), rfl, Or.inr (Or.inr (Or.inr (Or.inl ⟨rfl, rfl⟩))), trivial⟩, hS.F hz8⟩) hS.2.2 dX0_look_60
  · refine lv_tableIn (tgt := 61) (off := 60) hx hb dX0_look_1 (by decide) (by decide) (by decide) (by decide) ?_
    refine lv_aload_n hx hb dX0_look_61 rfl (lv_at hl 0 rfl) ?_
    have hPc := hP
    have hKc := hK
    refine va_calli (va_runV (As := []) (rest := []) ⟨hx, hb, hml, hown, hts⟩ (cX_nextPhaseBegins l dC dI h0 qo qw qc qn qm ql d ll t ht9) (cwV 0 hts gX0_look_X0_nextPhaseBegins rfl rfl rfl (by decide +kernel) ⟨Nat.le_of_ble_eq_true rfl, Nat.le_of_ble_eq_true rfl⟩) (dk_rV hPc hKc (ci := 0) (q0 := 0) rfl rfl) rfl rfl hl.1 rfl (lv_room (Nat.le_of_ble_eq_true rfl)) dX0_look_62 ⟨Nat.zero_le _, Nat.zero_le _⟩) hS (fun q _ h => False.elim h) (fun q h => False.elim h) (fun r_62 u8 t8 H1 locs ht8 hvm8 hw hB hz1 hk1 hS => ?_)
    try dsimp only at hw
    have hP := dk_kept hP hk1
    generalize H1 = H at hP hS ⊢
    subst hw
    have hlt := dk_nP_lt ht9
    refine lv_aload_n hx hb dX0_look_65 rfl (lv_at hl 0 rfl) ?_
    refine va_get (D := (dC, dI)) (ci := 0) (v := .int (nI t)) (C := RX0) (T := TX0) (N := 9) hx hb hts hinX0 hown hK hP 0 rfl rfl 1 (by decide) (hts (.fieldLink RX0 13 "DayDesk" "tick" "I") (by decide +kernel)) (fun _ h9 => h9) rfl dX0_look_66 ?_
    refine lv_isub hx hb dX0_look_69 ?_
    refine dk_asi (y := nI ((dk_nP t) - t)) (pk_sub (a := dk_nP t) (b := t) (by omega)) ?_
    exact W.iret (v := nI ((dk_nP t) - t)) hx hb hr (fun z8 hz8 hW8 => ⟨⟨(nI ((dk_nP t) - t)), (), rfl, Or.inr (Or.inr (Or.inr (Or.inr (Or.inl ⟨rfl, rfl⟩)))), trivial⟩, hS.F hz8⟩) hS.2.2 dX0_look_70
  · refine lv_tableOut (tgt := 71) hx hb dX0_look_1 hsw (by decide) ?_
    refine lv_iconst (v := (-1)) hx hb dX0_look_71 (by decide) ?_
    exact W.iret (v := (-1)) hx hb hr (fun z8 hz8 hW8 => ⟨⟨(-1), (), rfl, Or.inr (Or.inr (Or.inr (Or.inr (Or.inr (⟨hsw, rfl⟩))))), trivial⟩, hS.F hz8⟩) hS.2.2 dX0_look_72
