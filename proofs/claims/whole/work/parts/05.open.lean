set_option maxHeartbeats 4000000 in
set_option maxRecDepth 100000 in
/-- openStatements: each opening is what there is now, went, came, moved are 0 -/
theorem cX_open (l : Launch) (dC : Nat → ClassId) (dI : Nat → Nat → Nat) (sz : Nat) (h0 qo qw qc qn qm ql : Nat) (k1 k2 k3 k4 k5 : ClassId) (d ll : Int32) (tk : Int32) (fo fw fc fn fm : Nat → Int64) : Met l yX0_openStatements wsX0_openStatements ({ frames := 0, cells := 0, slots := 0, locals := 0 }) (dk_Pw [.ref h0] (dC, dI) vwCl [(k1, .long), (k2, .long), (k3, .long), (k4, .long), (k5, .long)] [(h0, .inr (0, [.int d, .int tk, .ref qo, .ref qw, .ref qc, .ref qn, .ref qm, .ref ql, .int ll])), (qo, .inl (k1, 200, .inr (.inl fo))), (qw, .inl (k2, 200, .inr (.inl fw))), (qc, .inl (k3, 200, .inr (.inl fc))), (qn, .inl (k4, 200, .inr (.inl fn))), (qm, .inl (k5, 200, .inr (.inl fm)))] sz) (va_Qv (fun (u : (Nat → Int64) × (Nat → Int64) × (Nat → Int64) × (Nat → Int64)) => match u with | (go, gw, gc, gm) => ∀ j : Nat, j < 200 → go j = fn j ∧ gw j = 0 ∧ gc j = 0 ∧ gm j = 0) (fun (u : (Nat → Int64) × (Nat → Int64) × (Nat → Int64) × (Nat → Int64)) z8 => match u with | (go, gw, gc, gm) => dk_B (dC, dI) vwCl (va_A [(h0, .inr (0, [.int d, .int tk, .ref qo, .ref qw, .ref qc, .ref qn, .ref qm, .ref ql, .int ll])), (qo, .inl (k1, 200, .inr (.inl fo))), (qw, .inl (k2, 200, .inr (.inl fw))), (qc, .inl (k3, 200, .inr (.inl fc))), (qn, .inl (k4, 200, .inr (.inl fn))), (qm, .inl (k5, 200, .inr (.inl fm)))] sz) [(h0, .inr (0, [.int d, .int tk, .ref qo, .ref qw, .ref qc, .ref qn, .ref qm, .ref ql, .int ll])), (qo, .inl (k1, 200, .inr (.inl go))), (qw, .inl (k2, 200, .inr (.inl gw))), (qc, .inl (k3, 200, .inr (.inl gc))), (qn, .inl (k4, 200, .inr (.inl fn))), (qm, .inl (k5, 200, .inr (.inl gm)))] z8) (va_A [(h0, .inr (0, [.int d, .int tk, .ref qo, .ref qw, .ref qc, .ref qn, .ref qm, .ref ql, .int ll])), (qo, .inl (k1, 200, .inr (.inl fo))), (qw, .inl (k2, 200, .inr (.inl fw))), (qc, .inl (k3, 200, .inr (.inl fc))), (qn, .inl (k4, 200, .inr (.inl fn))), (qm, .inl (k5, 200, .inr (.inl fm)))] sz)) 0 0 (va_A [(h0, .inr (0, [.int d, .int tk, .ref qo, .ref qw, .ref qc, .ref qn, .ref qm, .ref ql, .int ll])), (qo, .inl (k1, 200, .inr (.inl fo))), (qw, .inl (k2, 200, .inr (.inl fw))), (qc, .inl (k3, 200, .inr (.inl fc))), (qn, .inl (k4, 200, .inr (.inl fn))), (qm, .inl (k5, 200, .inr (.inl fm)))] sz) := by
  refine Met.ofW (cc := cX0_openStatements) (maxL := 2) (ret := none) (by decide) rfl ?_
  intro p e s m args below meth c s₁ B hml hv
  obtain ⟨rfl, hsz, hP, hK, hD0⟩ := hv
  have hx := B.exec
  have hb := B.bytes
  have hr := B.returns
  have hts := atoms_spec (ws := wsX0_openStatements) B.pre
  have hown : s.vm.findClass RX0 = some m.cls := findClass_of_methodNamed B.named
  have hlocks := B.notSynchronized
  have hinX0 : ∀ w ∈ wsX00, w ∈ wsX0_openStatements := by decide +kernel
  subst hsz
  have hD := hD0.self (sz := s.heap.size)
  generalize hAe : va_A [(h0, .inr (0, [.int d, .int tk, .ref qo, .ref qw, .ref qc, .ref qn, .ref qm, .ref ql, .int ll])), (qo, .inl (k1, 200, .inr (.inl fo))), (qw, .inl (k2, 200, .inr (.inl fw))), (qc, .inl (k3, 200, .inr (.inl fc))), (qn, .inl (k4, 200, .inr (.inl fn))), (qm, .inl (k5, 200, .inr (.inl fm)))] s.heap.size = A at hD ⊢
  have hA : ∀ q : Nat, s.heap.size ≤ q → A q := fun q h => by rw [← hAe]; exact Or.inr h
  have hS : va_S A s.heap s.heap [] := va_S.rf
  have hl := lv_entry ([.ref h0]) (n := 2) (Nat.le_of_ble_eq_true rfl)
  rw [lg_entry_eq]
  generalize (lg_sl ([.ref h0]) ++ List.replicate (2 - (lg_sl ([.ref h0])).length) Slot.unset).toArray = ls at hl ⊢
  have hl : lv_has ls 2 [(0, .ref h0)] := hl
  refine lv_iconst (v := nI 0) hx hb dX0_openStatements_0 (by decide) ?_
  refine lv_istore_n (lv' := [(1, .int (nI 0)), (0, .ref h0)]) hx hb dX0_openStatements_1 rfl hl (by decide) rfl (fun ls hl => ?_)
  have loop : ∀ (k i : Nat) (go gw gc gm : Nat → Int64), i ≤ 200 → 201 ≤ i + k → (∀ j : Nat, j < i → go j = fn j ∧ gw j = 0 ∧ gc j = 0 ∧ gm j = 0) → ∀ (H : Heap) (locs : List Loc), va_P (dC, dI) vwCl [(h0, .inr (0, [.int d, .int tk, .ref qo, .ref qw, .ref qc, .ref qn, .ref qm, .ref ql, .int ll])), (qo, .inl (k1, 200, .inr (.inl go))), (qw, .inl (k2, 200, .inr (.inl gw))), (qc, .inl (k3, 200, .inr (.inl gc))), (qn, .inl (k4, 200, .inr (.inl fn))), (qm, .inl (k5, 200, .inr (.inl gm)))] H → va_D A [(h0, .inr (0, [.int d, .int tk, .ref qo, .ref qw, .ref qc, .ref qn, .ref qm, .ref ql, .int ll])), (qo, .inl (k1, 200, .inr (.inl go))), (qw, .inl (k2, 200, .inr (.inl gw))), (qc, .inl (k3, 200, .inr (.inl gc))), (qn, .inl (k4, 200, .inr (.inl fn))), (qm, .inl (k5, 200, .inr (.inl gm)))] → va_S A s.heap H locs → ∀ ls : Array Slot, lv_has ls 2 [(1, .int (nI i)), (0, .ref h0)] → W p l e (headSpec wsX0_openStatements ({ frames := 0, cells := 0, slots := 0, locals := 0 })).room s m ([.ref h0] : List Value).toArray below meth c H locs 0 0 (MQ below (va_Qv (fun (u : (Nat → Int64) × (Nat → Int64) × (Nat → Int64) × (Nat → Int64)) => match u with | (go, gw, gc, gm) => ∀ j : Nat, j < 200 → go j = fn j ∧ gw j = 0 ∧ gc j = 0 ∧ gm j = 0) (fun (u : (Nat → Int64) × (Nat → Int64) × (Nat → Int64) × (Nat → Int64)) z8 => match u with | (go, gw, gc, gm) => dk_B (dC, dI) vwCl A [(h0, .inr (0, [.int d, .int tk, .ref qo, .ref qw, .ref qc, .ref qn, .ref qm, .ref ql, .int ll])), (qo, .inl (k1, 200, .inr (.inl go))), (qw, .inl (k2, 200, .inr (.inl gw))), (qc, .inl (k3, 200, .inr (.inl gc))), (qn, .inl (k4, 200, .inr (.inl fn))), (qm, .inl (k5, 200, .inr (.inl gm)))] z8) A) ([.ref h0] : List Value).toArray s 0 0 A) (F0 m 2 ls []) := by
    intro k
    induction k with
    | zero => intro i go gw gc gm h1 h2; exact absurd h2 (by omega)
    | succ k ih =>
      intro i go gw gc gm hi hk hdone H locs hP hD hS ls hl
      refine lv_iload_n hx hb dX0_openStatements_2 rfl (lv_at hl 0 rfl) ?_
      refine lv_sipush (v := nI 200) hx hb dX0_openStatements_3 (by decide) ?_
      refine dk_icmp_ge (x := i) (y := 200) (tgt := 48) hx hb dX0_openStatements_6 (by decide) (by omega) (by omega) (fun c_6 => ?_) (fun c_6 => ?_)
      · exact W.vret hx hb hr (fun z8 hz8 hW8 => ⟨⟨(go, gw, gc, gm), rfl, fun j hj => hdone j (by omega), by rw [hz8]; exact hP, hD⟩, hS.F hz8⟩) hS.2.2 dX0_openStatements_48
      · refine lv_aload_n hx hb dX0_openStatements_9 rfl (lv_at hl 1 rfl) ?_
        refine va_get (D := (dC, dI)) (ci := 0) (v := .ref qo) (C := RX0) (T := TX0) (N := 9) hx hb hts hinX0 hown hK hP 0 rfl rfl 2 (by decide) (hts (.fieldLink RX0 16 "DayDesk" "opening" "[J") (by decide +kernel)) (fun _ h9 => h9) rfl dX0_openStatements_10 ?_
        refine lv_iload_n hx hb dX0_openStatements_13 rfl (lv_at hl 0 rfl) ?_
        refine lv_aload_n hx hb dX0_openStatements_14 rfl (lv_at hl 1 rfl) ?_
        refine va_get (D := (dC, dI)) (ci := 0) (v := .ref qn) (C := RX0) (T := TX0) (N := 9) hx hb hts hinX0 hown hK hP 0 rfl rfl 5 (by decide) (hts (.fieldLink RX0 26 "DayDesk" "now" "[J") (by decide +kernel)) (fun _ h9 => h9) rfl dX0_openStatements_15 ?_
        refine lv_iload_n hx hb dX0_openStatements_18 rfl (lv_at hl 0 rfl) ?_
        refine dk_lald hx hb hK hP 4 3 rfl rfl (j := i) (by omega) (by omega) dX0_openStatements_19 ?_
        refine dk_last hx hb hK hP hD hS 1 0 rfl rfl (j := i) (by omega) (by omega) dX0_openStatements_20 (fun H locs hP hD hS => ?_)
        have hP : va_P (dC, dI) vwCl [(h0, .inr (0, [.int d, .int tk, .ref qo, .ref qw, .ref qc, .ref qn, .ref qm, .ref ql, .int ll])), (qo, .inl (k1, 200, .inr (.inl (vp_updL go i (fn i))))), (qw, .inl (k2, 200, .inr (.inl gw))), (qc, .inl (k3, 200, .inr (.inl gc))), (qn, .inl (k4, 200, .inr (.inl fn))), (qm, .inl (k5, 200, .inr (.inl gm)))] H := hP
        have hD : va_D A [(h0, .inr (0, [.int d, .int tk, .ref qo, .ref qw, .ref qc, .ref qn, .ref qm, .ref ql, .int ll])), (qo, .inl (k1, 200, .inr (.inl (vp_updL go i (fn i))))), (qw, .inl (k2, 200, .inr (.inl gw))), (qc, .inl (k3, 200, .inr (.inl gc))), (qn, .inl (k4, 200, .inr (.inl fn))), (qm, .inl (k5, 200, .inr (.inl gm)))] := hD
        refine lv_aload_n hx hb dX0_openStatements_21 rfl (lv_at hl 1 rfl) ?_
        refine va_get (D := (dC, dI)) (ci := 0) (v := .ref qw) (C := RX0) (T := TX0) (N := 9) hx hb hts hinX0 hown hK hP 0 rfl rfl 3 (by decide) (hts (.fieldLink RX0 20 "DayDesk" "went" "[J") (by decide +kernel)) (fun _ h9 => h9) rfl dX0_openStatements_22 ?_
        refine lv_iload_n hx hb dX0_openStatements_25 rfl (lv_at hl 0 rfl) ?_
        refine lv_lconst (v := 0) hx hb dX0_openStatements_26 (by decide) ?_
        refine dk_last hx hb hK hP hD hS 2 1 rfl rfl (j := i) (by omega) (by omega) dX0_openStatements_27 (fun H locs hP hD hS => ?_)
        have hP : va_P (dC, dI) vwCl [(h0, .inr (0, [.int d, .int tk, .ref qo, .ref qw, .ref qc, .ref qn, .ref qm, .ref ql, .int ll])), (qo, .inl (k1, 200, .inr (.inl (vp_updL go i (fn i))))), (qw, .inl (k2, 200, .inr (.inl (vp_updL gw i 0)))), (qc, .inl (k3, 200, .inr (.inl gc))), (qn, .inl (k4, 200, .inr (.inl fn))), (qm, .inl (k5, 200, .inr (.inl gm)))] H := hP
        have hD : va_D A [(h0, .inr (0, [.int d, .int tk, .ref qo, .ref qw, .ref qc, .ref qn, .ref qm, .ref ql, .int ll])), (qo, .inl (k1, 200, .inr (.inl (vp_updL go i (fn i))))), (qw, .inl (k2, 200, .inr (.inl (vp_updL gw i 0)))), (qc, .inl (k3, 200, .inr (.inl gc))), (qn, .inl (k4, 200, .inr (.inl fn))), (qm, .inl (k5, 200, .inr (.inl gm)))] := hD
        refine lv_aload_n hx hb dX0_openStatements_28 rfl (lv_at hl 1 rfl) ?_
        refine va_get (D := (dC, dI)) (ci := 0) (v := .ref qc) (C := RX0) (T := TX0) (N := 9) hx hb hts hinX0 hown hK hP 0 rfl rfl 4 (by decide) (hts (.fieldLink RX0 23 "DayDesk" "came" "[J") (by decide +kernel)) (fun _ h9 => h9) rfl dX0_openStatements_29 ?_
        refine lv_iload_n hx hb dX0_openStatements_32 rfl (lv_at hl 0 rfl) ?_
        refine lv_lconst (v := 0) hx hb dX0_openStatements_33 (by decide) ?_
        refine dk_last hx hb hK hP hD hS 3 2 rfl rfl (j := i) (by omega) (by omega) dX0_openStatements_34 (fun H locs hP hD hS => ?_)
        have hP : va_P (dC, dI) vwCl [(h0, .inr (0, [.int d, .int tk, .ref qo, .ref qw, .ref qc, .ref qn, .ref qm, .ref ql, .int ll])), (qo, .inl (k1, 200, .inr (.inl (vp_updL go i (fn i))))), (qw, .inl (k2, 200, .inr (.inl (vp_updL gw i 0)))), (qc, .inl (k3, 200, .inr (.inl (vp_updL gc i 0)))), (qn, .inl (k4, 200, .inr (.inl fn))), (qm, .inl (k5, 200, .inr (.inl gm)))] H := hP
        have hD : va_D A [(h0, .inr (0, [.int d, .int tk, .ref qo, .ref qw, .ref qc, .ref qn, .ref qm, .ref ql, .int ll])), (qo, .inl (k1, 200, .inr (.inl (vp_updL go i (fn i))))), (qw, .inl (k2, 200, .inr (.inl (vp_updL gw i 0)))), (qc, .inl (k3, 200, .inr (.inl (vp_updL gc i 0)))), (qn, .inl (k4, 200, .inr (.inl fn))), (qm, .inl (k5, 200, .inr (.inl gm)))] := hD
        refine lv_aload_n hx hb dX0_openStatements_35 rfl (lv_at hl 1 rfl) ?_
        refine va_get (D := (dC, dI)) (ci := 0) (v := .ref qm) (C := RX0) (T := TX0) (N := 9) hx hb hts hinX0 hown hK hP 0 rfl rfl 6 (by decide) (hts (.fieldLink RX0 29 "DayDesk" "moved" "[J") (by decide +kernel)) (fun _ h9 => h9) rfl dX0_openStatements_36 ?_
        refine lv_iload_n hx hb dX0_openStatements_39 rfl (lv_at hl 0 rfl) ?_
        refine lv_lconst (v := 0) hx hb dX0_openStatements_40 (by decide) ?_
        refine dk_last hx hb hK hP hD hS 5 4 rfl rfl (j := i) (by omega) (by omega) dX0_openStatements_41 (fun H locs hP hD hS => ?_)
        have hP : va_P (dC, dI) vwCl [(h0, .inr (0, [.int d, .int tk, .ref qo, .ref qw, .ref qc, .ref qn, .ref qm, .ref ql, .int ll])), (qo, .inl (k1, 200, .inr (.inl (vp_updL go i (fn i))))), (qw, .inl (k2, 200, .inr (.inl (vp_updL gw i 0)))), (qc, .inl (k3, 200, .inr (.inl (vp_updL gc i 0)))), (qn, .inl (k4, 200, .inr (.inl fn))), (qm, .inl (k5, 200, .inr (.inl (vp_updL gm i 0))))] H := hP
        have hD : va_D A [(h0, .inr (0, [.int d, .int tk, .ref qo, .ref qw, .ref qc, .ref qn, .ref qm, .ref ql, .int ll])), (qo, .inl (k1, 200, .inr (.inl (vp_updL go i (fn i))))), (qw, .inl (k2, 200, .inr (.inl (vp_updL gw i 0)))), (qc, .inl (k3, 200, .inr (.inl (vp_updL gc i 0)))), (qn, .inl (k4, 200, .inr (.inl fn))), (qm, .inl (k5, 200, .inr (.inl (vp_updL gm i 0))))] := hD
        refine lv_iinc (v := nI (i + 1)) (lv' := [(1, .int (nI (i + 1))), (0, .ref h0)]) hx hb dX0_openStatements_42 hl (k := 0) rfl (by rw [show Int32.ofInt 1 = nI 1 from by decide]; exact nI_add i 1) (by decide) rfl (fun ls hl => ?_)
        refine lv_goto (tgt := 2) hx hb dX0_openStatements_45 (by decide) ?_
        exact ih (i + 1) _ _ _ _ (by omega) (by omega) (fun j hj => by
          by_cases hji : j = i
          · subst hji; exact ⟨pk_uLs, pk_uLs, pk_uLs, pk_uLs⟩
          · have hq := hdone j (by omega)
            exact ⟨by rw [pk_uLn hji]; exact hq.1, by rw [pk_uLn hji]; exact hq.2.1, by rw [pk_uLn hji]; exact hq.2.2.1, by rw [pk_uLn hji]; exact hq.2.2.2⟩) _ _ hP hD hS ls (lv_sub hl [0, 1] rfl)
  exact loop 201 0 fo fw fc fm (by omega) (by omega) (fun j hj => absurd hj (Nat.not_lt_zero _)) _ _ hP hD hS ls (lv_sub hl [0, 1] rfl)
set_option maxHeartbeats 4000000 in
set_option maxRecDepth 100000 in
/-- advance: ticks pass -/
theorem cX_advance (l : Launch) (dC : Nat → ClassId) (dI : Nat → Nat → Nat) (sz : Nat) (h0 qo qw qc qn qm ql : Nat) (k1 k2 k3 k4 k5 : ClassId) (d ll : Int32) (t : Nat) (ht9 : t < 1000) (fo fw fc fn fm : Nat → Int64) (n : Nat) (hn9 : n ≤ 100000) : Met l yX0_advance wsX0_advance ({ frames := 1, cells := 0, slots := 0, locals := 21 }) (dk_Pw [.ref h0, .int (nI n)] (dC, dI) vwCl [(k1, .long), (k2, .long), (k3, .long), (k4, .long), (k5, .long)] [(h0, .inr (0, [.int d, .int (nI t), .ref qo, .ref qw, .ref qc, .ref qn, .ref qm, .ref ql, .int ll])), (qo, .inl (k1, 200, .inr (.inl fo))), (qw, .inl (k2, 200, .inr (.inl fw))), (qc, .inl (k3, 200, .inr (.inl fc))), (qn, .inl (k4, 200, .inr (.inl fn))), (qm, .inl (k5, 200, .inr (.inl fm)))] sz) (va_Qi (fun (r : Int32) (u : (Nat → Int64) × (Nat → Int64) × (Nat → Int64) × (Nat → Int64)) => match u with | (go, gw, gc, gm) => r = nI ((t + n) / 1000) ∧ dk_Op ((t + n) / 1000) fo fw fc fn fm go gw gc gm) (fun (u : (Nat → Int64) × (Nat → Int64) × (Nat → Int64) × (Nat → Int64)) z8 => match u with | (go, gw, gc, gm) => dk_B (dC, dI) vwCl (va_A [(h0, .inr (0, [.int d, .int (nI t), .ref qo, .ref qw, .ref qc, .ref qn, .ref qm, .ref ql, .int ll])), (qo, .inl (k1, 200, .inr (.inl fo))), (qw, .inl (k2, 200, .inr (.inl fw))), (qc, .inl (k3, 200, .inr (.inl fc))), (qn, .inl (k4, 200, .inr (.inl fn))), (qm, .inl (k5, 200, .inr (.inl fm)))] sz) [(h0, .inr (0, [.int (d + nI ((t + n) / 1000)), .int (nI ((t + n) % 1000)), .ref qo, .ref qw, .ref qc, .ref qn, .ref qm, .ref ql, .int ll])), (qo, .inl (k1, 200, .inr (.inl go))), (qw, .inl (k2, 200, .inr (.inl gw))), (qc, .inl (k3, 200, .inr (.inl gc))), (qn, .inl (k4, 200, .inr (.inl fn))), (qm, .inl (k5, 200, .inr (.inl gm)))] z8) (va_A [(h0, .inr (0, [.int d, .int (nI t), .ref qo, .ref qw, .ref qc, .ref qn, .ref qm, .ref ql, .int ll])), (qo, .inl (k1, 200, .inr (.inl fo))), (qw, .inl (k2, 200, .inr (.inl fw))), (qc, .inl (k3, 200, .inr (.inl fc))), (qn, .inl (k4, 200, .inr (.inl fn))), (qm, .inl (k5, 200, .inr (.inl fm)))] sz)) 0 0 (va_A [(h0, .inr (0, [.int d, .int (nI t), .ref qo, .ref qw, .ref qc, .ref qn, .ref qm, .ref ql, .int ll])), (qo, .inl (k1, 200, .inr (.inl fo))), (qw, .inl (k2, 200, .inr (.inl fw))), (qc, .inl (k3, 200, .inr (.inl fc))), (qn, .inl (k4, 200, .inr (.inl fn))), (qm, .inl (k5, 200, .inr (.inl fm)))] sz) := by
  refine Met.ofW (cc := cX0_advance) (maxL := 4) (ret := (some .int)) (by decide) rfl ?_
  intro p e s m args below meth c s₁ B hml hv
  obtain ⟨rfl, hsz, hP, hK, hD0⟩ := hv
  have hx := B.exec
  have hb := B.bytes
  have hr := B.returns
  have hts := atoms_spec (ws := wsX0_advance) B.pre
  have hown : s.vm.findClass RX0 = some m.cls := findClass_of_methodNamed B.named
  have hlocks := B.notSynchronized
  have hinX0 : ∀ w ∈ wsX00, w ∈ wsX0_advance := by decide +kernel
  subst hsz
  have hD := hD0.self (sz := s.heap.size)
  generalize hAe : va_A [(h0, .inr (0, [.int d, .int (nI t), .ref qo, .ref qw, .ref qc, .ref qn, .ref qm, .ref ql, .int ll])), (qo, .inl (k1, 200, .inr (.inl fo))), (qw, .inl (k2, 200, .inr (.inl fw))), (qc, .inl (k3, 200, .inr (.inl fc))), (qn, .inl (k4, 200, .inr (.inl fn))), (qm, .inl (k5, 200, .inr (.inl fm)))] s.heap.size = A at hD ⊢
  have hA : ∀ q : Nat, s.heap.size ≤ q → A q := fun q h => by rw [← hAe]; exact Or.inr h
  have hS : va_S A s.heap s.heap [] := va_S.rf
  have hl := lv_entry ([.ref h0, .int (nI n)]) (n := 4) (Nat.le_of_ble_eq_true rfl)
  rw [lg_entry_eq]
  generalize (lg_sl ([.ref h0, .int (nI n)]) ++ List.replicate (4 - (lg_sl ([.ref h0, .int (nI n)])).length) Slot.unset).toArray = ls at hl ⊢
  have hl : lv_has ls 4 [(0, .ref h0), (1, .int (nI n))] := hl
  refine lv_aload_n hx hb dX0_advance_0 rfl (lv_at hl 0 rfl) ?_
  refine va_get (D := (dC, dI)) (ci := 0) (v := .int (nI t)) (C := RX0) (T := TX0) (N := 9) hx hb hts hinX0 hown hK hP 0 rfl rfl 1 (by decide) (hts (.fieldLink RX0 13 "DayDesk" "tick" "I") (by decide +kernel)) (fun _ h9 => h9) rfl dX0_advance_1 ?_
  refine lv_iload_n hx hb dX0_advance_4 rfl (lv_at hl 1 rfl) ?_
  refine lv_iadd hx hb dX0_advance_5 ?_
  refine dk_asi (y := nI (t + n)) (nI_add t n) ?_
  refine lv_istore_n (lv' := [(2, .int (nI (t + n))), (0, .ref h0), (1, .int (nI n))]) hx hb dX0_advance_6 rfl hl (by decide) rfl (fun ls hl => ?_)
  refine lv_iload_n hx hb dX0_advance_7 rfl (lv_at hl 0 rfl) ?_
  refine lv_sipush (v := nI 1000) hx hb dX0_advance_8 (by decide) ?_
  refine lv_idiv hx hb dX0_advance_11 (by decide) ?_
  refine dk_asi (y := nI ((t + n) / 1000)) (pk_div (a := t + n) (d := 1000) (by omega) (by omega) (by omega)) ?_
  refine lv_istore_n (lv' := [(3, .int (nI ((t + n) / 1000))), (2, .int (nI (t + n))), (0, .ref h0), (1, .int (nI n))]) hx hb dX0_advance_12 rfl hl (by decide) rfl (fun ls hl => ?_)
  refine lv_aload_n hx hb dX0_advance_13 rfl (lv_at hl 2 rfl) ?_
  refine lv_iload_n hx hb dX0_advance_14 rfl (lv_at hl 1 rfl) ?_
  refine lv_sipush (v := nI 1000) hx hb dX0_advance_15 (by decide) ?_
  refine lv_irem hx hb dX0_advance_18 (by decide) ?_
  refine dk_asi (y := nI ((t + n) % 1000)) (pk_rem (a := t + n) (d := 1000) (by omega) (by omega) (by omega)) ?_
  refine va_put (D := (dC, dI)) (ci := 0) (v := .int (nI ((t + n) % 1000))) (ty := .int) (C := RX0) (T := TX0) (N := 9) hx hb hts hinX0 tyX0 tyX0_ok nmX0 hown hK hP hD hS 0 rfl rfl 1 (by decide) (hts (.fieldLink RX0 13 "DayDesk" "tick" "I") (by decide +kernel)) (fun _ h9 => h9) rfl (by decide +kernel) rfl rfl (Nat.le_of_ble_eq_true rfl) dX0_advance_19 (fun H locs hP hD hS => ?_)
  have hP : va_P (dC, dI) vwCl [(h0, .inr (0, [.int d, .int (nI ((t + n) % 1000)), .ref qo, .ref qw, .ref qc, .ref qn, .ref qm, .ref ql, .int ll])), (qo, .inl (k1, 200, .inr (.inl fo))), (qw, .inl (k2, 200, .inr (.inl fw))), (qc, .inl (k3, 200, .inr (.inl fc))), (qn, .inl (k4, 200, .inr (.inl fn))), (qm, .inl (k5, 200, .inr (.inl fm)))] H := hP
  have hD : va_D A [(h0, .inr (0, [.int d, .int (nI ((t + n) % 1000)), .ref qo, .ref qw, .ref qc, .ref qn, .ref qm, .ref ql, .int ll])), (qo, .inl (k1, 200, .inr (.inl fo))), (qw, .inl (k2, 200, .inr (.inl fw))), (qc, .inl (k3, 200, .inr (.inl fc))), (qn, .inl (k4, 200, .inr (.inl fn))), (qm, .inl (k5, 200, .inr (.inl fm)))] := hD
  refine lv_aload_n hx hb dX0_advance_22 rfl (lv_at hl 2 rfl) ?_
  refine lv_dup hx hb dX0_advance_23 rfl ?_
  refine va_get (D := (dC, dI)) (ci := 0) (v := .int d) (C := RX0) (T := TX0) (N := 9) hx hb hts hinX0 hown hK hP 0 rfl rfl 0 (by decide) (hts (.fieldLink RX0 7 "DayDesk" "day" "I") (by decide +kernel)) (fun _ h9 => h9) rfl dX0_advance_24 ?_
  refine lv_iload_n hx hb dX0_advance_27 rfl (lv_at hl 0 rfl) ?_
  refine lv_iadd hx hb dX0_advance_28 ?_
  refine va_put (D := (dC, dI)) (ci := 0) (v := .int (d + (nI ((t + n) / 1000)))) (ty := .int) (C := RX0) (T := TX0) (N := 9) hx hb hts hinX0 tyX0 tyX0_ok nmX0 hown hK hP hD hS 0 rfl rfl 0 (by decide) (hts (.fieldLink RX0 7 "DayDesk" "day" "I") (by decide +kernel)) (fun _ h9 => h9) rfl (by decide +kernel) rfl rfl (Nat.le_of_ble_eq_true rfl) dX0_advance_29 (fun H locs hP hD hS => ?_)
  have hP : va_P (dC, dI) vwCl [(h0, .inr (0, [.int (d + (nI ((t + n) / 1000))), .int (nI ((t + n) % 1000)), .ref qo, .ref qw, .ref qc, .ref qn, .ref qm, .ref ql, .int ll])), (qo, .inl (k1, 200, .inr (.inl fo))), (qw, .inl (k2, 200, .inr (.inl fw))), (qc, .inl (k3, 200, .inr (.inl fc))), (qn, .inl (k4, 200, .inr (.inl fn))), (qm, .inl (k5, 200, .inr (.inl fm)))] H := hP
  have hD : va_D A [(h0, .inr (0, [.int (d + (nI ((t + n) / 1000))), .int (nI ((t + n) % 1000)), .ref qo, .ref qw, .ref qc, .ref qn, .ref qm, .ref ql, .int ll])), (qo, .inl (k1, 200, .inr (.inl fo))), (qw, .inl (k2, 200, .inr (.inl fw))), (qc, .inl (k3, 200, .inr (.inl fc))), (qn, .inl (k4, 200, .inr (.inl fn))), (qm, .inl (k5, 200, .inr (.inl fm)))] := hD
  refine lv_iload_n hx hb dX0_advance_32 rfl (lv_at hl 0 rfl) ?_
  refine dk_if_le (x := (t + n) / 1000) (tgt := 40) hx hb dX0_advance_33 (by decide) (by omega) (fun c_33 => ?_) (fun c_33 => ?_)
  · refine lv_iload_n hx hb dX0_advance_40 rfl (lv_at hl 0 rfl) ?_
    exact W.iret (v := nI ((t + n) / 1000)) hx hb hr (fun z8 hz8 hW8 => ⟨⟨(nI ((t + n) / 1000)), (fo, fw, fc, fm), rfl, ⟨rfl, Or.inl ⟨by omega, rfl, rfl, rfl, rfl⟩⟩, by rw [hz8]; exact hP, hD⟩, hS.F hz8⟩) hS.2.2 dX0_advance_41
  · refine lv_aload_n hx hb dX0_advance_36 rfl (lv_at hl 2 rfl) ?_
    have hPc := hP
    have hDc := hD
    have hFc := va_free (wc := [(h0, .inr (0, [.int (d + (nI ((t + n) / 1000))), .int (nI ((t + n) % 1000)), .ref qo, .ref qw, .ref qc, .ref qn, .ref qm, .ref ql, .int ll])), (qo, .inl (k1, 200, .inr (.inl fo))), (qw, .inl (k2, 200, .inr (.inl fw))), (qc, .inl (k3, 200, .inr (.inl fc))), (qn, .inl (k4, 200, .inr (.inl fn))), (qm, .inl (k5, 200, .inr (.inl fm)))]) hD hS hA [0, 1, 2, 3, 4, 5] rfl
    have hKc := hK
    refine va_callv (va_runV (As := []) (rest := []) ⟨hx, hb, hml, hown, hts⟩ (cX_open l dC dI _ h0 qo qw qc qn qm ql k1 k2 k3 k4 k5 (d + nI ((t + n) / 1000)) ll (nI ((t + n) % 1000)) fo fw fc fn fm) (cwV 0 hts gX0_advance_X0_openStatements rfl rfl rfl (by decide +kernel) ⟨Nat.le_of_ble_eq_true rfl, Nat.le_of_ble_eq_true rfl⟩) (dk_wV hPc hKc hDc (ci := 0) (q0 := 0) rfl rfl) rfl rfl hl.1 rfl (lv_room (Nat.le_of_ble_eq_true rfl)) dX0_advance_37 ⟨Nat.zero_le _, Nat.zero_le _⟩) hS (fun q _ h => hFc q h) hFc (fun u8 t8 H1 locs ht8 hvm8 hw hB hz1 hk1 hS => ?_)
    try dsimp only at hw
    obtain ⟨go, gw, gc, gm⟩ := u8
    try dsimp only at hw hB
    obtain ⟨hP1, hD1⟩ := hB
    rw [ht8] at hP1
    obtain ⟨hP, hD⟩ := va_join (wr := []) (w1 := [(h0, .inr (0, [.int (d + (nI ((t + n) / 1000))), .int (nI ((t + n) % 1000)), .ref qo, .ref qw, .ref qc, .ref qn, .ref qm, .ref ql, .int ll])), (qo, .inl (k1, 200, .inr (.inl go))), (qw, .inl (k2, 200, .inr (.inl gw))), (qc, .inl (k3, 200, .inr (.inl gc))), (qn, .inl (k4, 200, .inr (.inl fn))), (qm, .inl (k5, 200, .inr (.inl gm)))]) hP hD [0, 1, 2, 3, 4, 5] [] rfl rfl (by decide) (by decide) hk1 hFc hP1 hD1
    generalize H1 = H at hP hS ⊢
    have hP : va_P (dC, dI) vwCl [(h0, .inr (0, [.int (d + (nI ((t + n) / 1000))), .int (nI ((t + n) % 1000)), .ref qo, .ref qw, .ref qc, .ref qn, .ref qm, .ref ql, .int ll])), (qo, .inl (k1, 200, .inr (.inl go))), (qw, .inl (k2, 200, .inr (.inl gw))), (qc, .inl (k3, 200, .inr (.inl gc))), (qn, .inl (k4, 200, .inr (.inl fn))), (qm, .inl (k5, 200, .inr (.inl gm)))] H := hP
    have hD : va_D A [(h0, .inr (0, [.int (d + (nI ((t + n) / 1000))), .int (nI ((t + n) % 1000)), .ref qo, .ref qw, .ref qc, .ref qn, .ref qm, .ref ql, .int ll])), (qo, .inl (k1, 200, .inr (.inl go))), (qw, .inl (k2, 200, .inr (.inl gw))), (qc, .inl (k3, 200, .inr (.inl gc))), (qn, .inl (k4, 200, .inr (.inl fn))), (qm, .inl (k5, 200, .inr (.inl gm)))] := hD
    refine lv_iload_n hx hb dX0_advance_40 rfl (lv_at hl 0 rfl) ?_
    exact W.iret (v := nI ((t + n) / 1000)) hx hb hr (fun z8 hz8 hW8 => ⟨⟨(nI ((t + n) / 1000)), (go, gw, gc, gm), rfl, ⟨rfl, Or.inr ⟨by omega, hw⟩⟩, by rw [hz8]; exact hP, hD⟩, hS.F hz8⟩) hS.2.2 dX0_advance_41
