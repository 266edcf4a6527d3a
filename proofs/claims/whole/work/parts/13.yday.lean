set_option maxHeartbeats 4000000 in
set_option maxRecDepth 100000 in
/-- begin -/
theorem cY_begin (l : Launch) (dC : Nat → ClassId) (dI : Nat → Nat → Nat) (sz : Nat) (g0 a1 a2 a3 a4 : Nat) (i1 i2 i3 : ClassId) (TT : Int64) (k : Nat) (hk9 : k ≤ 520) (w : Int32) (O : Nat → Int64) (mo : Nat → Int32) (mb : Nat → Int64) : Met l yX1_begin wsX1_begin ({ frames := 2, cells := 0, slots := 0, locals := 49 }) (dk_Pw [.ref g0] (dC, dI) vwCl [(i1, .long), (i2, .int), (i3, .long)] [(g0, .inr (1, [.long TT, .ref a1, .int (nI k), .ref a2, .ref a3, .int w, .ref a4])), (a1, .inl (i1, 200, .inr (.inl O))), (a2, .inl (i2, 520, .inl mo)), (a3, .inl (i3, 520, .inr (.inl mb)))] sz) (va_Qv (fun (u : (Nat → Int64)) => match u with | O2 => ∀ j : Nat, j < 200 → O2 j = dk_y3 O mo mb k j) (fun (u : (Nat → Int64)) z8 => match u with | O2 => dk_B (dC, dI) vwCl (va_A [(g0, .inr (1, [.long TT, .ref a1, .int (nI k), .ref a2, .ref a3, .int w, .ref a4])), (a1, .inl (i1, 200, .inr (.inl O))), (a2, .inl (i2, 520, .inl mo)), (a3, .inl (i3, 520, .inr (.inl mb)))] sz) [(g0, .inr (1, [.long TT, .ref a1, .int (nI 0), .ref a2, .ref a3, .int w, .ref a4])), (a1, .inl (i1, 200, .inr (.inl O2))), (a2, .inl (i2, 520, .inl mo)), (a3, .inl (i3, 520, .inr (.inl mb)))] z8) (va_A [(g0, .inr (1, [.long TT, .ref a1, .int (nI k), .ref a2, .ref a3, .int w, .ref a4])), (a1, .inl (i1, 200, .inr (.inl O))), (a2, .inl (i2, 520, .inl mo)), (a3, .inl (i3, 520, .inr (.inl mb)))] sz)) 0 0 (va_A [(g0, .inr (1, [.long TT, .ref a1, .int (nI k), .ref a2, .ref a3, .int w, .ref a4])), (a1, .inl (i1, 200, .inr (.inl O))), (a2, .inl (i2, 520, .inl mo)), (a3, .inl (i3, 520, .inr (.inl mb)))] sz) := by
  refine Met.ofW (cc := cX1_begin) (maxL := 2) (ret := none) (by decide) rfl ?_
  intro p e s m args below meth c s₁ B hml hv
  obtain ⟨rfl, hsz, hP, hK, hD0⟩ := hv
  have hx := B.exec
  have hb := B.bytes
  have hr := B.returns
  have hts := atoms_spec (ws := wsX1_begin) B.pre
  have hown : s.vm.findClass RX1 = some m.cls := findClass_of_methodNamed B.named
  have hlocks := B.notSynchronized
  have hinX1 : ∀ w ∈ wsX10, w ∈ wsX1_begin := by decide +kernel
  subst hsz
  have hD := hD0.self (sz := s.heap.size)
  generalize hAe : va_A [(g0, .inr (1, [.long TT, .ref a1, .int (nI k), .ref a2, .ref a3, .int w, .ref a4])), (a1, .inl (i1, 200, .inr (.inl O))), (a2, .inl (i2, 520, .inl mo)), (a3, .inl (i3, 520, .inr (.inl mb)))] s.heap.size = A at hD ⊢
  have hA : ∀ q : Nat, s.heap.size ≤ q → A q := fun q h => by rw [← hAe]; exact Or.inr h
  have hS : va_S A s.heap s.heap [] := va_S.rf
  have hl := lv_entry ([.ref g0]) (n := 2) (Nat.le_of_ble_eq_true rfl)
  rw [lg_entry_eq]
  generalize (lg_sl ([.ref g0]) ++ List.replicate (2 - (lg_sl ([.ref g0])).length) Slot.unset).toArray = ls at hl ⊢
  have hl : lv_has ls 2 [(0, .ref g0)] := hl
  refine lv_iconst (v := nI 0) hx hb dX1_begin_0 (by decide) ?_
  refine lv_istore_n (lv' := [(1, .int (nI 0)), (0, .ref g0)]) hx hb dX1_begin_1 rfl hl (by decide) rfl (fun ls hl => ?_)
  have loop : ∀ (f i : Nat) (O2 : Nat → Int64), i ≤ 200 → 201 ≤ i + f → (∀ j : Nat, j < i → O2 j = dk_y3 O mo mb k j) → (∀ j : Nat, i ≤ j → O2 j = O j) → ∀ (H : Heap) (locs : List Loc), va_P (dC, dI) vwCl [(g0, .inr (1, [.long TT, .ref a1, .int (nI k), .ref a2, .ref a3, .int w, .ref a4])), (a1, .inl (i1, 200, .inr (.inl O2))), (a2, .inl (i2, 520, .inl mo)), (a3, .inl (i3, 520, .inr (.inl mb)))] H → va_D A [(g0, .inr (1, [.long TT, .ref a1, .int (nI k), .ref a2, .ref a3, .int w, .ref a4])), (a1, .inl (i1, 200, .inr (.inl O2))), (a2, .inl (i2, 520, .inl mo)), (a3, .inl (i3, 520, .inr (.inl mb)))] → va_S A s.heap H locs → ∀ ls : Array Slot, lv_has ls 2 [(1, .int (nI i)), (0, .ref g0)] → W p l e (headSpec wsX1_begin ({ frames := 2, cells := 0, slots := 0, locals := 49 })).room s m ([.ref g0] : List Value).toArray below meth c H locs 0 0 (MQ below (va_Qv (fun (u : (Nat → Int64)) => match u with | O2 => ∀ j : Nat, j < 200 → O2 j = dk_y3 O mo mb k j) (fun (u : (Nat → Int64)) z8 => match u with | O2 => dk_B (dC, dI) vwCl A [(g0, .inr (1, [.long TT, .ref a1, .int (nI 0), .ref a2, .ref a3, .int w, .ref a4])), (a1, .inl (i1, 200, .inr (.inl O2))), (a2, .inl (i2, 520, .inl mo)), (a3, .inl (i3, 520, .inr (.inl mb)))] z8) A) ([.ref g0] : List Value).toArray s 0 0 A) (F0 m 2 ls []) := by
    intro f
    induction f with
    | zero => intro i O2 h1 h2; exact absurd h2 (by omega)
    | succ f ih =>
      intro i O2 hi hf hlo hhi H locs hP hD hS ls hl
      refine lv_iload_n hx hb dX1_begin_2 rfl (lv_at hl 0 rfl) ?_
      refine lv_sipush (v := nI 200) hx hb dX1_begin_3 (by decide) ?_
      refine dk_icmp_ge (x := i) (y := 200) (tgt := 27) hx hb dX1_begin_6 (by decide) (by omega) (by omega) (fun c_6 => ?_) (fun c_6 => ?_)
      · refine lv_aload_n hx hb dX1_begin_27 rfl (lv_at hl 1 rfl) ?_
        refine lv_iconst (v := nI 0) hx hb dX1_begin_28 (by decide) ?_
        refine va_put (D := (dC, dI)) (ci := 1) (v := .int (nI 0)) (ty := .int) (C := RX1) (T := TX1) (N := 7) hx hb hts hinX1 tyX1 tyX1_ok nmX1 hown hK hP hD hS 0 rfl rfl 2 (by decide) (hts (.fieldLink RX1 33 "DayDeskModel" "moves" "I") (by decide +kernel)) (fun _ h9 => h9) rfl (by decide +kernel) rfl rfl (Nat.le_of_ble_eq_true rfl) dX1_begin_29 (fun H locs hP hD hS => ?_)
        have hP : va_P (dC, dI) vwCl [(g0, .inr (1, [.long TT, .ref a1, .int (nI 0), .ref a2, .ref a3, .int w, .ref a4])), (a1, .inl (i1, 200, .inr (.inl O2))), (a2, .inl (i2, 520, .inl mo)), (a3, .inl (i3, 520, .inr (.inl mb)))] H := hP
        have hD : va_D A [(g0, .inr (1, [.long TT, .ref a1, .int (nI 0), .ref a2, .ref a3, .int w, .ref a4])), (a1, .inl (i1, 200, .inr (.inl O2))), (a2, .inl (i2, 520, .inl mo)), (a3, .inl (i3, 520, .inr (.inl mb)))] := hD
        exact W.vret hx hb hr (fun z8 hz8 hW8 => ⟨⟨O2, rfl, fun j hj => hlo j (by omega), by rw [hz8]; exact hP, hD⟩, hS.F hz8⟩) hS.2.2 dX1_begin_32
      · refine lv_aload_n hx hb dX1_begin_9 rfl (lv_at hl 1 rfl) ?_
        refine va_get (D := (dC, dI)) (ci := 1) (v := .ref a1) (C := RX1) (T := TX1) (N := 7) hx hb hts hinX1 hown hK hP 0 rfl rfl 1 (by decide) (hts (.fieldLink RX1 7 "DayDeskModel" "opening" "[J") (by decide +kernel)) (fun _ h9 => h9) rfl dX1_begin_10 ?_
        refine lv_iload_n hx hb dX1_begin_13 rfl (lv_at hl 0 rfl) ?_
        refine lv_aload_n hx hb dX1_begin_14 rfl (lv_at hl 1 rfl) ?_
        refine lv_iload_n hx hb dX1_begin_15 rfl (lv_at hl 0 rfl) ?_
        refine lv_iconst (v := 3) hx hb dX1_begin_16 (by decide) ?_
        have hPc := hP
        have hKc := hK
        refine va_calll (va_runV (As := [.int (nI i), .int 3]) (rest := [.int (nI i), .ref a1]) ⟨hx, hb, hml, hown, hts⟩ (cY_row l dC dI g0 a1 a2 a3 a4 i1 i2 i3 TT k hk9 w O2 mo mb (nI i) 3) (cwV 2 hts gX1_begin_X1_row rfl rfl rfl (by decide +kernel) ⟨Nat.le_of_ble_eq_true rfl, Nat.le_of_ble_eq_true rfl⟩) (dk_rV hPc hKc (ci := 1) (q0 := 0) rfl rfl) rfl rfl hl.1 rfl (lv_room (Nat.le_of_ble_eq_true rfl)) dX1_begin_17 ⟨Nat.zero_le _, Nat.zero_le _⟩) hS (fun q _ h => False.elim h) (fun q h => False.elim h) (fun r_17 u8 t8 H1 locs ht8 hvm8 hw hB hz1 hk1 hS => ?_)
        try dsimp only at hw
        have hP := dk_kept hP hk1
        generalize H1 = H at hP hS ⊢
        have hw := dk_row_in (by omega) hw
        have hw : _ = dk_y3 O2 mo mb k i := hw
        subst hw
        refine dk_last hx hb hK hP hD hS 1 0 rfl rfl (j := i) (by omega) (by omega) dX1_begin_20 (fun H locs hP hD hS => ?_)
        have hP : va_P (dC, dI) vwCl [(g0, .inr (1, [.long TT, .ref a1, .int (nI k), .ref a2, .ref a3, .int w, .ref a4])), (a1, .inl (i1, 200, .inr (.inl (vp_updL O2 i (dk_y3 O2 mo mb k i))))), (a2, .inl (i2, 520, .inl mo)), (a3, .inl (i3, 520, .inr (.inl mb)))] H := hP
        have hD : va_D A [(g0, .inr (1, [.long TT, .ref a1, .int (nI k), .ref a2, .ref a3, .int w, .ref a4])), (a1, .inl (i1, 200, .inr (.inl (vp_updL O2 i (dk_y3 O2 mo mb k i))))), (a2, .inl (i2, 520, .inl mo)), (a3, .inl (i3, 520, .inr (.inl mb)))] := hD
        refine lv_iinc (v := nI (i + 1)) (lv' := [(1, .int (nI (i + 1))), (0, .ref g0)]) hx hb dX1_begin_21 hl (k := 0) rfl (by rw [show Int32.ofInt 1 = nI 1 from by decide]; exact nI_add i 1) (by decide) rfl (fun ls hl => ?_)
        refine lv_goto (tgt := 2) hx hb dX1_begin_24 (by decide) ?_
        refine ih (i + 1) _ (by omega) (by omega) (fun j hj => ?_) (fun j hj => by rw [pk_uLn (by omega)]; exact hhi j (by omega)) _ _ hP hD hS ls (lv_sub hl [0, 1] rfl)
        by_cases hji : j = i
        · subst hji; rw [pk_uLs]; show O2 j - _ + _ = O j - _ + _; rw [hhi j (Nat.le_refl j)]
        · rw [pk_uLn hji]; exact hlo j (by omega)
  exact loop 201 0 O (by omega) (by omega) (fun j hj => absurd hj (Nat.not_lt_zero _)) (fun j hj => rfl) _ _ hP hD hS ls (lv_sub hl [0, 1] rfl)
set_option maxHeartbeats 4000000 in
set_option maxRecDepth 100000 in
/-- pass -/
theorem cY_pass (l : Launch) (dC : Nat → ClassId) (dI : Nat → Nat → Nat) (sz : Nat) (g0 a1 a2 a3 a4 : Nat) (i1 i2 i3 : ClassId) (T : Nat) (hT9 : T + 1 < 100000000) (k : Nat) (hk9 : k ≤ 520) (w : Int32) (O : Nat → Int64) (mo : Nat → Int32) (mb : Nat → Int64) : Met l yX1_pass wsX1_pass ({ frames := 3, cells := 0, slots := 0, locals := 70 }) (dk_Pw [.ref g0] (dC, dI) vwCl [(i1, .long), (i2, .int), (i3, .long)] [(g0, .inr (1, [.long (lN T), .ref a1, .int (nI k), .ref a2, .ref a3, .int w, .ref a4])), (a1, .inl (i1, 200, .inr (.inl O))), (a2, .inl (i2, 520, .inl mo)), (a3, .inl (i3, 520, .inr (.inl mb)))] sz) (va_Qi (fun (r : Int32) (u : (Nat → Int64) × Nat) => match u with | (O2, k2) => r = nI (dk_pA ((T + 1) % 1000)) ∧ dk_YS ((T + 1) / 1000 - T / 1000) O mo mb k O2 k2) (fun (u : (Nat → Int64) × Nat) z8 => match u with | (O2, k2) => dk_B (dC, dI) vwCl (va_A [(g0, .inr (1, [.long (lN T), .ref a1, .int (nI k), .ref a2, .ref a3, .int w, .ref a4])), (a1, .inl (i1, 200, .inr (.inl O))), (a2, .inl (i2, 520, .inl mo)), (a3, .inl (i3, 520, .inr (.inl mb)))] sz) [(g0, .inr (1, [.long (lN (T + 1)), .ref a1, .int (nI k2), .ref a2, .ref a3, .int w, .ref a4])), (a1, .inl (i1, 200, .inr (.inl O2))), (a2, .inl (i2, 520, .inl mo)), (a3, .inl (i3, 520, .inr (.inl mb)))] z8) (va_A [(g0, .inr (1, [.long (lN T), .ref a1, .int (nI k), .ref a2, .ref a3, .int w, .ref a4])), (a1, .inl (i1, 200, .inr (.inl O))), (a2, .inl (i2, 520, .inl mo)), (a3, .inl (i3, 520, .inr (.inl mb)))] sz)) 0 0 (va_A [(g0, .inr (1, [.long (lN T), .ref a1, .int (nI k), .ref a2, .ref a3, .int w, .ref a4])), (a1, .inl (i1, 200, .inr (.inl O))), (a2, .inl (i2, 520, .inl mo)), (a3, .inl (i3, 520, .inr (.inl mb)))] sz) := by
  refine Met.ofW (cc := cX1_pass) (maxL := 2) (ret := (some .int)) (by decide) rfl ?_
  intro p e s m args below meth c s₁ B hml hv
  obtain ⟨rfl, hsz, hP, hK, hD0⟩ := hv
  have hx := B.exec
  have hb := B.bytes
  have hr := B.returns
  have hts := atoms_spec (ws := wsX1_pass) B.pre
  have hown : s.vm.findClass RX1 = some m.cls := findClass_of_methodNamed B.named
  have hlocks := B.notSynchronized
  have hinX1 : ∀ w ∈ wsX10, w ∈ wsX1_pass := by decide +kernel
  subst hsz
  have hD := hD0.self (sz := s.heap.size)
  generalize hAe : va_A [(g0, .inr (1, [.long (lN T), .ref a1, .int (nI k), .ref a2, .ref a3, .int w, .ref a4])), (a1, .inl (i1, 200, .inr (.inl O))), (a2, .inl (i2, 520, .inl mo)), (a3, .inl (i3, 520, .inr (.inl mb)))] s.heap.size = A at hD ⊢
  have hA : ∀ q : Nat, s.heap.size ≤ q → A q := fun q h => by rw [← hAe]; exact Or.inr h
  have hS : va_S A s.heap s.heap [] := va_S.rf
  have hl := lv_entry ([.ref g0]) (n := 2) (Nat.le_of_ble_eq_true rfl)
  rw [lg_entry_eq]
  generalize (lg_sl ([.ref g0]) ++ List.replicate (2 - (lg_sl ([.ref g0])).length) Slot.unset).toArray = ls at hl ⊢
  have hl : lv_has ls 2 [(0, .ref g0)] := hl
  refine lv_aload_n hx hb dX1_pass_0 rfl (lv_at hl 0 rfl) ?_
  refine lv_dup hx hb dX1_pass_1 rfl ?_
  refine va_get (D := (dC, dI)) (ci := 1) (v := .long (lN T)) (C := RX1) (T := TX1) (N := 7) hx hb hts hinX1 hown hK hP 0 rfl rfl 0 (by decide) (hts (.fieldLink RX1 23 "DayDeskModel" "ticks" "J") (by decide +kernel)) (fun _ h9 => h9) rfl dX1_pass_2 ?_
  refine lv_lconst (v := 1) hx hb dX1_pass_5 (by decide) ?_
  refine lv_ladd hx hb dX1_pass_6 ?_
  refine dk_asl (y := lN (T + 1)) (lN_1 T) ?_
  refine va_put (D := (dC, dI)) (ci := 1) (v := .long (lN (T + 1))) (ty := .long) (C := RX1) (T := TX1) (N := 7) hx hb hts hinX1 tyX1 tyX1_ok nmX1 hown hK hP hD hS 0 rfl rfl 0 (by decide) (hts (.fieldLink RX1 23 "DayDeskModel" "ticks" "J") (by decide +kernel)) (fun _ h9 => h9) rfl (by decide +kernel) rfl rfl (Nat.le_of_ble_eq_true rfl) dX1_pass_7 (fun H locs hP hD hS => ?_)
  have hP : va_P (dC, dI) vwCl [(g0, .inr (1, [.long (lN (T + 1)), .ref a1, .int (nI k), .ref a2, .ref a3, .int w, .ref a4])), (a1, .inl (i1, 200, .inr (.inl O))), (a2, .inl (i2, 520, .inl mo)), (a3, .inl (i3, 520, .inr (.inl mb)))] H := hP
  have hD : va_D A [(g0, .inr (1, [.long (lN (T + 1)), .ref a1, .int (nI k), .ref a2, .ref a3, .int w, .ref a4])), (a1, .inl (i1, 200, .inr (.inl O))), (a2, .inl (i2, 520, .inl mo)), (a3, .inl (i3, 520, .inr (.inl mb)))] := hD
  refine lv_aload_n hx hb dX1_pass_10 rfl (lv_at hl 0 rfl) ?_
  have hPc := hP.sub (ws' := [(g0, .inr (1, [.long (lN (T + 1)), .ref a1, .int (nI k), .ref a2, .ref a3, .int w, .ref a4]))]) [0] rfl
  have hKc := hK.sub (tys' := []) [] rfl
  refine va_calli (va_runV (As := []) (rest := []) ⟨hx, hb, hml, hown, hts⟩ (cY_tick l dC dI g0 a1 a2 a3 a4 (T + 1) (by omega) (nI k) w) (cwV 0 hts gX1_pass_X1_tick rfl rfl rfl (by decide +kernel) ⟨Nat.le_of_ble_eq_true rfl, Nat.le_of_ble_eq_true rfl⟩) (dk_rV hPc hKc (ci := 1) (q0 := 0) rfl rfl) rfl rfl hl.1 rfl (lv_room (Nat.le_of_ble_eq_true rfl)) dX1_pass_11 ⟨Nat.zero_le _, Nat.zero_le _⟩) hS (fun q _ h => False.elim h) (fun q h => False.elim h) (fun r_11 u8 t8 H1 locs ht8 hvm8 hw hB hz1 hk1 hS => ?_)
  try dsimp only at hw
  have hP := dk_kept hP hk1
  generalize H1 = H at hP hS ⊢
  subst hw
  refine lv_istore_n (lv' := [(1, .int (nI ((T + 1) % 1000))), (0, .ref g0)]) hx hb dX1_pass_14 rfl hl (by decide) rfl (fun ls hl => ?_)
  refine lv_iload_n hx hb dX1_pass_15 rfl (lv_at hl 0 rfl) ?_
  refine dk_if_ne (x := (T + 1) % 1000) (tgt := 23) hx hb dX1_pass_16 (by decide) (by omega) (fun c_16 => ?_) (fun c_16 => ?_)
  · refine lv_iload_n hx hb dX1_pass_23 rfl (lv_at hl 0 rfl) ?_
    have hKc := hK.sub (tys' := []) [] rfl
    refine va_calli (va_runS (As := [.int (nI ((T + 1) % 1000))]) (rest := []) ⟨hx, hb, hml, hown, hts⟩ (cY_isResolved l dC dI ((T + 1) % 1000) (by omega)) (va_cwS 1 hts gX1_pass_X1_isResolved rfl rfl rfl (by decide +kernel) ⟨Nat.le_of_ble_eq_true rfl, Nat.le_of_ble_eq_true rfl⟩) (dk_rS dk_P0 hKc) rfl rfl hl.1 rfl (lv_room (Nat.le_of_ble_eq_true rfl)) dX1_pass_24 ⟨Nat.zero_le _, Nat.zero_le _⟩) hS (fun q _ h => False.elim h) (fun q h => False.elim h) (fun r_24 u8 t8 H1 locs ht8 hvm8 hw hB hz1 hk1 hS => ?_)
    try dsimp only at hw
    have hP := dk_kept hP hk1
    generalize H1 = H at hP hS ⊢
    unfold dk_iR at hw
    rcases hw with ⟨rfl, hR⟩ | ⟨rfl, hR⟩
    · refine lv_if_eq (tgt := 34) hx hb dX1_pass_27 (by decide) (fun c9 => absurd c9 (by decide)) (fun _ => ?_)
      refine lv_iconst (v := 1) hx hb dX1_pass_30 (by decide) ?_
      refine lv_goto (tgt := 35) hx hb dX1_pass_31 (by decide) ?_
      refine lv_iload_n hx hb dX1_pass_35 rfl (lv_at hl 0 rfl) ?_
      refine lv_sipush (v := nI 900) hx hb dX1_pass_36 (by decide) ?_
      refine dk_icmp_ne (x := (T + 1) % 1000) (y := 900) (tgt := 46) hx hb dX1_pass_39 (by decide) (by omega) (by omega) (fun c_39 => ?_) (fun c_39 => ?_)
      · refine lv_iconst (v := 0) hx hb dX1_pass_46 (by decide) ?_
        refine lv_iadd hx hb dX1_pass_47 ?_
        refine dk_asi (y := nI (1 + 0)) (nI_add 1 0) ?_
        refine lv_iload_n hx hb dX1_pass_48 rfl (lv_at hl 0 rfl) ?_
        refine dk_if_ne (x := (T + 1) % 1000) (tgt := 56) hx hb dX1_pass_49 (by decide) (by omega) (fun c_49 => ?_) (fun c_49 => ?_)
        · refine lv_iconst (v := 0) hx hb dX1_pass_56 (by decide) ?_
          refine lv_iadd hx hb dX1_pass_57 ?_
          refine dk_asi (y := nI ((1 + 0) + 0)) (nI_add (1 + 0) 0) ?_
          exact W.iret (v := nI ((1 + 0) + 0)) hx hb hr (fun z8 hz8 hW8 => ⟨⟨(nI ((1 + 0) + 0)), (O, k), rfl, ⟨congrArg nI (by unfold dk_pA; (repeat' split) <;> omega), Or.inl ⟨by omega, rfl, rfl⟩⟩, by rw [hz8]; exact hP, hD⟩, hS.F hz8⟩) hS.2.2 dX1_pass_58
        · refine lv_iconst (v := 4) hx hb dX1_pass_52 (by decide) ?_
          refine lv_goto (tgt := 57) hx hb dX1_pass_53 (by decide) ?_
          refine lv_iadd hx hb dX1_pass_57 ?_
          refine dk_asi (y := nI ((1 + 0) + 4)) (nI_add (1 + 0) 4) ?_
          exact W.iret (v := nI ((1 + 0) + 4)) hx hb hr (fun z8 hz8 hW8 => ⟨⟨(nI ((1 + 0) + 4)), (O, k), rfl, ⟨congrArg nI (by unfold dk_pA; (repeat' split) <;> omega), Or.inl ⟨by omega, rfl, rfl⟩⟩, by rw [hz8]; exact hP, hD⟩, hS.F hz8⟩) hS.2.2 dX1_pass_58
      · refine lv_iconst (v := 2) hx hb dX1_pass_42 (by decide) ?_
        refine lv_goto (tgt := 47) hx hb dX1_pass_43 (by decide) ?_
        refine lv_iadd hx hb dX1_pass_47 ?_
        refine dk_asi (y := nI (1 + 2)) (nI_add 1 2) ?_
        refine lv_iload_n hx hb dX1_pass_48 rfl (lv_at hl 0 rfl) ?_
        refine dk_if_ne (x := (T + 1) % 1000) (tgt := 56) hx hb dX1_pass_49 (by decide) (by omega) (fun c_49 => ?_) (fun c_49 => ?_)
        · refine lv_iconst (v := 0) hx hb dX1_pass_56 (by decide) ?_
          refine lv_iadd hx hb dX1_pass_57 ?_
          refine dk_asi (y := nI ((1 + 2) + 0)) (nI_add (1 + 2) 0) ?_
          exact W.iret (v := nI ((1 + 2) + 0)) hx hb hr (fun z8 hz8 hW8 => ⟨⟨(nI ((1 + 2) + 0)), (O, k), rfl, ⟨congrArg nI (by unfold dk_pA; (repeat' split) <;> omega), Or.inl ⟨by omega, rfl, rfl⟩⟩, by rw [hz8]; exact hP, hD⟩, hS.F hz8⟩) hS.2.2 dX1_pass_58
        · refine lv_iconst (v := 4) hx hb dX1_pass_52 (by decide) ?_
          refine lv_goto (tgt := 57) hx hb dX1_pass_53 (by decide) ?_
          refine lv_iadd hx hb dX1_pass_57 ?_
          refine dk_asi (y := nI ((1 + 2) + 4)) (nI_add (1 + 2) 4) ?_
          exact W.iret (v := nI ((1 + 2) + 4)) hx hb hr (fun z8 hz8 hW8 => ⟨⟨(nI ((1 + 2) + 4)), (O, k), rfl, ⟨congrArg nI (by unfold dk_pA; (repeat' split) <;> omega), Or.inl ⟨by omega, rfl, rfl⟩⟩, by rw [hz8]; exact hP, hD⟩, hS.F hz8⟩) hS.2.2 dX1_pass_58
    · refine lv_if_eq (tgt := 34) hx hb dX1_pass_27 (by decide) (fun _ => ?_) (fun c9 => absurd (by decide) c9)
      refine lv_iconst (v := 0) hx hb dX1_pass_34 (by decide) ?_
      refine lv_iload_n hx hb dX1_pass_35 rfl (lv_at hl 0 rfl) ?_
      refine lv_sipush (v := nI 900) hx hb dX1_pass_36 (by decide) ?_
      refine dk_icmp_ne (x := (T + 1) % 1000) (y := 900) (tgt := 46) hx hb dX1_pass_39 (by decide) (by omega) (by omega) (fun c_39 => ?_) (fun c_39 => ?_)
      · refine lv_iconst (v := 0) hx hb dX1_pass_46 (by decide) ?_
        refine lv_iadd hx hb dX1_pass_47 ?_
        refine dk_asi (y := nI (0 + 0)) (nI_add 0 0) ?_
        refine lv_iload_n hx hb dX1_pass_48 rfl (lv_at hl 0 rfl) ?_
        refine dk_if_ne (x := (T + 1) % 1000) (tgt := 56) hx hb dX1_pass_49 (by decide) (by omega) (fun c_49 => ?_) (fun c_49 => ?_)
        · refine lv_iconst (v := 0) hx hb dX1_pass_56 (by decide) ?_
          refine lv_iadd hx hb dX1_pass_57 ?_
          refine dk_asi (y := nI ((0 + 0) + 0)) (nI_add (0 + 0) 0) ?_
          exact W.iret (v := nI ((0 + 0) + 0)) hx hb hr (fun z8 hz8 hW8 => ⟨⟨(nI ((0 + 0) + 0)), (O, k), rfl, ⟨congrArg nI (by unfold dk_pA; (repeat' split) <;> omega), Or.inl ⟨by omega, rfl, rfl⟩⟩, by rw [hz8]; exact hP, hD⟩, hS.F hz8⟩) hS.2.2 dX1_pass_58
        · refine lv_iconst (v := 4) hx hb dX1_pass_52 (by decide) ?_
          refine lv_goto (tgt := 57) hx hb dX1_pass_53 (by decide) ?_
          refine lv_iadd hx hb dX1_pass_57 ?_
          refine dk_asi (y := nI ((0 + 0) + 4)) (nI_add (0 + 0) 4) ?_
          exact W.iret (v := nI ((0 + 0) + 4)) hx hb hr (fun z8 hz8 hW8 => ⟨⟨(nI ((0 + 0) + 4)), (O, k), rfl, ⟨congrArg nI (by unfold dk_pA; (repeat' split) <;> omega), Or.inl ⟨by omega, rfl, rfl⟩⟩, by rw [hz8]; exact hP, hD⟩, hS.F hz8⟩) hS.2.2 dX1_pass_58
      · refine lv_iconst (v := 2) hx hb dX1_pass_42 (by decide) ?_
        refine lv_goto (tgt := 47) hx hb dX1_pass_43 (by decide) ?_
        refine lv_iadd hx hb dX1_pass_47 ?_
        refine dk_asi (y := nI (0 + 2)) (nI_add 0 2) ?_
        refine lv_iload_n hx hb dX1_pass_48 rfl (lv_at hl 0 rfl) ?_
        refine dk_if_ne (x := (T + 1) % 1000) (tgt := 56) hx hb dX1_pass_49 (by decide) (by omega) (fun c_49 => ?_) (fun c_49 => ?_)
        · refine lv_iconst (v := 0) hx hb dX1_pass_56 (by decide) ?_
          refine lv_iadd hx hb dX1_pass_57 ?_
          refine dk_asi (y := nI ((0 + 2) + 0)) (nI_add (0 + 2) 0) ?_
          exact W.iret (v := nI ((0 + 2) + 0)) hx hb hr (fun z8 hz8 hW8 => ⟨⟨(nI ((0 + 2) + 0)), (O, k), rfl, ⟨congrArg nI (by unfold dk_pA; (repeat' split) <;> omega), Or.inl ⟨by omega, rfl, rfl⟩⟩, by rw [hz8]; exact hP, hD⟩, hS.F hz8⟩) hS.2.2 dX1_pass_58
        · refine lv_iconst (v := 4) hx hb dX1_pass_52 (by decide) ?_
          refine lv_goto (tgt := 57) hx hb dX1_pass_53 (by decide) ?_
          refine lv_iadd hx hb dX1_pass_57 ?_
          refine dk_asi (y := nI ((0 + 2) + 4)) (nI_add (0 + 2) 4) ?_
          exact W.iret (v := nI ((0 + 2) + 4)) hx hb hr (fun z8 hz8 hW8 => ⟨⟨(nI ((0 + 2) + 4)), (O, k), rfl, ⟨congrArg nI (by unfold dk_pA; (repeat' split) <;> omega), Or.inl ⟨by omega, rfl, rfl⟩⟩, by rw [hz8]; exact hP, hD⟩, hS.F hz8⟩) hS.2.2 dX1_pass_58
  · refine lv_aload_n hx hb dX1_pass_19 rfl (lv_at hl 1 rfl) ?_
    have hPc := hP
    have hDc := hD
    have hFc := va_free (wc := [(g0, .inr (1, [.long (lN (T + 1)), .ref a1, .int (nI k), .ref a2, .ref a3, .int w, .ref a4])), (a1, .inl (i1, 200, .inr (.inl O))), (a2, .inl (i2, 520, .inl mo)), (a3, .inl (i3, 520, .inr (.inl mb)))]) hD hS hA [0, 1, 2, 3] rfl
    have hKc := hK
    refine va_callv (va_runV (As := []) (rest := []) ⟨hx, hb, hml, hown, hts⟩ (cY_begin l dC dI _ g0 a1 a2 a3 a4 i1 i2 i3 (lN (T + 1)) k hk9 w O mo mb) (cwV 0 hts gX1_pass_X1_begin rfl rfl rfl (by decide +kernel) ⟨Nat.le_of_ble_eq_true rfl, Nat.le_of_ble_eq_true rfl⟩) (dk_wV hPc hKc hDc (ci := 1) (q0 := 0) rfl rfl) rfl rfl hl.1 rfl (lv_room (Nat.le_of_ble_eq_true rfl)) dX1_pass_20 ⟨Nat.zero_le _, Nat.zero_le _⟩) hS (fun q _ h => hFc q h) hFc (fun u8 t8 H1 locs ht8 hvm8 hw hB hz1 hk1 hS => ?_)
    try dsimp only at hw
    obtain ⟨O2, rfl⟩ : ∃ z, z = u8 := ⟨_, rfl⟩
    try dsimp only at hw hB
    obtain ⟨hP1, hD1⟩ := hB
    rw [ht8] at hP1
    obtain ⟨hP, hD⟩ := va_join (wr := []) (w1 := [(g0, .inr (1, [.long (lN (T + 1)), .ref a1, .int (nI 0), .ref a2, .ref a3, .int w, .ref a4])), (a1, .inl (i1, 200, .inr (.inl O2))), (a2, .inl (i2, 520, .inl mo)), (a3, .inl (i3, 520, .inr (.inl mb)))]) hP hD [0, 1, 2, 3] [] rfl rfl (by decide) (by decide) hk1 hFc hP1 hD1
    generalize H1 = H at hP hS ⊢
    have hP : va_P (dC, dI) vwCl [(g0, .inr (1, [.long (lN (T + 1)), .ref a1, .int (nI 0), .ref a2, .ref a3, .int w, .ref a4])), (a1, .inl (i1, 200, .inr (.inl O2))), (a2, .inl (i2, 520, .inl mo)), (a3, .inl (i3, 520, .inr (.inl mb)))] H := hP
    have hD : va_D A [(g0, .inr (1, [.long (lN (T + 1)), .ref a1, .int (nI 0), .ref a2, .ref a3, .int w, .ref a4])), (a1, .inl (i1, 200, .inr (.inl O2))), (a2, .inl (i2, 520, .inl mo)), (a3, .inl (i3, 520, .inr (.inl mb)))] := hD
    have hbeg := hw
    refine lv_iload_n hx hb dX1_pass_23 rfl (lv_at hl 0 rfl) ?_
    have hKc := hK.sub (tys' := []) [] rfl
    refine va_calli (va_runS (As := [.int (nI ((T + 1) % 1000))]) (rest := []) ⟨hx, hb, hml, hown, hts⟩ (cY_isResolved l dC dI ((T + 1) % 1000) (by omega)) (va_cwS 1 hts gX1_pass_X1_isResolved rfl rfl rfl (by decide +kernel) ⟨Nat.le_of_ble_eq_true rfl, Nat.le_of_ble_eq_true rfl⟩) (dk_rS dk_P0 hKc) rfl rfl hl.1 rfl (lv_room (Nat.le_of_ble_eq_true rfl)) dX1_pass_24 ⟨Nat.zero_le _, Nat.zero_le _⟩) hS (fun q _ h => False.elim h) (fun q h => False.elim h) (fun r_24 u8 t8 H1 locs ht8 hvm8 hw hB hz1 hk1 hS => ?_)
    try dsimp only at hw
    have hP := dk_kept hP hk1
    generalize H1 = H at hP hS ⊢
    unfold dk_iR at hw
    rcases hw with ⟨rfl, hR⟩ | ⟨rfl, hR⟩
    · refine lv_if_eq (tgt := 34) hx hb dX1_pass_27 (by decide) (fun c9 => absurd c9 (by decide)) (fun _ => ?_)
      refine lv_iconst (v := 1) hx hb dX1_pass_30 (by decide) ?_
      refine lv_goto (tgt := 35) hx hb dX1_pass_31 (by decide) ?_
      refine lv_iload_n hx hb dX1_pass_35 rfl (lv_at hl 0 rfl) ?_
      refine lv_sipush (v := nI 900) hx hb dX1_pass_36 (by decide) ?_
      refine dk_icmp_ne (x := (T + 1) % 1000) (y := 900) (tgt := 46) hx hb dX1_pass_39 (by decide) (by omega) (by omega) (fun c_39 => ?_) (fun c_39 => ?_)
      · refine lv_iconst (v := 0) hx hb dX1_pass_46 (by decide) ?_
        refine lv_iadd hx hb dX1_pass_47 ?_
        refine dk_asi (y := nI (1 + 0)) (nI_add 1 0) ?_
        refine lv_iload_n hx hb dX1_pass_48 rfl (lv_at hl 0 rfl) ?_
        refine dk_if_ne (x := (T + 1) % 1000) (tgt := 56) hx hb dX1_pass_49 (by decide) (by omega) (fun c_49 => ?_) (fun c_49 => ?_)
        · refine lv_iconst (v := 0) hx hb dX1_pass_56 (by decide) ?_
          refine lv_iadd hx hb dX1_pass_57 ?_
          refine dk_asi (y := nI ((1 + 0) + 0)) (nI_add (1 + 0) 0) ?_
          exact W.iret (v := nI ((1 + 0) + 0)) hx hb hr (fun z8 hz8 hW8 => ⟨⟨(nI ((1 + 0) + 0)), (O2, 0), rfl, ⟨congrArg nI (by unfold dk_pA; (repeat' split) <;> omega), Or.inr ⟨by omega, rfl, hbeg⟩⟩, by rw [hz8]; exact hP, hD⟩, hS.F hz8⟩) hS.2.2 dX1_pass_58
        · refine lv_iconst (v := 4) hx hb dX1_pass_52 (by decide) ?_
          refine lv_goto (tgt := 57) hx hb dX1_pass_53 (by decide) ?_
          refine lv_iadd hx hb dX1_pass_57 ?_
          refine dk_asi (y := nI ((1 + 0) + 4)) (nI_add (1 + 0) 4) ?_
          exact W.iret (v := nI ((1 + 0) + 4)) hx hb hr (fun z8 hz8 hW8 => ⟨⟨(nI ((1 + 0) + 4)), (O2, 0), rfl, ⟨congrArg nI (by unfold dk_pA; (repeat' split) <;> omega), Or.inr ⟨by omega, rfl, hbeg⟩⟩, by rw [hz8]; exact hP, hD⟩, hS.F hz8⟩) hS.2.2 dX1_pass_58
      · refine lv_iconst (v := 2) hx hb dX1_pass_42 (by decide) ?_
        refine lv_goto (tgt := 47) hx hb dX1_pass_43 (by decide) ?_
        refine lv_iadd hx hb dX1_pass_47 ?_
        refine dk_asi (y := nI (1 + 2)) (nI_add 1 2) ?_
        refine lv_iload_n hx hb dX1_pass_48 rfl (lv_at hl 0 rfl) ?_
        refine dk_if_ne (x := (T + 1) % 1000) (tgt := 56) hx hb dX1_pass_49 (by decide) (by omega) (fun c_49 => ?_) (fun c_49 => ?_)
        · refine lv_iconst (v := 0) hx hb dX1_pass_56 (by decide) ?_
          refine lv_iadd hx hb dX1_pass_57 ?_
          refine dk_asi (y := nI ((1 + 2) + 0)) (nI_add (1 + 2) 0) ?_
          exact W.iret (v := nI ((1 + 2) + 0)) hx hb hr (fun z8 hz8 hW8 => ⟨⟨(nI ((1 + 2) + 0)), (O2, 0), rfl, ⟨congrArg nI (by unfold dk_pA; (repeat' split) <;> omega), Or.inr ⟨by omega, rfl, hbeg⟩⟩, by rw [hz8]; exact hP, hD⟩, hS.F hz8⟩) hS.2.2 dX1_pass_58
        · refine lv_iconst (v := 4) hx hb dX1_pass_52 (by decide) ?_
          refine lv_goto (tgt := 57) hx hb dX1_pass_53 (by decide) ?_
          refine lv_iadd hx hb dX1_pass_57 ?_
          refine dk_asi (y := nI ((1 + 2) + 4)) (nI_add (1 + 2) 4) ?_
          exact W.iret (v := nI ((1 + 2) + 4)) hx hb hr (fun z8 hz8 hW8 => ⟨⟨(nI ((1 + 2) + 4)), (O2, 0), rfl, ⟨congrArg nI (by unfold dk_pA; (repeat' split) <;> omega), Or.inr ⟨by omega, rfl, hbeg⟩⟩, by rw [hz8]; exact hP, hD⟩, hS.F hz8⟩) hS.2.2 dX1_pass_58
    · refine lv_if_eq (tgt := 34) hx hb dX1_pass_27 (by decide) (fun _ => ?_) (fun c9 => absurd (by decide) c9)
      refine lv_iconst (v := 0) hx hb dX1_pass_34 (by decide) ?_
      refine lv_iload_n hx hb dX1_pass_35 rfl (lv_at hl 0 rfl) ?_
      refine lv_sipush (v := nI 900) hx hb dX1_pass_36 (by decide) ?_
      refine dk_icmp_ne (x := (T + 1) % 1000) (y := 900) (tgt := 46) hx hb dX1_pass_39 (by decide) (by omega) (by omega) (fun c_39 => ?_) (fun c_39 => ?_)
      · refine lv_iconst (v := 0) hx hb dX1_pass_46 (by decide) ?_
        refine lv_iadd hx hb dX1_pass_47 ?_
        refine dk_asi (y := nI (0 + 0)) (nI_add 0 0) ?_
        refine lv_iload_n hx hb dX1_pass_48 rfl (lv_at hl 0 rfl) ?_
        refine dk_if_ne (x := (T + 1) % 1000) (tgt := 56) hx hb dX1_pass_49 (by decide) (by omega) (fun c_49 => ?_) (fun c_49 => ?_)
        · refine lv_iconst (v := 0) hx hb dX1_pass_56 (by decide) ?_
          refine lv_iadd hx hb dX1_pass_57 ?_
          refine dk_asi (y := nI ((0 + 0) + 0)) (nI_add (0 + 0) 0) ?_
          exact W.iret (v := nI ((0 + 0) + 0)) hx hb hr (fun z8 hz8 hW8 => ⟨⟨(nI ((0 + 0) + 0)), (O2, 0), rfl, ⟨congrArg nI (by unfold dk_pA; (repeat' split) <;> omega), Or.inr ⟨by omega, rfl, hbeg⟩⟩, by rw [hz8]; exact hP, hD⟩, hS.F hz8⟩) hS.2.2 dX1_pass_58
        · refine lv_iconst (v := 4) hx hb dX1_pass_52 (by decide) ?_
          refine lv_goto (tgt := 57) hx hb dX1_pass_53 (by decide) ?_
          refine lv_iadd hx hb dX1_pass_57 ?_
          refine dk_asi (y := nI ((0 + 0) + 4)) (nI_add (0 + 0) 4) ?_
          exact W.iret (v := nI ((0 + 0) + 4)) hx hb hr (fun z8 hz8 hW8 => ⟨⟨(nI ((0 + 0) + 4)), (O2, 0), rfl, ⟨congrArg nI (by unfold dk_pA; (repeat' split) <;> omega), Or.inr ⟨by omega, rfl, hbeg⟩⟩, by rw [hz8]; exact hP, hD⟩, hS.F hz8⟩) hS.2.2 dX1_pass_58
      · refine lv_iconst (v := 2) hx hb dX1_pass_42 (by decide) ?_
        refine lv_goto (tgt := 47) hx hb dX1_pass_43 (by decide) ?_
        refine lv_iadd hx hb dX1_pass_47 ?_
        refine dk_asi (y := nI (0 + 2)) (nI_add 0 2) ?_
        refine lv_iload_n hx hb dX1_pass_48 rfl (lv_at hl 0 rfl) ?_
        refine dk_if_ne (x := (T + 1) % 1000) (tgt := 56) hx hb dX1_pass_49 (by decide) (by omega) (fun c_49 => ?_) (fun c_49 => ?_)
        · refine lv_iconst (v := 0) hx hb dX1_pass_56 (by decide) ?_
          refine lv_iadd hx hb dX1_pass_57 ?_
          refine dk_asi (y := nI ((0 + 2) + 0)) (nI_add (0 + 2) 0) ?_
          exact W.iret (v := nI ((0 + 2) + 0)) hx hb hr (fun z8 hz8 hW8 => ⟨⟨(nI ((0 + 2) + 0)), (O2, 0), rfl, ⟨congrArg nI (by unfold dk_pA; (repeat' split) <;> omega), Or.inr ⟨by omega, rfl, hbeg⟩⟩, by rw [hz8]; exact hP, hD⟩, hS.F hz8⟩) hS.2.2 dX1_pass_58
        · refine lv_iconst (v := 4) hx hb dX1_pass_52 (by decide) ?_
          refine lv_goto (tgt := 57) hx hb dX1_pass_53 (by decide) ?_
          refine lv_iadd hx hb dX1_pass_57 ?_
          refine dk_asi (y := nI ((0 + 2) + 4)) (nI_add (0 + 2) 4) ?_
          exact W.iret (v := nI ((0 + 2) + 4)) hx hb hr (fun z8 hz8 hW8 => ⟨⟨(nI ((0 + 2) + 4)), (O2, 0), rfl, ⟨congrArg nI (by unfold dk_pA; (repeat' split) <;> omega), Or.inr ⟨by omega, rfl, hbeg⟩⟩, by rw [hz8]; exact hP, hD⟩, hS.F hz8⟩) hS.2.2 dX1_pass_58
set_option maxHeartbeats 4000000 in
set_option maxRecDepth 100000 in
/-- skip -/
theorem cY_skip (l : Launch) (dC : Nat → ClassId) (dI : Nat → Nat → Nat) (sz : Nat) (g0 a1 a2 a3 a4 : Nat) (i1 i2 i3 : ClassId) (T : Nat) (hT9 : T + 100000 < 100000000) (k : Nat) (hk9 : k ≤ 520) (w : Int32) (O : Nat → Int64) (mo : Nat → Int32) (mb : Nat → Int64) (x : Int32) : Met l yX1_skip wsX1_skip ({ frames := 4, cells := 0, slots := 0, locals := 91 }) (dk_Pw [.ref g0, .int x] (dC, dI) vwCl [(i1, .long), (i2, .int), (i3, .long)] [(g0, .inr (1, [.long (lN T), .ref a1, .int (nI k), .ref a2, .ref a3, .int w, .ref a4])), (a1, .inl (i1, 200, .inr (.inl O))), (a2, .inl (i2, 520, .inl mo)), (a3, .inl (i3, 520, .inr (.inl mb)))] sz) (va_Qi (fun (r : Int32) (u : (Nat → Int64) × Nat × Nat) => match u with | (O2, k2, T2) => (r = -1 ∧ (x < 1 ∨ nI 100000 < x) ∧ O2 = O ∧ k2 = k ∧ T2 = T) ∨ (∃ n : Nat, 1 ≤ n ∧ n ≤ 100000 ∧ x = nI n ∧ T2 = T + n ∧ dk_YS ((T + n) / 1000 - T / 1000) O mo mb k O2 k2 ∧ r = nI (dk_R (T + n) - dk_R T))) (fun (u : (Nat → Int64) × Nat × Nat) z8 => match u with | (O2, k2, T2) => dk_B (dC, dI) vwCl (va_A [(g0, .inr (1, [.long (lN T), .ref a1, .int (nI k), .ref a2, .ref a3, .int w, .ref a4])), (a1, .inl (i1, 200, .inr (.inl O))), (a2, .inl (i2, 520, .inl mo)), (a3, .inl (i3, 520, .inr (.inl mb)))] sz) [(g0, .inr (1, [.long (lN T2), .ref a1, .int (nI k2), .ref a2, .ref a3, .int w, .ref a4])), (a1, .inl (i1, 200, .inr (.inl O2))), (a2, .inl (i2, 520, .inl mo)), (a3, .inl (i3, 520, .inr (.inl mb)))] z8) (va_A [(g0, .inr (1, [.long (lN T), .ref a1, .int (nI k), .ref a2, .ref a3, .int w, .ref a4])), (a1, .inl (i1, 200, .inr (.inl O))), (a2, .inl (i2, 520, .inl mo)), (a3, .inl (i3, 520, .inr (.inl mb)))] sz)) 0 0 (va_A [(g0, .inr (1, [.long (lN T), .ref a1, .int (nI k), .ref a2, .ref a3, .int w, .ref a4])), (a1, .inl (i1, 200, .inr (.inl O))), (a2, .inl (i2, 520, .inl mo)), (a3, .inl (i3, 520, .inr (.inl mb)))] sz) := by
  refine Met.ofW (cc := cX1_skip) (maxL := 4) (ret := (some .int)) (by decide) rfl ?_
  intro p e s m args below meth c s₁ B hml hv
  obtain ⟨rfl, hsz, hP, hK, hD0⟩ := hv
  have hx := B.exec
  have hb := B.bytes
  have hr := B.returns
  have hts := atoms_spec (ws := wsX1_skip) B.pre
  have hown : s.vm.findClass RX1 = some m.cls := findClass_of_methodNamed B.named
  have hlocks := B.notSynchronized
  subst hsz
  have hD := hD0.self (sz := s.heap.size)
  generalize hAe : va_A [(g0, .inr (1, [.long (lN T), .ref a1, .int (nI k), .ref a2, .ref a3, .int w, .ref a4])), (a1, .inl (i1, 200, .inr (.inl O))), (a2, .inl (i2, 520, .inl mo)), (a3, .inl (i3, 520, .inr (.inl mb)))] s.heap.size = A at hD ⊢
  have hA : ∀ q : Nat, s.heap.size ≤ q → A q := fun q h => by rw [← hAe]; exact Or.inr h
  have hS : va_S A s.heap s.heap [] := va_S.rf
  have hl := lv_entry ([.ref g0, .int x]) (n := 4) (Nat.le_of_ble_eq_true rfl)
  rw [lg_entry_eq]
  generalize (lg_sl ([.ref g0, .int x]) ++ List.replicate (4 - (lg_sl ([.ref g0, .int x])).length) Slot.unset).toArray = ls at hl ⊢
  have hl : lv_has ls 4 [(0, .ref g0), (1, .int x)] := hl
  refine lv_iload_n hx hb dX1_skip_0 rfl (lv_at hl 1 rfl) ?_
  refine lv_iconst (v := 1) hx hb dX1_skip_1 (by decide) ?_
  refine lv_icmp_lt (tgt := 11) hx hb dX1_skip_2 (by decide) (fun c_2 => ?_) (fun c_2 => ?_)
  · refine lv_iconst (v := (-1)) hx hb dX1_skip_11 (by decide) ?_
    exact W.iret (v := (-1)) hx hb hr (fun z8 hz8 hW8 => ⟨⟨(-1), (O, k, T), rfl, Or.inl ⟨rfl, Or.inl c_2, rfl, rfl, rfl⟩, by rw [hz8]; exact hP, hD⟩, hS.F hz8⟩) hS.2.2 dX1_skip_12
  · refine lv_iload_n hx hb dX1_skip_5 rfl (lv_at hl 1 rfl) ?_
    refine lv_ldc (v := nI 100000) hx hb hown (hts (.constant RX1 48 (nI 100000)) (by decide +kernel)) dX1_skip_6 ?_
    refine lv_icmp_le (tgt := 13) hx hb dX1_skip_8 (by decide) (fun c_8 => ?_) (fun c_8 => ?_)
    · refine lv_iconst (v := nI 0) hx hb dX1_skip_13 (by decide) ?_
      refine lv_istore_n (lv' := [(2, .int (nI 0)), (0, .ref g0), (1, .int x)]) hx hb dX1_skip_14 rfl hl (by decide) rfl (fun ls hl => ?_)
      refine lv_iconst (v := nI 0) hx hb dX1_skip_15 (by decide) ?_
      refine lv_istore_n (lv' := [(3, .int (nI 0)), (2, .int (nI 0)), (0, .ref g0), (1, .int x)]) hx hb dX1_skip_16 rfl hl (by decide) rfl (fun ls hl => ?_)
      obtain ⟨n, hn1, hn2, rfl⟩ := dk_ticks c_2 c_8
      have loop : ∀ (f i : Nat) (O2 : Nat → Int64) (k2 : Nat), i ≤ n → n + 1 ≤ i + f → k2 ≤ 520 → dk_YS ((T + i) / 1000 - T / 1000) O mo mb k O2 k2 → ∀ (H : Heap) (locs : List Loc), va_P (dC, dI) vwCl [(g0, .inr (1, [.long (lN (T + i)), .ref a1, .int (nI k2), .ref a2, .ref a3, .int w, .ref a4])), (a1, .inl (i1, 200, .inr (.inl O2))), (a2, .inl (i2, 520, .inl mo)), (a3, .inl (i3, 520, .inr (.inl mb)))] H → va_D A [(g0, .inr (1, [.long (lN (T + i)), .ref a1, .int (nI k2), .ref a2, .ref a3, .int w, .ref a4])), (a1, .inl (i1, 200, .inr (.inl O2))), (a2, .inl (i2, 520, .inl mo)), (a3, .inl (i3, 520, .inr (.inl mb)))] → va_S A s.heap H locs → ∀ ls : Array Slot, lv_has ls 4 [(3, .int (nI i)), (2, .int (nI (dk_R (T + i) - dk_R T))), (0, .ref g0), (1, .int (nI n))] → W p l e (headSpec wsX1_skip ({ frames := 4, cells := 0, slots := 0, locals := 91 })).room s m ([.ref g0, .int (nI n)] : List Value).toArray below meth c H locs 0 0 (MQ below (va_Qi (fun (r : Int32) (u : (Nat → Int64) × Nat × Nat) => match u with | (O2, k2, T2) => (r = -1 ∧ (nI n < 1 ∨ nI 100000 < nI n) ∧ O2 = O ∧ k2 = k ∧ T2 = T) ∨ (∃ n1 : Nat, 1 ≤ n1 ∧ n1 ≤ 100000 ∧ nI n = nI n1 ∧ T2 = T + n1 ∧ dk_YS ((T + n1) / 1000 - T / 1000) O mo mb k O2 k2 ∧ r = nI (dk_R (T + n1) - dk_R T))) (fun (u : (Nat → Int64) × Nat × Nat) z8 => match u with | (O2, k2, T2) => dk_B (dC, dI) vwCl A [(g0, .inr (1, [.long (lN T2), .ref a1, .int (nI k2), .ref a2, .ref a3, .int w, .ref a4])), (a1, .inl (i1, 200, .inr (.inl O2))), (a2, .inl (i2, 520, .inl mo)), (a3, .inl (i3, 520, .inr (.inl mb)))] z8) A) ([.ref g0, .int (nI n)] : List Value).toArray s 0 0 A) (F0 m 17 ls []) := by
        intro f
        induction f with
        | zero => intro i O2 k2 h1 h2; exact absurd h2 (by omega)
        | succ f ih =>
          intro i O2 k2 hi hf hk2 hys H locs hP hD hS ls hl
          have hRl := dk_R_le T i
          have hRs := dk_R_s (T + i)
          have hpA := dk_pA_lt ((T + i + 1) % 1000)
          have hRb := dk_R_lt (T := T + i) (by omega)
          refine lv_iload_n hx hb dX1_skip_17 rfl (lv_at hl 0 rfl) ?_
          refine lv_iload_n hx hb dX1_skip_18 rfl (lv_at hl 3 rfl) ?_
          refine dk_icmp_ge (x := i) (y := n) (tgt := 37) hx hb dX1_skip_19 (by decide) (by omega) (by omega) (fun c_19 => ?_) (fun c_19 => ?_)
          · have e9 : i = n := by omega
            subst e9
            refine lv_iload_n hx hb dX1_skip_37 rfl (lv_at hl 1 rfl) ?_
            exact W.iret (v := nI (dk_R (T + i) - dk_R T)) hx hb hr (fun z8 hz8 hW8 => ⟨⟨(nI (dk_R (T + i) - dk_R T)), (O2, k2, T + i), rfl, Or.inr ⟨i, hn1, hn2, rfl, rfl, hys, rfl⟩, by rw [hz8]; exact hP, hD⟩, hS.F hz8⟩) hS.2.2 dX1_skip_38
          · refine lv_iload_n hx hb dX1_skip_22 rfl (lv_at hl 1 rfl) ?_
            refine lv_aload_n hx hb dX1_skip_23 rfl (lv_at hl 2 rfl) ?_
            have hPc := hP
            have hDc := hD
            have hFc := va_free (wc := [(g0, .inr (1, [.long (lN (T + i)), .ref a1, .int (nI k2), .ref a2, .ref a3, .int w, .ref a4])), (a1, .inl (i1, 200, .inr (.inl O2))), (a2, .inl (i2, 520, .inl mo)), (a3, .inl (i3, 520, .inr (.inl mb)))]) hD hS hA [0, 1, 2, 3] rfl
            have hKc := hK
            refine va_calli (va_runV (As := []) (rest := [.int (nI (dk_R (T + i) - dk_R T))]) ⟨hx, hb, hml, hown, hts⟩ (cY_pass l dC dI _ g0 a1 a2 a3 a4 i1 i2 i3 (T + i) (by omega) k2 hk2 w O2 mo mb) (cwV 0 hts gX1_skip_X1_pass rfl rfl rfl (by decide +kernel) ⟨Nat.le_of_ble_eq_true rfl, Nat.le_of_ble_eq_true rfl⟩) (dk_wV hPc hKc hDc (ci := 1) (q0 := 0) rfl rfl) rfl rfl hl.1 rfl (lv_room (Nat.le_of_ble_eq_true rfl)) dX1_skip_24 ⟨Nat.zero_le _, Nat.zero_le _⟩) hS (fun q _ h => hFc q h) hFc (fun r_24 u8 t8 H1 locs ht8 hvm8 hw hB hz1 hk1 hS => ?_)
            try dsimp only at hw
            obtain ⟨O3, k3⟩ := u8
            try dsimp only at hw hB
            obtain ⟨hP1, hD1⟩ := hB
            rw [ht8] at hP1
            obtain ⟨hP, hD⟩ := va_join (wr := []) (w1 := [(g0, .inr (1, [.long (lN (T + i + 1)), .ref a1, .int (nI k3), .ref a2, .ref a3, .int w, .ref a4])), (a1, .inl (i1, 200, .inr (.inl O3))), (a2, .inl (i2, 520, .inl mo)), (a3, .inl (i3, 520, .inr (.inl mb)))]) hP hD [0, 1, 2, 3] [] rfl rfl (by decide) (by decide) hk1 hFc hP1 hD1
            generalize H1 = H at hP hS ⊢
            have hP : va_P (dC, dI) vwCl [(g0, .inr (1, [.long (lN (T + i + 1)), .ref a1, .int (nI k3), .ref a2, .ref a3, .int w, .ref a4])), (a1, .inl (i1, 200, .inr (.inl O3))), (a2, .inl (i2, 520, .inl mo)), (a3, .inl (i3, 520, .inr (.inl mb)))] H := hP
            have hD : va_D A [(g0, .inr (1, [.long (lN (T + i + 1)), .ref a1, .int (nI k3), .ref a2, .ref a3, .int w, .ref a4])), (a1, .inl (i1, 200, .inr (.inl O3))), (a2, .inl (i2, 520, .inl mo)), (a3, .inl (i3, 520, .inr (.inl mb)))] := hD
            obtain ⟨rfl, hy2⟩ := hw
            refine lv_iconst (v := 1) hx hb dX1_skip_27 (by decide) ?_
            refine lv_iand hx hb dX1_skip_28 ?_
            refine dk_asi (y := nI (dk_pA ((T + i + 1) % 1000) % 2)) (pk_andN (m := 1) (by omega) 1 (by decide)) ?_
            refine lv_iadd hx hb dX1_skip_29 ?_
            refine dk_asi (y := nI ((dk_R (T + i) - dk_R T) + (dk_pA ((T + i + 1) % 1000) % 2))) (nI_add (dk_R (T + i) - dk_R T) (dk_pA ((T + i + 1) % 1000) % 2)) ?_
            refine lv_istore_n (lv' := [(2, .int (nI ((dk_R (T + i) - dk_R T) + (dk_pA ((T + i + 1) % 1000) % 2)))), (3, .int (nI i)), (0, .ref g0), (1, .int (nI n))]) hx hb dX1_skip_30 rfl hl (by decide) rfl (fun ls hl => ?_)
            refine lv_iinc (v := nI (i + 1)) (lv' := [(3, .int (nI (i + 1))), (2, .int (nI ((dk_R (T + i) - dk_R T) + (dk_pA ((T + i + 1) % 1000) % 2)))), (0, .ref g0), (1, .int (nI n))]) hx hb dX1_skip_31 hl (k := 1) rfl (by rw [show Int32.ofInt 1 = nI 1 from by decide]; exact nI_add i 1) (by decide) rfl (fun ls hl => ?_)
            refine lv_goto (tgt := 17) hx hb dX1_skip_34 (by decide) ?_
            have e9 : dk_R (T + i) - dk_R T + dk_pA ((T + i + 1) % 1000) % 2 = dk_R (T + (i + 1)) - dk_R T := by rw [← Nat.add_assoc]; omega
            rw [e9] at hl
            have hy3 := dk_YS_s hys hy2
            rw [show (T + i) / 1000 - T / 1000 + ((T + i + 1) / 1000 - (T + i) / 1000) = (T + (i + 1)) / 1000 - T / 1000 from by omega] at hy3
            exact ih (i + 1) O3 k3 (by omega) (by omega) (by rcases hy2 with h | h <;> omega) hy3 _ _ hP hD hS ls (lv_sub hl [0, 1, 2, 3] rfl)
      exact loop (n + 1) 0 O k (by omega) (by omega) hk9 (Or.inl ⟨by rw [Nat.add_zero]; omega, rfl, rfl⟩) _ _ hP hD hS ls (by rw [Nat.add_zero, Nat.sub_self]; exact lv_sub hl [0, 1, 2, 3] rfl)
    · refine lv_iconst (v := (-1)) hx hb dX1_skip_11 (by decide) ?_
      exact W.iret (v := (-1)) hx hb hr (fun z8 hz8 hW8 => ⟨⟨(-1), (O, k, T), rfl, Or.inl ⟨rfl, Or.inr (dk_inle c_8), rfl, rfl, rfl⟩, by rw [hz8]; exact hP, hD⟩, hS.F hz8⟩) hS.2.2 dX1_skip_12
