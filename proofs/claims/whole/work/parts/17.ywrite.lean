set_option maxHeartbeats 4000000 in
set_option maxRecDepth 100000 in
/-- put -/
theorem cY_put (l : Launch) (dC : Nat → ClassId) (dI : Nat → Nat → Nat) (sz : Nat) (g0 a1 a2 a3 a4 : Nat) (i4 : ClassId) (TT : Int64) (kk : Int32) (n : Nat) (hn9 : n < 104) (tx : Nat → Int32) (ch : Nat) : Met l yX1_put wsX1_put ({ frames := 0, cells := 0, slots := 0, locals := 0 }) (dk_Pw [.ref g0, .int (nI ch)] (dC, dI) vwCl [(i4, .int)] [(g0, .inr (1, [.long TT, .ref a1, .int kk, .ref a2, .ref a3, .int (nI n), .ref a4])), (a4, .inl (i4, 120, .inl tx))] sz) (va_Qv (fun (_ : Unit) => True) (fun (_ : Unit) z8 => dk_B (dC, dI) vwCl (va_A [(g0, .inr (1, [.long TT, .ref a1, .int kk, .ref a2, .ref a3, .int (nI n), .ref a4])), (a4, .inl (i4, 120, .inl tx))] sz) [(g0, .inr (1, [.long TT, .ref a1, .int kk, .ref a2, .ref a3, .int (nI (n + 1)), .ref a4])), (a4, .inl (i4, 120, .inl (upd tx n (nI ch))))] z8) (va_A [(g0, .inr (1, [.long TT, .ref a1, .int kk, .ref a2, .ref a3, .int (nI n), .ref a4])), (a4, .inl (i4, 120, .inl tx))] sz)) 0 0 (va_A [(g0, .inr (1, [.long TT, .ref a1, .int kk, .ref a2, .ref a3, .int (nI n), .ref a4])), (a4, .inl (i4, 120, .inl tx))] sz) := by
  refine Met.ofW (cc := cX1_put) (maxL := 2) (ret := none) (by decide) rfl ?_
  intro p e s m args below meth c s₁ B hml hv
  obtain ⟨rfl, hsz, hP, hK, hD0⟩ := hv
  have hx := B.exec
  have hb := B.bytes
  have hr := B.returns
  have hts := atoms_spec (ws := wsX1_put) B.pre
  have hown : s.vm.findClass RX1 = some m.cls := findClass_of_methodNamed B.named
  have hlocks := B.notSynchronized
  have hinX1 : ∀ w ∈ wsX10, w ∈ wsX1_put := by decide +kernel
  subst hsz
  have hD := hD0.self (sz := s.heap.size)
  generalize hAe : va_A [(g0, .inr (1, [.long TT, .ref a1, .int kk, .ref a2, .ref a3, .int (nI n), .ref a4])), (a4, .inl (i4, 120, .inl tx))] s.heap.size = A at hD ⊢
  have hA : ∀ q : Nat, s.heap.size ≤ q → A q := fun q h => by rw [← hAe]; exact Or.inr h
  have hS : va_S A s.heap s.heap [] := va_S.rf
  have hl := lv_entry ([.ref g0, .int (nI ch)]) (n := 2) (Nat.le_of_ble_eq_true rfl)
  rw [lg_entry_eq]
  generalize (lg_sl ([.ref g0, .int (nI ch)]) ++ List.replicate (2 - (lg_sl ([.ref g0, .int (nI ch)])).length) Slot.unset).toArray = ls at hl ⊢
  have hl : lv_has ls 2 [(0, .ref g0), (1, .int (nI ch))] := hl
  refine lv_aload_n hx hb dX1_put_0 rfl (lv_at hl 0 rfl) ?_
  refine va_get (D := (dC, dI)) (ci := 1) (v := .ref a4) (C := RX1) (T := TX1) (N := 7) hx hb hts hinX1 hown hK hP 0 rfl rfl 6 (by decide) (hts (.fieldLink RX1 20 "DayDeskModel" "text" "[I") (by decide +kernel)) (fun _ h9 => h9) rfl dX1_put_1 ?_
  refine lv_aload_n hx hb dX1_put_4 rfl (lv_at hl 0 rfl) ?_
  refine va_get (D := (dC, dI)) (ci := 1) (v := .int (nI n)) (C := RX1) (T := TX1) (N := 7) hx hb hts hinX1 hown hK hP 0 rfl rfl 5 (by decide) (hts (.fieldLink RX1 71 "DayDeskModel" "written" "I") (by decide +kernel)) (fun _ h9 => h9) rfl dX1_put_5 ?_
  refine lv_iload_n hx hb dX1_put_8 rfl (lv_at hl 1 rfl) ?_
  refine dk_iast hx hb hK hP hD hS 1 0 rfl rfl (j := n) (by omega) (by omega) dX1_put_9 (fun H locs hP hD hS => ?_)
  have hP : va_P (dC, dI) vwCl [(g0, .inr (1, [.long TT, .ref a1, .int kk, .ref a2, .ref a3, .int (nI n), .ref a4])), (a4, .inl (i4, 120, .inl (upd tx n (nI ch))))] H := hP
  have hD : va_D A [(g0, .inr (1, [.long TT, .ref a1, .int kk, .ref a2, .ref a3, .int (nI n), .ref a4])), (a4, .inl (i4, 120, .inl (upd tx n (nI ch))))] := hD
  refine lv_aload_n hx hb dX1_put_10 rfl (lv_at hl 0 rfl) ?_
  refine lv_dup hx hb dX1_put_11 rfl ?_
  refine va_get (D := (dC, dI)) (ci := 1) (v := .int (nI n)) (C := RX1) (T := TX1) (N := 7) hx hb hts hinX1 hown hK hP 0 rfl rfl 5 (by decide) (hts (.fieldLink RX1 71 "DayDeskModel" "written" "I") (by decide +kernel)) (fun _ h9 => h9) rfl dX1_put_12 ?_
  refine lv_iconst (v := 1) hx hb dX1_put_15 (by decide) ?_
  refine lv_iadd hx hb dX1_put_16 ?_
  refine dk_asi (y := nI (n + 1)) (nI_add n 1) ?_
  refine va_put (D := (dC, dI)) (ci := 1) (v := .int (nI (n + 1))) (ty := .int) (C := RX1) (T := TX1) (N := 7) hx hb hts hinX1 tyX1 tyX1_ok nmX1 hown hK hP hD hS 0 rfl rfl 5 (by decide) (hts (.fieldLink RX1 71 "DayDeskModel" "written" "I") (by decide +kernel)) (fun _ h9 => h9) rfl (by decide +kernel) rfl rfl (Nat.le_of_ble_eq_true rfl) dX1_put_17 (fun H locs hP hD hS => ?_)
  have hP : va_P (dC, dI) vwCl [(g0, .inr (1, [.long TT, .ref a1, .int kk, .ref a2, .ref a3, .int (nI (n + 1)), .ref a4])), (a4, .inl (i4, 120, .inl (upd tx n (nI ch))))] H := hP
  have hD : va_D A [(g0, .inr (1, [.long TT, .ref a1, .int kk, .ref a2, .ref a3, .int (nI (n + 1)), .ref a4])), (a4, .inl (i4, 120, .inl (upd tx n (nI ch))))] := hD
  exact W.vret hx hb hr (fun z8 hz8 hW8 => ⟨⟨(), rfl, trivial, by rw [hz8]; exact hP, hD⟩, hS.F hz8⟩) hS.2.2 dX1_put_20
set_option maxHeartbeats 4000000 in
set_option maxRecDepth 100000 in
/-- number -/
theorem cY_number (l : Launch) (dC : Nat → ClassId) (dI : Nat → Nat → Nat) (sz : Nat) (g0 a1 a2 a3 a4 : Nat) (i4 : ClassId) (TT : Int64) (kk : Int32) (n : Nat) (tx : Nat → Int32) (v : Int64) (hn9 : n + (dk_num v).length ≤ 104) : Met l yX1_number wsX1_number ({ frames := 1, cells := 0, slots := 0, locals := 21 }) (dk_Pw [.ref g0, .long v] (dC, dI) vwCl [(i4, .int)] [(g0, .inr (1, [.long TT, .ref a1, .int kk, .ref a2, .ref a3, .int (nI n), .ref a4])), (a4, .inl (i4, 120, .inl tx))] sz) (va_Qv (fun (_ : Unit) => True) (fun (_ : Unit) z8 => dk_B (dC, dI) vwCl (va_A [(g0, .inr (1, [.long TT, .ref a1, .int kk, .ref a2, .ref a3, .int (nI n), .ref a4])), (a4, .inl (i4, 120, .inl tx))] sz) [(g0, .inr (1, [.long TT, .ref a1, .int kk, .ref a2, .ref a3, .int (nI (n + (dk_num v).length)), .ref a4])), (a4, .inl (i4, 120, .inl (dk_ap tx n (dk_num v))))] z8) (va_A [(g0, .inr (1, [.long TT, .ref a1, .int kk, .ref a2, .ref a3, .int (nI n), .ref a4])), (a4, .inl (i4, 120, .inl tx))] sz)) 0 0 (va_A [(g0, .inr (1, [.long TT, .ref a1, .int kk, .ref a2, .ref a3, .int (nI n), .ref a4])), (a4, .inl (i4, 120, .inl tx))] sz) := by
  refine Met.ofW (cc := cX1_number) (maxL := 9) (ret := none) (by decide) rfl ?_
  intro p e s m args below meth c s₁ B hml hv
  obtain ⟨rfl, hsz, hP, hK, hD0⟩ := hv
  have hx := B.exec
  have hb := B.bytes
  have hr := B.returns
  have hts := atoms_spec (ws := wsX1_number) B.pre
  have hown : s.vm.findClass RX1 = some m.cls := findClass_of_methodNamed B.named
  have hlocks := B.notSynchronized
  subst hsz
  have hD := hD0.self (sz := s.heap.size)
  generalize hAe : va_A [(g0, .inr (1, [.long TT, .ref a1, .int kk, .ref a2, .ref a3, .int (nI n), .ref a4])), (a4, .inl (i4, 120, .inl tx))] s.heap.size = A at hD ⊢
  have hA : ∀ q : Nat, s.heap.size ≤ q → A q := fun q h => by rw [← hAe]; exact Or.inr h
  have hS : va_S A s.heap s.heap [] := va_S.rf
  have hl := lv_entry ([.ref g0, .long v]) (n := 9) (Nat.le_of_ble_eq_true rfl)
  rw [lg_entry_eq]
  generalize (lg_sl ([.ref g0, .long v]) ++ List.replicate (9 - (lg_sl ([.ref g0, .long v])).length) Slot.unset).toArray = ls at hl ⊢
  have hl : lv_has ls 9 [(0, .ref g0), (1, .long v)] := hl
  obtain ⟨z, hz⟩ : ∃ z : Nat, z = v.toInt.natAbs := ⟨_, rfl⟩
  have hz19 : z < 10 ^ 19 := by rw [hz]; exact dk_z19 v
  obtain ⟨FL, hFL⟩ : ∃ FL : Nat → Int32, FL = dk_ap tx n (dk_num v) := ⟨_, rfl⟩
  obtain ⟨NN, hNN⟩ : ∃ NN : Nat, NN = n + (dk_num v).length := ⟨_, rfl⟩
  have inner : ∀ (D q i : Nat) (f : Nat → Int32) (H : Heap) (locs : List Loc), q < 19 → va_P (dC, dI) vwCl [(g0, .inr (1, [.long TT, .ref a1, .int kk, .ref a2, .ref a3, .int (nI i), .ref a4])), (a4, .inl (i4, 120, .inl f))] H → va_D A [(g0, .inr (1, [.long TT, .ref a1, .int kk, .ref a2, .ref a3, .int (nI i), .ref a4])), (a4, .inl (i4, 120, .inl f))] → va_S A s.heap H locs → (∀ (rs : Int64) (ls : Array Slot), rs.toInt.natAbs = z / 10 ^ q → lv_has ls 9 [(7, .int (nI q)), (5, .long rs), (4, .int (nI q)), (3, .int (nI D)), (0, .ref g0), (1, .long v)] → W p l e (headSpec wsX1_number ({ frames := 1, cells := 0, slots := 0, locals := 21 })).room s m ([.ref g0, .long v] : List Value).toArray below meth c H locs 0 0 (MQ below (va_Qv (fun (_ : Unit) => True) (fun (_ : Unit) z8 => dk_B (dC, dI) vwCl A [(g0, .inr (1, [.long TT, .ref a1, .int kk, .ref a2, .ref a3, .int (nI (n + (dk_num v).length)), .ref a4])), (a4, .inl (i4, 120, .inl (dk_ap tx n (dk_num v))))] z8) A) ([.ref g0, .long v] : List Value).toArray s 0 0 A) (F0 m 79 ls [])) → ∀ (g b : Nat) (rs : Int64) (ls : Array Slot), b ≤ q → q + 1 ≤ b + g → rs.toInt.natAbs = z / 10 ^ b → lv_has ls 9 [(7, .int (nI b)), (5, .long rs), (4, .int (nI q)), (3, .int (nI D)), (0, .ref g0), (1, .long v)] → W p l e (headSpec wsX1_number ({ frames := 1, cells := 0, slots := 0, locals := 21 })).room s m ([.ref g0, .long v] : List Value).toArray below meth c H locs 0 0 (MQ below (va_Qv (fun (_ : Unit) => True) (fun (_ : Unit) z8 => dk_B (dC, dI) vwCl A [(g0, .inr (1, [.long TT, .ref a1, .int kk, .ref a2, .ref a3, .int (nI (n + (dk_num v).length)), .ref a4])), (a4, .inl (i4, 120, .inl (dk_ap tx n (dk_num v))))] z8) A) ([.ref g0, .long v] : List Value).toArray s 0 0 A) (F0 m 58 ls []) := by
    intro D q i f H locs hq hP hD hS kk9 g
    induction g with
    | zero => intro b rs ls h1 h2; exact absurd h2 (by omega)
    | succ g ih =>
      intro b rs ls hb9 hg hrs hl
      refine lv_iload hx hb dX1_number_58 (lv_at hl 0 rfl) ?_
      refine lv_iload hx hb dX1_number_60 (lv_at hl 2 rfl) ?_
      refine dk_icmp_ge (x := b) (y := q) (tgt := 79) hx hb dX1_number_62 (by decide) (by omega) (by omega) (fun c_62 => ?_) (fun c_62 => ?_)
      · have e9 : b = q := by omega
        subst e9
        exact kk9 rs ls hrs hl
      · refine lv_lload hx hb dX1_number_65 (lv_at hl 1 rfl) ?_
        refine lv_ldc2 (v := lN 10) hx hb hown (hts (.constantLong RX1 78 (lN 10)) (by decide +kernel)) dX1_number_67 ?_
        refine lv_ldiv hx hb dX1_number_70 (by decide) ?_
        refine lv_lstore (lv' := [(5, .long (rs / (lN 10))), (7, .int (nI b)), (4, .int (nI q)), (3, .int (nI D)), (0, .ref g0), (1, .long v)]) hx hb dX1_number_71 hl (by decide) rfl (fun ls hl => ?_)
        refine lv_iinc (v := nI (b + 1)) (lv' := [(7, .int (nI (b + 1))), (5, .long (rs / (lN 10))), (4, .int (nI q)), (3, .int (nI D)), (0, .ref g0), (1, .long v)]) hx hb dX1_number_73 hl (k := 1) rfl (by rw [show Int32.ofInt 1 = nI 1 from by decide]; exact nI_add b 1) (by decide) rfl (fun ls hl => ?_)
        refine lv_goto (tgt := 58) hx hb dX1_number_76 (by decide) ?_
        exact ih (b + 1) (rs / lN 10) ls (by omega) (by omega) (by rw [dk_dv, hrs, dk_divs]) (lv_sub hl [0, 1, 2, 3, 4, 5] rfl)
  have outer : ∀ (D q i : Nat) (f : Nat → Int32), q ≤ 19 → i + (dk_dd q z).length = NN → NN ≤ 104 → dk_ap f i (dk_dd q z) = FL → ∀ (H : Heap) (locs : List Loc), va_P (dC, dI) vwCl [(g0, .inr (1, [.long TT, .ref a1, .int kk, .ref a2, .ref a3, .int (nI i), .ref a4])), (a4, .inl (i4, 120, .inl f))] H → va_D A [(g0, .inr (1, [.long TT, .ref a1, .int kk, .ref a2, .ref a3, .int (nI i), .ref a4])), (a4, .inl (i4, 120, .inl f))] → va_S A s.heap H locs → ∀ ls : Array Slot, lv_has ls 9 [(4, .int (nI q + (-1))), (3, .int (nI D)), (0, .ref g0), (1, .long v)] → W p l e (headSpec wsX1_number ({ frames := 1, cells := 0, slots := 0, locals := 21 })).room s m ([.ref g0, .long v] : List Value).toArray below meth c H locs 0 0 (MQ below (va_Qv (fun (_ : Unit) => True) (fun (_ : Unit) z8 => dk_B (dC, dI) vwCl A [(g0, .inr (1, [.long TT, .ref a1, .int kk, .ref a2, .ref a3, .int (nI (n + (dk_num v).length)), .ref a4])), (a4, .inl (i4, 120, .inl (dk_ap tx n (dk_num v))))] z8) A) ([.ref g0, .long v] : List Value).toArray s 0 0 A) (F0 m 47 ls []) := by
    intro D q
    induction q with
    | zero =>
      intro i f hq hlen h104 hap H locs hP hD hS ls hl
      refine lv_iload hx hb dX1_number_47 (lv_at hl 0 rfl) ?_
      refine lv_if_lt (tgt := 116) hx hb dX1_number_49 (by decide) (fun c_49 => ?_) (fun c_49 => ?_)
      · have e1 : i = n + (dk_num v).length := by rw [dk_dd_len] at hlen; omega
        have e2 : f = dk_ap tx n (dk_num v) := by rw [← hFL, ← hap]; rfl
        rw [e1, e2] at hP hD
        exact W.vret hx hb hr (fun z8 hz8 hW8 => ⟨⟨(), rfl, trivial, by rw [hz8]; exact hP, hD⟩, hS.F hz8⟩) hS.2.2 dX1_number_116
      · exact absurd (by decide) c_49
    | succ q ih =>
      intro i f hq hlen h104 hap H locs hP hD hS ls hl
      rw [pk_m1] at hl
      have hl2 := dk_dd_len q z
      rw [dk_dd_len] at hlen
      have hdig : dk_dd (q + 1) z = (48 + z / 10 ^ q % 10) :: dk_dd q z := rfl
      rw [hdig, dk_ap_cons] at hap
      refine lv_iload hx hb dX1_number_47 (lv_at hl 0 rfl) ?_
      refine dk_if_lt (x := q) (tgt := 116) hx hb dX1_number_49 (by decide) (by omega) ?_
      refine lv_lload_n hx hb dX1_number_52 rfl (lv_at hl 3 rfl) ?_
      refine lv_lstore (lv' := [(5, .long v), (4, .int (nI q)), (3, .int (nI D)), (0, .ref g0), (1, .long v)]) hx hb dX1_number_53 hl (by decide) rfl (fun ls hl => ?_)
      refine lv_iconst (v := nI 0) hx hb dX1_number_55 (by decide) ?_
      refine lv_istore (lv' := [(7, .int (nI 0)), (5, .long v), (4, .int (nI q)), (3, .int (nI D)), (0, .ref g0), (1, .long v)]) hx hb dX1_number_56 hl (by decide) rfl (fun ls hl => ?_)
      refine inner D q i f H locs (by omega) hP hD hS (fun rs ls hrs hl => ?_) (q + 1) 0 v ls (by omega) (by omega) (by rw [Nat.pow_zero, Nat.div_one, hz]) (lv_sub hl [0, 1, 2, 3, 4, 5] rfl)
      have hdg := dk_rm rs
      rw [hrs] at hdg
      obtain ⟨dg, hdg9⟩ : ∃ dg : Int64, dg = rs - rs / lN 10 * lN 10 := ⟨_, rfl⟩
      rw [← hdg9] at hdg
      refine lv_lload hx hb dX1_number_79 (lv_at hl 1 rfl) ?_
      refine lv_ldc2 (v := lN 10) hx hb hown (hts (.constantLong RX1 78 (lN 10)) (by decide +kernel)) dX1_number_81 ?_
      refine lv_lrem hx hb dX1_number_84 (by decide) ?_
      refine dk_asl (y := dg) (hdg9.symm) ?_
      refine lv_lstore (lv' := [(7, .long dg), (5, .long rs), (4, .int (nI q)), (3, .int (nI D)), (0, .ref g0), (1, .long v)]) hx hb dX1_number_85 hl (by decide) rfl (fun ls hl => ?_)
      refine lv_aload_n hx hb dX1_number_87 rfl (lv_at hl 4 rfl) ?_
      refine lv_bipush (v := nI 48) hx hb dX1_number_88 (by decide) ?_
      refine lv_lload hx hb dX1_number_90 (lv_at hl 0 rfl) ?_
      refine lv_lconst (v := 0) hx hb dX1_number_92 (by decide) ?_
      refine W.lcmp hx hb dX1_number_93 ?_
      refine lv_if_ge (tgt := 103) hx hb dX1_number_94 (by decide) (fun c_94 => ?_) (fun c_94 => ?_)
      · have c_94 : (0 : Int64) ≤ dg := (lg_cmp_ge _ _).mp c_94
        refine lv_lload hx hb dX1_number_103 (lv_at hl 0 rfl) ?_
        refine dk_asl (y := lN (z / 10 ^ q % 10)) (dk_abs0 hdg (by omega) c_94) ?_
        refine lv_l2i (v := (lN (z / 10 ^ q % 10)).toInt32) hx hb dX1_number_105 rfl ?_
        refine dk_asi (y := nI (z / 10 ^ q % 10)) (lN_i _) ?_
        refine lv_iadd hx hb dX1_number_106 ?_
        refine dk_asi (y := nI (48 + (z / 10 ^ q % 10))) (nI_add 48 (z / 10 ^ q % 10)) ?_
        have hPc := hP
        have hDc := hD
        have hFc := va_free (wc := [(g0, .inr (1, [.long TT, .ref a1, .int kk, .ref a2, .ref a3, .int (nI i), .ref a4])), (a4, .inl (i4, 120, .inl f))]) hD hS hA [0, 1] rfl
        have hKc := hK
        refine va_callv (va_runV (As := [.int (nI (48 + (z / 10 ^ q % 10)))]) (rest := []) ⟨hx, hb, hml, hown, hts⟩ (cY_put l dC dI _ g0 a1 a2 a3 a4 i4 TT kk i (by omega) f (48 + z / 10 ^ q % 10)) (cwV 1 hts gX1_number_X1_put rfl rfl rfl (by decide +kernel) ⟨Nat.le_of_ble_eq_true rfl, Nat.le_of_ble_eq_true rfl⟩) (dk_wV hPc hKc hDc (ci := 1) (q0 := 0) rfl rfl) rfl rfl hl.1 rfl (lv_room (Nat.le_of_ble_eq_true rfl)) dX1_number_107 ⟨Nat.zero_le _, Nat.zero_le _⟩) hS (fun q _ h => hFc q h) hFc (fun u8 t8 H1 locs ht8 hvm8 hw hB hz1 hk1 hS => ?_)
        try dsimp only at hw
        obtain ⟨hP1, hD1⟩ := hB
        rw [ht8] at hP1
        obtain ⟨hP, hD⟩ := va_join (wr := []) (w1 := [(g0, .inr (1, [.long TT, .ref a1, .int kk, .ref a2, .ref a3, .int (nI (i + 1)), .ref a4])), (a4, .inl (i4, 120, .inl (upd f i (nI (48 + z / 10 ^ q % 10)))))]) hP hD [0, 1] [] rfl rfl (by decide) (by decide) hk1 hFc hP1 hD1
        generalize H1 = H at hP hS ⊢
        have hP : va_P (dC, dI) vwCl [(g0, .inr (1, [.long TT, .ref a1, .int kk, .ref a2, .ref a3, .int (nI (i + 1)), .ref a4])), (a4, .inl (i4, 120, .inl (upd f i (nI (48 + z / 10 ^ q % 10)))))] H := hP
        have hD : va_D A [(g0, .inr (1, [.long TT, .ref a1, .int kk, .ref a2, .ref a3, .int (nI (i + 1)), .ref a4])), (a4, .inl (i4, 120, .inl (upd f i (nI (48 + z / 10 ^ q % 10)))))] := hD
        refine lv_iinc (v := (nI q) + (-1)) (lv' := [(4, .int ((nI q) + (-1))), (7, .long dg), (5, .long rs), (3, .int (nI D)), (0, .ref g0), (1, .long v)]) hx hb dX1_number_110 hl (k := 2) rfl (rfl) (by decide) rfl (fun ls hl => ?_)
        refine lv_goto (tgt := 47) hx hb dX1_number_113 (by decide) ?_
        exact ih (i + 1) (upd f i (nI (48 + z / 10 ^ q % 10))) (by omega) (by omega) h104 hap _ _ hP hD hS ls (lv_sub hl [0, 3, 4, 5] rfl)
      · have c_94 : ¬ ((0 : Int64) ≤ dg) := fun q9 => c_94 ((lg_cmp_ge _ _).mpr q9)
        refine lv_lload hx hb dX1_number_97 (lv_at hl 0 rfl) ?_
        refine lv_lneg hx hb dX1_number_99 ?_
        refine lv_goto (tgt := 105) hx hb dX1_number_100 (by decide) ?_
        refine dk_asl (y := lN (z / 10 ^ q % 10)) (dk_abs1 hdg (by omega) c_94) ?_
        refine lv_l2i (v := (lN (z / 10 ^ q % 10)).toInt32) hx hb dX1_number_105 rfl ?_
        refine dk_asi (y := nI (z / 10 ^ q % 10)) (lN_i _) ?_
        refine lv_iadd hx hb dX1_number_106 ?_
        refine dk_asi (y := nI (48 + (z / 10 ^ q % 10))) (nI_add 48 (z / 10 ^ q % 10)) ?_
        have hPc := hP
        have hDc := hD
        have hFc := va_free (wc := [(g0, .inr (1, [.long TT, .ref a1, .int kk, .ref a2, .ref a3, .int (nI i), .ref a4])), (a4, .inl (i4, 120, .inl f))]) hD hS hA [0, 1] rfl
        have hKc := hK
        refine va_callv (va_runV (As := [.int (nI (48 + (z / 10 ^ q % 10)))]) (rest := []) ⟨hx, hb, hml, hown, hts⟩ (cY_put l dC dI _ g0 a1 a2 a3 a4 i4 TT kk i (by omega) f (48 + z / 10 ^ q % 10)) (cwV 1 hts gX1_number_X1_put rfl rfl rfl (by decide +kernel) ⟨Nat.le_of_ble_eq_true rfl, Nat.le_of_ble_eq_true rfl⟩) (dk_wV hPc hKc hDc (ci := 1) (q0 := 0) rfl rfl) rfl rfl hl.1 rfl (lv_room (Nat.le_of_ble_eq_true rfl)) dX1_number_107 ⟨Nat.zero_le _, Nat.zero_le _⟩) hS (fun q _ h => hFc q h) hFc (fun u8 t8 H1 locs ht8 hvm8 hw hB hz1 hk1 hS => ?_)
        try dsimp only at hw
        obtain ⟨hP1, hD1⟩ := hB
        rw [ht8] at hP1
        obtain ⟨hP, hD⟩ := va_join (wr := []) (w1 := [(g0, .inr (1, [.long TT, .ref a1, .int kk, .ref a2, .ref a3, .int (nI (i + 1)), .ref a4])), (a4, .inl (i4, 120, .inl (upd f i (nI (48 + z / 10 ^ q % 10)))))]) hP hD [0, 1] [] rfl rfl (by decide) (by decide) hk1 hFc hP1 hD1
        generalize H1 = H at hP hS ⊢
        have hP : va_P (dC, dI) vwCl [(g0, .inr (1, [.long TT, .ref a1, .int kk, .ref a2, .ref a3, .int (nI (i + 1)), .ref a4])), (a4, .inl (i4, 120, .inl (upd f i (nI (48 + z / 10 ^ q % 10)))))] H := hP
        have hD : va_D A [(g0, .inr (1, [.long TT, .ref a1, .int kk, .ref a2, .ref a3, .int (nI (i + 1)), .ref a4])), (a4, .inl (i4, 120, .inl (upd f i (nI (48 + z / 10 ^ q % 10)))))] := hD
        refine lv_iinc (v := (nI q) + (-1)) (lv' := [(4, .int ((nI q) + (-1))), (7, .long dg), (5, .long rs), (3, .int (nI D)), (0, .ref g0), (1, .long v)]) hx hb dX1_number_110 hl (k := 2) rfl (rfl) (by decide) rfl (fun ls hl => ?_)
        refine lv_goto (tgt := 47) hx hb dX1_number_113 (by decide) ?_
        exact ih (i + 1) (upd f i (nI (48 + z / 10 ^ q % 10))) (by omega) (by omega) h104 hap _ _ hP hD hS ls (lv_sub hl [0, 3, 4, 5] rfl)
  have count : ∀ (i : Nat) (f : Nat → Int32) (H : Heap) (locs : List Loc), va_P (dC, dI) vwCl [(g0, .inr (1, [.long TT, .ref a1, .int kk, .ref a2, .ref a3, .int (nI i), .ref a4])), (a4, .inl (i4, 120, .inl f))] H → va_D A [(g0, .inr (1, [.long TT, .ref a1, .int kk, .ref a2, .ref a3, .int (nI i), .ref a4])), (a4, .inl (i4, 120, .inl f))] → va_S A s.heap H locs → i + (dk_dg 18 z).length = NN → NN ≤ 104 → dk_ap f i (dk_dg 18 z) = FL → ∀ (g D : Nat) (rs : Int64) (ls : Array Slot), 1 ≤ D → 20 ≤ D + g → D ≤ 19 → (D = 1 ∨ 10 ^ (D - 1) ≤ z) → rs.toInt.natAbs = z / 10 ^ D → lv_has ls 9 [(4, .long rs), (3, .int (nI D)), (0, .ref g0), (1, .long v)] → W p l e (headSpec wsX1_number ({ frames := 1, cells := 0, slots := 0, locals := 21 })).room s m ([.ref g0, .long v] : List Value).toArray below meth c H locs 0 0 (MQ below (va_Qv (fun (_ : Unit) => True) (fun (_ : Unit) z8 => dk_B (dC, dI) vwCl A [(g0, .inr (1, [.long TT, .ref a1, .int kk, .ref a2, .ref a3, .int (nI (n + (dk_num v).length)), .ref a4])), (a4, .inl (i4, 120, .inl (dk_ap tx n (dk_num v))))] z8) A) ([.ref g0, .long v] : List Value).toArray s 0 0 A) (F0 m 21 ls []) := by
    intro i f H locs hP hD hS hlen h104 hap g
    induction g with
    | zero => intro D rs ls h1 h2 h3; exact absurd h2 (by omega)
    | succ g ih =>
      intro D rs ls h1 hg h19 hge hrs hl
      refine lv_lload hx hb dX1_number_21 (lv_at hl 0 rfl) ?_
      refine lv_lconst (v := 0) hx hb dX1_number_23 (by decide) ?_
      refine W.lcmp hx hb dX1_number_24 ?_
      refine lv_if_eq (tgt := 42) hx hb dX1_number_25 (by decide) (fun c_25 => ?_) (fun c_25 => ?_)
      · have c_25 : rs = (0 : Int64) := (lg_cmp_eq _ _).mp c_25
        have hlt : z < 10 ^ D := dk_div0.mp (by rw [← hrs]; exact dk_z0.mp c_25)
        have hDD := dk_dg_D h1 h19 hge hlt
        rw [hDD] at hlen hap
        refine lv_iload_n hx hb dX1_number_42 rfl (lv_at hl 1 rfl) ?_
        refine lv_iconst (v := 1) hx hb dX1_number_43 (by decide) ?_
        refine lv_isub hx hb dX1_number_44 ?_
        refine dk_asi (y := nI D + (-1)) (dk_sm1 h1) ?_
        refine lv_istore (lv' := [(4, .int (nI D + (-1))), (3, .int (nI D)), (0, .ref g0), (1, .long v)]) hx hb dX1_number_45 hl (by decide) rfl (fun ls hl => ?_)
        exact outer D D i f h19 hlen h104 hap H locs hP hD hS ls (lv_sub hl [0, 1, 2, 3] rfl)
      · have c_25 : ¬ (rs = (0 : Int64)) := fun q9 => c_25 ((lg_cmp_eq _ _).mpr q9)
        refine lv_iinc (v := nI (D + 1)) (lv' := [(3, .int (nI (D + 1))), (4, .long rs), (0, .ref g0), (1, .long v)]) hx hb dX1_number_28 hl (k := 1) rfl (by rw [show Int32.ofInt 1 = nI 1 from by decide]; exact nI_add D 1) (by decide) rfl (fun ls hl => ?_)
        refine lv_lload hx hb dX1_number_31 (lv_at hl 1 rfl) ?_
        refine lv_ldc2 (v := lN 10) hx hb hown (hts (.constantLong RX1 78 (lN 10)) (by decide +kernel)) dX1_number_33 ?_
        refine lv_ldiv hx hb dX1_number_36 (by decide) ?_
        refine lv_lstore (lv' := [(4, .long (rs / (lN 10))), (3, .int (nI (D + 1))), (0, .ref g0), (1, .long v)]) hx hb dX1_number_37 hl (by decide) rfl (fun ls hl => ?_)
        refine lv_goto (tgt := 21) hx hb dX1_number_39 (by decide) ?_
        have hge2 : 10 ^ D ≤ z := Nat.le_of_not_lt fun q9 => c_25 (dk_z0.mpr (by rw [hrs]; exact dk_div0.mpr q9))
        have h18 : D ≤ 18 := dk_18 hge2 hz19 h19
        exact ih (D + 1) (rs / lN 10) ls (by omega) (by omega) (by omega) (Or.inr hge2) (by rw [dk_dv, hrs, dk_divs]) (lv_sub hl [0, 1, 2, 3] rfl)
  refine lv_lload_n hx hb dX1_number_0 rfl (lv_at hl 1 rfl) ?_
  refine lv_lconst (v := 0) hx hb dX1_number_1 (by decide) ?_
  refine W.lcmp hx hb dX1_number_2 ?_
  refine lv_if_ge (tgt := 12) hx hb dX1_number_3 (by decide) (fun c_3 => ?_) (fun c_3 => ?_)
  · have c_3 : (0 : Int64) ≤ v := (lg_cmp_ge _ _).mp c_3
    refine lv_iconst (v := nI 1) hx hb dX1_number_12 (by decide) ?_
    refine lv_istore_n (lv' := [(3, .int (nI 1)), (0, .ref g0), (1, .long v)]) hx hb dX1_number_13 rfl hl (by decide) rfl (fun ls hl => ?_)
    refine lv_lload_n hx hb dX1_number_14 rfl (lv_at hl 2 rfl) ?_
    refine lv_ldc2 (v := lN 10) hx hb hown (hts (.constantLong RX1 78 (lN 10)) (by decide +kernel)) dX1_number_15 ?_
    refine lv_ldiv hx hb dX1_number_18 (by decide) ?_
    refine lv_lstore (lv' := [(4, .long (v / (lN 10))), (3, .int (nI 1)), (0, .ref g0), (1, .long v)]) hx hb dX1_number_19 hl (by decide) rfl (fun ls hl => ?_)
    have hnum : dk_num v = dk_dg 18 z := by unfold dk_num; rw [if_neg (dk_lge0 c_3), ← hz]; rfl
    exact count n tx _ _ hP hD hS (by rw [hNN, hnum]) (by omega) (by rw [hFL, hnum]) 19 1 (v / lN 10) ls (by omega) (by omega) (by omega) (Or.inl rfl) (by rw [dk_dv, ← hz, Nat.pow_one]) (lv_sub hl [0, 1, 2, 3] rfl)
  · have c_3 : ¬ ((0 : Int64) ≤ v) := fun q9 => c_3 ((lg_cmp_ge _ _).mpr q9)
    have hnum : dk_num v = 45 :: dk_dg 18 z := by unfold dk_num; rw [if_pos (dk_llt0 c_3), ← hz]; rfl
    have hl104 : n + ((dk_dg 18 z).length + 1) ≤ 104 := by rw [hnum, List.length_cons] at hn9; exact hn9
    refine lv_aload_n hx hb dX1_number_6 rfl (lv_at hl 0 rfl) ?_
    refine lv_bipush (v := nI 45) hx hb dX1_number_7 (by decide) ?_
    have hPc := hP
    have hDc := hD
    have hFc := va_free (wc := [(g0, .inr (1, [.long TT, .ref a1, .int kk, .ref a2, .ref a3, .int (nI n), .ref a4])), (a4, .inl (i4, 120, .inl tx))]) hD hS hA [0, 1] rfl
    have hKc := hK
    refine va_callv (va_runV (As := [.int (nI 45)]) (rest := []) ⟨hx, hb, hml, hown, hts⟩ (cY_put l dC dI _ g0 a1 a2 a3 a4 i4 TT kk n (by omega) tx 45) (cwV 1 hts gX1_number_X1_put rfl rfl rfl (by decide +kernel) ⟨Nat.le_of_ble_eq_true rfl, Nat.le_of_ble_eq_true rfl⟩) (dk_wV hPc hKc hDc (ci := 1) (q0 := 0) rfl rfl) rfl rfl hl.1 rfl (lv_room (Nat.le_of_ble_eq_true rfl)) dX1_number_9 ⟨Nat.zero_le _, Nat.zero_le _⟩) hS (fun q _ h => hFc q h) hFc (fun u8 t8 H1 locs ht8 hvm8 hw hB hz1 hk1 hS => ?_)
    try dsimp only at hw
    obtain ⟨hP1, hD1⟩ := hB
    rw [ht8] at hP1
    obtain ⟨hP, hD⟩ := va_join (wr := []) (w1 := [(g0, .inr (1, [.long TT, .ref a1, .int kk, .ref a2, .ref a3, .int (nI (n + 1)), .ref a4])), (a4, .inl (i4, 120, .inl (upd tx n (nI 45))))]) hP hD [0, 1] [] rfl rfl (by decide) (by decide) hk1 hFc hP1 hD1
    generalize H1 = H at hP hS ⊢
    have hP : va_P (dC, dI) vwCl [(g0, .inr (1, [.long TT, .ref a1, .int kk, .ref a2, .ref a3, .int (nI (n + 1)), .ref a4])), (a4, .inl (i4, 120, .inl (upd tx n (nI 45))))] H := hP
    have hD : va_D A [(g0, .inr (1, [.long TT, .ref a1, .int kk, .ref a2, .ref a3, .int (nI (n + 1)), .ref a4])), (a4, .inl (i4, 120, .inl (upd tx n (nI 45))))] := hD
    refine lv_iconst (v := nI 1) hx hb dX1_number_12 (by decide) ?_
    refine lv_istore_n (lv' := [(3, .int (nI 1)), (0, .ref g0), (1, .long v)]) hx hb dX1_number_13 rfl hl (by decide) rfl (fun ls hl => ?_)
    refine lv_lload_n hx hb dX1_number_14 rfl (lv_at hl 2 rfl) ?_
    refine lv_ldc2 (v := lN 10) hx hb hown (hts (.constantLong RX1 78 (lN 10)) (by decide +kernel)) dX1_number_15 ?_
    refine lv_ldiv hx hb dX1_number_18 (by decide) ?_
    refine lv_lstore (lv' := [(4, .long (v / (lN 10))), (3, .int (nI 1)), (0, .ref g0), (1, .long v)]) hx hb dX1_number_19 hl (by decide) rfl (fun ls hl => ?_)
    exact count (n + 1) (upd tx n (nI 45)) _ _ hP hD hS (by rw [hNN, hnum, List.length_cons]; omega) (by omega) (by rw [hFL, hnum, dk_ap_cons]) 19 1 (v / lN 10) ls (by omega) (by omega) (by omega) (Or.inl rfl) (by rw [dk_dv, ← hz, Nat.pow_one]) (lv_sub hl [0, 1, 2, 3] rfl)
