set_option maxHeartbeats 4000000 in
set_option maxRecDepth 100000 in
/-- may -/
theorem cY_may (l : Launch) (dC : Nat → ClassId) (dI : Nat → Nat → Nat) (g0 a1 a2 a3 a4 : Nat) (T : Nat) (hT9 : T < 100000000) (kk w : Int32) (x pr mo : Int32) : Met l yX1_may wsX1_may ({ frames := 1, cells := 0, slots := 0, locals := 20 }) (dk_Pr [.ref g0, .int x, .int pr, .int mo] (dC, dI) vwCl [] [(g0, .inr (1, [.long (lN T), .ref a1, .int kk, .ref a2, .ref a3, .int w, .ref a4]))]) (va_Qi (fun (r : Int32) (_ : Unit) => (r = 1 ∧ dk_may (T % 1000) x pr mo) ∨ (r = 0 ∧ ¬ dk_may (T % 1000) x pr mo)) (fun _ _ => True) dk_no) 0 0 dk_no := by
  refine Met.ofW (cc := cX1_may) (maxL := 7) (ret := (some .boolean)) (by decide) rfl ?_
  intro p e s m args below meth c s₁ B hml hv
  obtain ⟨rfl, hP, hK⟩ := hv
  have hx := B.exec
  have hb := B.bytes
  have hr := B.returns
  have hts := atoms_spec (ws := wsX1_may) B.pre
  have hown : s.vm.findClass RX1 = some m.cls := findClass_of_methodNamed B.named
  have hlocks := B.notSynchronized
  have hS : va_S dk_no s.heap s.heap [] := va_S.rf
  have hl := lv_entry ([.ref g0, .int x, .int pr, .int mo]) (n := 7) (Nat.le_of_ble_eq_true rfl)
  rw [lg_entry_eq]
  generalize (lg_sl ([.ref g0, .int x, .int pr, .int mo]) ++ List.replicate (7 - (lg_sl ([.ref g0, .int x, .int pr, .int mo])).length) Slot.unset).toArray = ls at hl ⊢
  have hl : lv_has ls 7 [(0, .ref g0), (1, .int x), (2, .int pr), (3, .int mo)] := hl
  refine lv_aload_n hx hb dX1_may_0 rfl (lv_at hl 0 rfl) ?_
  have hPc := hP
  have hKc := hK
  refine va_calli (va_runV (As := []) (rest := []) ⟨hx, hb, hml, hown, hts⟩ (cY_tick l dC dI g0 a1 a2 a3 a4 T hT9 kk w) (cwV 0 hts gX1_may_X1_tick rfl rfl rfl (by decide +kernel) ⟨Nat.le_of_ble_eq_true rfl, Nat.le_of_ble_eq_true rfl⟩) (dk_rV hPc hKc (ci := 1) (q0 := 0) rfl rfl) rfl rfl hl.1 rfl (lv_room (Nat.le_of_ble_eq_true rfl)) dX1_may_1 ⟨Nat.zero_le _, Nat.zero_le _⟩) hS (fun q _ h => False.elim h) (fun q h => False.elim h) (fun r_1 u8 t8 H1 locs ht8 hvm8 hw hB hz1 hk1 hS => ?_)
  try dsimp only at hw
  have hP := dk_kept hP hk1
  generalize H1 = H at hP hS ⊢
  subst hw
  have hKc := hK
  refine va_calli (va_runS (As := [.int (nI (T % 1000))]) (rest := []) ⟨hx, hb, hml, hown, hts⟩ (cY_phaseOf l dC dI (T % 1000) (by omega)) (va_cwS 1 hts gX1_may_X1_phaseOf rfl rfl rfl (by decide +kernel) ⟨Nat.le_of_ble_eq_true rfl, Nat.le_of_ble_eq_true rfl⟩) (dk_rS dk_P0 hKc) rfl rfl hl.1 rfl (lv_room (Nat.le_of_ble_eq_true rfl)) dX1_may_4 ⟨Nat.zero_le _, Nat.zero_le _⟩) hS (fun q _ h => False.elim h) (fun q h => False.elim h) (fun r_4 u8 t8 H1 locs ht8 hvm8 hw hB hz1 hk1 hS => ?_)
  try dsimp only at hw
  have hP := dk_kept hP hk1
  generalize H1 = H at hP hS ⊢
  subst hw
  refine lv_istore (lv' := [(4, .int (nI (dk_ph (T % 1000)))), (0, .ref g0), (1, .int x), (2, .int pr), (3, .int mo)]) hx hb dX1_may_7 hl (by decide) rfl (fun ls hl => ?_)
  have hph := dk_ph_lt (T % 1000)
  have j93 : ∀ gd : Int32, (gd = 1 ∧ dk_g2 (T % 1000) x) ∨ (gd = 0 ∧ ¬ dk_g2 (T % 1000) x) → ∀ ls : Array Slot, lv_has ls 7 [(4, .int (nI (dk_ph (T % 1000)))), (0, .ref g0), (1, .int x), (2, .int pr), (3, .int mo)] → W p l e (headSpec wsX1_may ({ frames := 1, cells := 0, slots := 0, locals := 20 })).room s m ([.ref g0, .int x, .int pr, .int mo] : List Value).toArray below meth c H locs 0 0 (MQ below (va_Qi (fun (r : Int32) (_ : Unit) => (r = 1 ∧ dk_may (T % 1000) x pr mo) ∨ (r = 0 ∧ ¬ dk_may (T % 1000) x pr mo)) (fun _ _ => True) dk_no) ([.ref g0, .int x, .int pr, .int mo] : List Value).toArray s 0 0 dk_no) (F0 m 93 ls [.int gd]) := by
    intro gd hgd ls hl
    rcases hgd with ⟨rfl, hg⟩ | ⟨rfl, hg⟩
    · refine lv_istore (lv' := [(6, .int 1), (4, .int (nI (dk_ph (T % 1000)))), (0, .ref g0), (1, .int x), (2, .int pr), (3, .int mo)]) hx hb dX1_may_93 hl (by decide) rfl (fun ls hl => ?_)
      refine lv_iload hx hb dX1_may_95 (lv_at hl 0 rfl) ?_
      refine lv_if_eq (tgt := 130) hx hb dX1_may_97 (by decide) (fun c9 => absurd c9 (by decide)) (fun _ => ?_)
      refine lv_iload_n hx hb dX1_may_100 rfl (lv_at hl 3 rfl) ?_
      refine lv_iconst (v := 5) hx hb dX1_may_101 (by decide) ?_
      refine lv_icmp_ne (tgt := 126) hx hb dX1_may_102 (by decide) (fun c_102 => ?_) (fun c_102 => ?_)
      · refine lv_iconst (v := 1) hx hb dX1_may_126 (by decide) ?_
        refine lv_goto (tgt := 131) hx hb dX1_may_127 (by decide) ?_
        exact W.zret (v := 1) hx hb hr (by first | rfl | decide) (fun z8 hz8 hW8 => ⟨⟨1, (), rfl, Or.inl ⟨rfl, (dk_may_iff _ _ _ _).mpr ⟨hg, by rintro ⟨q1, ⟨q2, q3⟩ | ⟨q2, q3⟩⟩ <;> first | contradiction | omega⟩⟩, trivial⟩, hS.F hz8⟩) hS.2.2 dX1_may_131
      · refine lv_iload hx hb dX1_may_105 (lv_at hl 1 rfl) ?_
        refine lv_iconst (v := 2) hx hb dX1_may_107 (by decide) ?_
        refine dk_icmp_ne (x := dk_ph (T % 1000)) (y := 2) (tgt := 116) hx hb dX1_may_108 (by decide) (by omega) (by omega) (fun c_108 => ?_) (fun c_108 => ?_)
        · refine lv_iload hx hb dX1_may_116 (lv_at hl 1 rfl) ?_
          refine lv_iconst (v := 3) hx hb dX1_may_118 (by decide) ?_
          refine dk_icmp_ne (x := dk_ph (T % 1000)) (y := 3) (tgt := 126) hx hb dX1_may_119 (by decide) (by omega) (by omega) (fun c_119 => ?_) (fun c_119 => ?_)
          · refine lv_iconst (v := 1) hx hb dX1_may_126 (by decide) ?_
            refine lv_goto (tgt := 131) hx hb dX1_may_127 (by decide) ?_
            exact W.zret (v := 1) hx hb hr (by first | rfl | decide) (fun z8 hz8 hW8 => ⟨⟨1, (), rfl, Or.inl ⟨rfl, (dk_may_iff _ _ _ _).mpr ⟨hg, by rintro ⟨q1, ⟨q2, q3⟩ | ⟨q2, q3⟩⟩ <;> first | contradiction | omega⟩⟩, trivial⟩, hS.F hz8⟩) hS.2.2 dX1_may_131
          · refine lv_iload_n hx hb dX1_may_122 rfl (lv_at hl 5 rfl) ?_
            refine lv_if_eq (tgt := 130) hx hb dX1_may_123 (by decide) (fun c_123 => ?_) (fun c_123 => ?_)
            · refine lv_iconst (v := 0) hx hb dX1_may_130 (by decide) ?_
              exact W.zret (v := 0) hx hb hr (by first | rfl | decide) (fun z8 hz8 hW8 => ⟨⟨0, (), rfl, Or.inr ⟨rfl, fun q9 => ((dk_may_iff _ _ _ _).mp q9).2 ⟨c_102, Or.inr ⟨c_119, c_123⟩⟩⟩, trivial⟩, hS.F hz8⟩) hS.2.2 dX1_may_131
            · refine lv_iconst (v := 1) hx hb dX1_may_126 (by decide) ?_
              refine lv_goto (tgt := 131) hx hb dX1_may_127 (by decide) ?_
              exact W.zret (v := 1) hx hb hr (by first | rfl | decide) (fun z8 hz8 hW8 => ⟨⟨1, (), rfl, Or.inl ⟨rfl, (dk_may_iff _ _ _ _).mpr ⟨hg, by rintro ⟨q1, ⟨q2, q3⟩ | ⟨q2, q3⟩⟩ <;> first | contradiction | omega⟩⟩, trivial⟩, hS.F hz8⟩) hS.2.2 dX1_may_131
        · refine lv_iload_n hx hb dX1_may_111 rfl (lv_at hl 4 rfl) ?_
          refine lv_iconst (v := 4) hx hb dX1_may_112 (by decide) ?_
          refine lv_icmp_gt (tgt := 130) hx hb dX1_may_113 (by decide) (fun c_113 => ?_) (fun c_113 => ?_)
          · refine lv_iconst (v := 0) hx hb dX1_may_130 (by decide) ?_
            exact W.zret (v := 0) hx hb hr (by first | rfl | decide) (fun z8 hz8 hW8 => ⟨⟨0, (), rfl, Or.inr ⟨rfl, fun q9 => ((dk_may_iff _ _ _ _).mp q9).2 ⟨c_102, Or.inl ⟨c_108, c_113⟩⟩⟩, trivial⟩, hS.F hz8⟩) hS.2.2 dX1_may_131
          · refine lv_iload hx hb dX1_may_116 (lv_at hl 1 rfl) ?_
            refine lv_iconst (v := 3) hx hb dX1_may_118 (by decide) ?_
            refine dk_icmp_ne (x := dk_ph (T % 1000)) (y := 3) (tgt := 126) hx hb dX1_may_119 (by decide) (by omega) (by omega) (fun c_119 => ?_) (fun c_119 => ?_)
            · refine lv_iconst (v := 1) hx hb dX1_may_126 (by decide) ?_
              refine lv_goto (tgt := 131) hx hb dX1_may_127 (by decide) ?_
              exact W.zret (v := 1) hx hb hr (by first | rfl | decide) (fun z8 hz8 hW8 => ⟨⟨1, (), rfl, Or.inl ⟨rfl, (dk_may_iff _ _ _ _).mpr ⟨hg, by rintro ⟨q1, ⟨q2, q3⟩ | ⟨q2, q3⟩⟩ <;> first | contradiction | omega⟩⟩, trivial⟩, hS.F hz8⟩) hS.2.2 dX1_may_131
            · refine lv_iload_n hx hb dX1_may_122 rfl (lv_at hl 5 rfl) ?_
              refine lv_if_eq (tgt := 130) hx hb dX1_may_123 (by decide) (fun c_123 => ?_) (fun c_123 => ?_)
              · refine lv_iconst (v := 0) hx hb dX1_may_130 (by decide) ?_
                exact W.zret (v := 0) hx hb hr (by first | rfl | decide) (fun z8 hz8 hW8 => ⟨⟨0, (), rfl, Or.inr ⟨rfl, fun q9 => ((dk_may_iff _ _ _ _).mp q9).2 ⟨c_102, Or.inr ⟨c_119, c_123⟩⟩⟩, trivial⟩, hS.F hz8⟩) hS.2.2 dX1_may_131
              · refine lv_iconst (v := 1) hx hb dX1_may_126 (by decide) ?_
                refine lv_goto (tgt := 131) hx hb dX1_may_127 (by decide) ?_
                exact W.zret (v := 1) hx hb hr (by first | rfl | decide) (fun z8 hz8 hW8 => ⟨⟨1, (), rfl, Or.inl ⟨rfl, (dk_may_iff _ _ _ _).mpr ⟨hg, by rintro ⟨q1, ⟨q2, q3⟩ | ⟨q2, q3⟩⟩ <;> first | contradiction | omega⟩⟩, trivial⟩, hS.F hz8⟩) hS.2.2 dX1_may_131
    · refine lv_istore (lv' := [(6, .int 0), (4, .int (nI (dk_ph (T % 1000)))), (0, .ref g0), (1, .int x), (2, .int pr), (3, .int mo)]) hx hb dX1_may_93 hl (by decide) rfl (fun ls hl => ?_)
      refine lv_iload hx hb dX1_may_95 (lv_at hl 0 rfl) ?_
      refine lv_if_eq (tgt := 130) hx hb dX1_may_97 (by decide) (fun _ => ?_) (fun c9 => absurd (by decide) c9)
      refine lv_iconst (v := 0) hx hb dX1_may_130 (by decide) ?_
      exact W.zret (v := 0) hx hb hr (by first | rfl | decide) (fun z8 hz8 hW8 => ⟨⟨0, (), rfl, Or.inr ⟨rfl, fun q9 => hg ((dk_may_iff _ _ _ _).mp q9).1⟩, trivial⟩, hS.F hz8⟩) hS.2.2 dX1_may_131
  have j48 : ∀ wk : Int32, (wk = 1 ∧ dk_wk x) ∨ (wk = 0 ∧ ¬ dk_wk x) → ∀ gd : Int32, (gd = 1 ∧ dk_g1 x) ∨ (gd = 0 ∧ ¬ dk_g1 x) → ∀ ls : Array Slot, lv_has ls 7 [(5, .int wk), (4, .int (nI (dk_ph (T % 1000)))), (0, .ref g0), (1, .int x), (2, .int pr), (3, .int mo)] → W p l e (headSpec wsX1_may ({ frames := 1, cells := 0, slots := 0, locals := 20 })).room s m ([.ref g0, .int x, .int pr, .int mo] : List Value).toArray below meth c H locs 0 0 (MQ below (va_Qi (fun (r : Int32) (_ : Unit) => (r = 1 ∧ dk_may (T % 1000) x pr mo) ∨ (r = 0 ∧ ¬ dk_may (T % 1000) x pr mo)) (fun _ _ => True) dk_no) ([.ref g0, .int x, .int pr, .int mo] : List Value).toArray s 0 0 dk_no) (F0 m 48 ls [.int gd]) := by
    intro wk hwk gd hgd ls hl
    rcases hwk with ⟨rfl, hk⟩ | ⟨rfl, hk⟩
    · rcases hgd with ⟨rfl, hg⟩ | ⟨rfl, hg⟩
      · refine lv_istore (lv' := [(6, .int 1), (5, .int 1), (4, .int (nI (dk_ph (T % 1000)))), (0, .ref g0), (1, .int x), (2, .int pr), (3, .int mo)]) hx hb dX1_may_48 hl (by decide) rfl (fun ls hl => ?_)
        refine lv_iload hx hb dX1_may_50 (lv_at hl 0 rfl) ?_
        refine lv_if_eq (tgt := 92) hx hb dX1_may_52 (by decide) (fun c9 => absurd c9 (by decide)) (fun _ => ?_)
        refine lv_iload hx hb dX1_may_55 (lv_at hl 2 rfl) ?_
        refine dk_if_ne (x := dk_ph (T % 1000)) (tgt := 65) hx hb dX1_may_57 (by decide) (by omega) (fun c_57 => ?_) (fun c_57 => ?_)
        · refine lv_iload hx hb dX1_may_65 (lv_at hl 2 rfl) ?_
          refine lv_iconst (v := 4) hx hb dX1_may_67 (by decide) ?_
          refine dk_icmp_ne (x := dk_ph (T % 1000)) (y := 4) (tgt := 88) hx hb dX1_may_68 (by decide) (by omega) (by omega) (fun c_68 => ?_) (fun c_68 => ?_)
          · refine lv_iconst (v := 1) hx hb dX1_may_88 (by decide) ?_
            refine lv_goto (tgt := 93) hx hb dX1_may_89 (by decide) ?_
            exact j93 1 (Or.inl ⟨rfl, hg, by rintro ⟨q1, q2⟩; first | contradiction | omega, by rintro ⟨q1, q2 | q2 | q2⟩ <;> first | contradiction | omega⟩) ls (lv_sub hl [2, 3, 4, 5, 6] rfl)
          · refine lv_iload hx hb dX1_may_71 (lv_at hl 1 rfl) ?_
            refine lv_if_ne (tgt := 92) hx hb dX1_may_73 (by decide) (fun _ => ?_) (fun c9 => absurd c9 (by decide))
            refine lv_iconst (v := 0) hx hb dX1_may_92 (by decide) ?_
            exact j93 0 (Or.inr ⟨rfl, by rintro ⟨q1, q2, q3⟩; first | exact hg q1 | exact q2 ⟨by omega, hk⟩ | exact q3 ⟨by omega, Or.inl hk⟩ | exact q3 ⟨by omega, Or.inr (Or.inl c_79)⟩ | exact q3 ⟨by omega, Or.inr (Or.inr c_85)⟩⟩) ls (lv_sub hl [2, 3, 4, 5, 6] rfl)
        · refine lv_iload hx hb dX1_may_60 (lv_at hl 1 rfl) ?_
          refine lv_if_ne (tgt := 92) hx hb dX1_may_62 (by decide) (fun _ => ?_) (fun c9 => absurd c9 (by decide))
          refine lv_iconst (v := 0) hx hb dX1_may_92 (by decide) ?_
          exact j93 0 (Or.inr ⟨rfl, by rintro ⟨q1, q2, q3⟩; first | exact hg q1 | exact q2 ⟨by omega, hk⟩ | exact q3 ⟨by omega, Or.inl hk⟩ | exact q3 ⟨by omega, Or.inr (Or.inl c_79)⟩ | exact q3 ⟨by omega, Or.inr (Or.inr c_85)⟩⟩) ls (lv_sub hl [2, 3, 4, 5, 6] rfl)
      · refine lv_istore (lv' := [(6, .int 0), (5, .int 1), (4, .int (nI (dk_ph (T % 1000)))), (0, .ref g0), (1, .int x), (2, .int pr), (3, .int mo)]) hx hb dX1_may_48 hl (by decide) rfl (fun ls hl => ?_)
        refine lv_iload hx hb dX1_may_50 (lv_at hl 0 rfl) ?_
        refine lv_if_eq (tgt := 92) hx hb dX1_may_52 (by decide) (fun _ => ?_) (fun c9 => absurd (by decide) c9)
        refine lv_iconst (v := 0) hx hb dX1_may_92 (by decide) ?_
        exact j93 0 (Or.inr ⟨rfl, by rintro ⟨q1, q2, q3⟩; first | exact hg q1 | exact q2 ⟨by omega, hk⟩ | exact q3 ⟨by omega, Or.inl hk⟩ | exact q3 ⟨by omega, Or.inr (Or.inl c_79)⟩ | exact q3 ⟨by omega, Or.inr (Or.inr c_85)⟩⟩) ls (lv_sub hl [2, 3, 4, 5, 6] rfl)
    · rcases hgd with ⟨rfl, hg⟩ | ⟨rfl, hg⟩
      · refine lv_istore (lv' := [(6, .int 1), (5, .int 0), (4, .int (nI (dk_ph (T % 1000)))), (0, .ref g0), (1, .int x), (2, .int pr), (3, .int mo)]) hx hb dX1_may_48 hl (by decide) rfl (fun ls hl => ?_)
        refine lv_iload hx hb dX1_may_50 (lv_at hl 0 rfl) ?_
        refine lv_if_eq (tgt := 92) hx hb dX1_may_52 (by decide) (fun c9 => absurd c9 (by decide)) (fun _ => ?_)
        refine lv_iload hx hb dX1_may_55 (lv_at hl 2 rfl) ?_
        refine dk_if_ne (x := dk_ph (T % 1000)) (tgt := 65) hx hb dX1_may_57 (by decide) (by omega) (fun c_57 => ?_) (fun c_57 => ?_)
        · refine lv_iload hx hb dX1_may_65 (lv_at hl 2 rfl) ?_
          refine lv_iconst (v := 4) hx hb dX1_may_67 (by decide) ?_
          refine dk_icmp_ne (x := dk_ph (T % 1000)) (y := 4) (tgt := 88) hx hb dX1_may_68 (by decide) (by omega) (by omega) (fun c_68 => ?_) (fun c_68 => ?_)
          · refine lv_iconst (v := 1) hx hb dX1_may_88 (by decide) ?_
            refine lv_goto (tgt := 93) hx hb dX1_may_89 (by decide) ?_
            exact j93 1 (Or.inl ⟨rfl, hg, by rintro ⟨q1, q2⟩; first | contradiction | omega, by rintro ⟨q1, q2 | q2 | q2⟩ <;> first | contradiction | omega⟩) ls (lv_sub hl [2, 3, 4, 5, 6] rfl)
          · refine lv_iload hx hb dX1_may_71 (lv_at hl 1 rfl) ?_
            refine lv_if_ne (tgt := 92) hx hb dX1_may_73 (by decide) (fun c9 => absurd (by decide) c9) (fun _ => ?_)
            refine lv_iload_n hx hb dX1_may_76 rfl (lv_at hl 4 rfl) ?_
            refine lv_bipush (v := 7) hx hb dX1_may_77 (by decide) ?_
            refine lv_icmp_eq (tgt := 92) hx hb dX1_may_79 (by decide) (fun c_79 => ?_) (fun c_79 => ?_)
            · refine lv_iconst (v := 0) hx hb dX1_may_92 (by decide) ?_
              exact j93 0 (Or.inr ⟨rfl, by rintro ⟨q1, q2, q3⟩; first | exact hg q1 | exact q2 ⟨by omega, hk⟩ | exact q3 ⟨by omega, Or.inl hk⟩ | exact q3 ⟨by omega, Or.inr (Or.inl c_79)⟩ | exact q3 ⟨by omega, Or.inr (Or.inr c_85)⟩⟩) ls (lv_sub hl [2, 3, 4, 5, 6] rfl)
            · refine lv_iload_n hx hb dX1_may_82 rfl (lv_at hl 4 rfl) ?_
              refine lv_bipush (v := 8) hx hb dX1_may_83 (by decide) ?_
              refine lv_icmp_eq (tgt := 92) hx hb dX1_may_85 (by decide) (fun c_85 => ?_) (fun c_85 => ?_)
              · refine lv_iconst (v := 0) hx hb dX1_may_92 (by decide) ?_
                exact j93 0 (Or.inr ⟨rfl, by rintro ⟨q1, q2, q3⟩; first | exact hg q1 | exact q2 ⟨by omega, hk⟩ | exact q3 ⟨by omega, Or.inl hk⟩ | exact q3 ⟨by omega, Or.inr (Or.inl c_79)⟩ | exact q3 ⟨by omega, Or.inr (Or.inr c_85)⟩⟩) ls (lv_sub hl [2, 3, 4, 5, 6] rfl)
              · refine lv_iconst (v := 1) hx hb dX1_may_88 (by decide) ?_
                refine lv_goto (tgt := 93) hx hb dX1_may_89 (by decide) ?_
                exact j93 1 (Or.inl ⟨rfl, hg, by rintro ⟨q1, q2⟩; first | contradiction | omega, by rintro ⟨q1, q2 | q2 | q2⟩ <;> first | contradiction | omega⟩) ls (lv_sub hl [2, 3, 4, 5, 6] rfl)
        · refine lv_iload hx hb dX1_may_60 (lv_at hl 1 rfl) ?_
          refine lv_if_ne (tgt := 92) hx hb dX1_may_62 (by decide) (fun c9 => absurd (by decide) c9) (fun _ => ?_)
          refine lv_iload hx hb dX1_may_65 (lv_at hl 2 rfl) ?_
          refine lv_iconst (v := 4) hx hb dX1_may_67 (by decide) ?_
          refine dk_icmp_ne (x := dk_ph (T % 1000)) (y := 4) (tgt := 88) hx hb dX1_may_68 (by decide) (by omega) (by omega) (fun c_68 => ?_) (fun c_68 => ?_)
          · refine lv_iconst (v := 1) hx hb dX1_may_88 (by decide) ?_
            refine lv_goto (tgt := 93) hx hb dX1_may_89 (by decide) ?_
            exact j93 1 (Or.inl ⟨rfl, hg, by rintro ⟨q1, q2⟩; first | contradiction | omega, by rintro ⟨q1, q2 | q2 | q2⟩ <;> first | contradiction | omega⟩) ls (lv_sub hl [2, 3, 4, 5, 6] rfl)
          · refine lv_iload hx hb dX1_may_71 (lv_at hl 1 rfl) ?_
            refine lv_if_ne (tgt := 92) hx hb dX1_may_73 (by decide) (fun c9 => absurd (by decide) c9) (fun _ => ?_)
            refine lv_iload_n hx hb dX1_may_76 rfl (lv_at hl 4 rfl) ?_
            refine lv_bipush (v := 7) hx hb dX1_may_77 (by decide) ?_
            refine lv_icmp_eq (tgt := 92) hx hb dX1_may_79 (by decide) (fun c_79 => ?_) (fun c_79 => ?_)
            · refine lv_iconst (v := 0) hx hb dX1_may_92 (by decide) ?_
              exact j93 0 (Or.inr ⟨rfl, by rintro ⟨q1, q2, q3⟩; first | exact hg q1 | exact q2 ⟨by omega, hk⟩ | exact q3 ⟨by omega, Or.inl hk⟩ | exact q3 ⟨by omega, Or.inr (Or.inl c_79)⟩ | exact q3 ⟨by omega, Or.inr (Or.inr c_85)⟩⟩) ls (lv_sub hl [2, 3, 4, 5, 6] rfl)
            · refine lv_iload_n hx hb dX1_may_82 rfl (lv_at hl 4 rfl) ?_
              refine lv_bipush (v := 8) hx hb dX1_may_83 (by decide) ?_
              refine lv_icmp_eq (tgt := 92) hx hb dX1_may_85 (by decide) (fun c_85 => ?_) (fun c_85 => ?_)
              · refine lv_iconst (v := 0) hx hb dX1_may_92 (by decide) ?_
                exact j93 0 (Or.inr ⟨rfl, by rintro ⟨q1, q2, q3⟩; first | exact hg q1 | exact q2 ⟨by omega, hk⟩ | exact q3 ⟨by omega, Or.inl hk⟩ | exact q3 ⟨by omega, Or.inr (Or.inl c_79)⟩ | exact q3 ⟨by omega, Or.inr (Or.inr c_85)⟩⟩) ls (lv_sub hl [2, 3, 4, 5, 6] rfl)
              · refine lv_iconst (v := 1) hx hb dX1_may_88 (by decide) ?_
                refine lv_goto (tgt := 93) hx hb dX1_may_89 (by decide) ?_
                exact j93 1 (Or.inl ⟨rfl, hg, by rintro ⟨q1, q2⟩; first | contradiction | omega, by rintro ⟨q1, q2 | q2 | q2⟩ <;> first | contradiction | omega⟩) ls (lv_sub hl [2, 3, 4, 5, 6] rfl)
      · refine lv_istore (lv' := [(6, .int 0), (5, .int 0), (4, .int (nI (dk_ph (T % 1000)))), (0, .ref g0), (1, .int x), (2, .int pr), (3, .int mo)]) hx hb dX1_may_48 hl (by decide) rfl (fun ls hl => ?_)
        refine lv_iload hx hb dX1_may_50 (lv_at hl 0 rfl) ?_
        refine lv_if_eq (tgt := 92) hx hb dX1_may_52 (by decide) (fun _ => ?_) (fun c9 => absurd (by decide) c9)
        refine lv_iconst (v := 0) hx hb dX1_may_92 (by decide) ?_
        exact j93 0 (Or.inr ⟨rfl, by rintro ⟨q1, q2, q3⟩; first | exact hg q1 | exact q2 ⟨by omega, hk⟩ | exact q3 ⟨by omega, Or.inl hk⟩ | exact q3 ⟨by omega, Or.inr (Or.inl c_79)⟩ | exact q3 ⟨by omega, Or.inr (Or.inr c_85)⟩⟩) ls (lv_sub hl [2, 3, 4, 5, 6] rfl)
  have j31 : ∀ wk : Int32, (wk = 1 ∧ dk_wk x) ∨ (wk = 0 ∧ ¬ dk_wk x) → ∀ ls : Array Slot, lv_has ls 7 [(4, .int (nI (dk_ph (T % 1000)))), (0, .ref g0), (1, .int x), (2, .int pr), (3, .int mo)] → W p l e (headSpec wsX1_may ({ frames := 1, cells := 0, slots := 0, locals := 20 })).room s m ([.ref g0, .int x, .int pr, .int mo] : List Value).toArray below meth c H locs 0 0 (MQ below (va_Qi (fun (r : Int32) (_ : Unit) => (r = 1 ∧ dk_may (T % 1000) x pr mo) ∨ (r = 0 ∧ ¬ dk_may (T % 1000) x pr mo)) (fun _ _ => True) dk_no) ([.ref g0, .int x, .int pr, .int mo] : List Value).toArray s 0 0 dk_no) (F0 m 31 ls [.int wk]) := by
    intro wk hwk ls hl
    refine lv_istore (lv' := [(5, .int wk), (4, .int (nI (dk_ph (T % 1000)))), (0, .ref g0), (1, .int x), (2, .int pr), (3, .int mo)]) hx hb dX1_may_31 hl (by decide) rfl (fun ls hl => ?_)
    refine lv_iload_n hx hb dX1_may_33 rfl (lv_at hl 3 rfl) ?_
    refine lv_if_lt (tgt := 47) hx hb dX1_may_34 (by decide) (fun c_34 => ?_) (fun c_34 => ?_)
    · refine lv_iconst (v := 0) hx hb dX1_may_47 (by decide) ?_
      exact j48 wk hwk 0 (Or.inr ⟨rfl, fun q9 => q9.1 c_34⟩) ls (lv_sub hl [0, 1, 2, 3, 4, 5] rfl)
    · refine lv_iload_n hx hb dX1_may_37 rfl (lv_at hl 3 rfl) ?_
      refine lv_bipush (v := 14) hx hb dX1_may_38 (by decide) ?_
      refine lv_icmp_gt (tgt := 47) hx hb dX1_may_40 (by decide) (fun c_40 => ?_) (fun c_40 => ?_)
      · refine lv_iconst (v := 0) hx hb dX1_may_47 (by decide) ?_
        exact j48 wk hwk 0 (Or.inr ⟨rfl, fun q9 => (Int32.not_le.mpr c_40) q9.2⟩) ls (lv_sub hl [0, 1, 2, 3, 4, 5] rfl)
      · refine lv_iconst (v := 1) hx hb dX1_may_43 (by decide) ?_
        refine lv_goto (tgt := 48) hx hb dX1_may_44 (by decide) ?_
        exact j48 wk hwk 1 (Or.inl ⟨rfl, c_34, dk_inl c_40⟩) ls (lv_sub hl [0, 1, 2, 3, 4, 5] rfl)
  refine lv_iload_n hx hb dX1_may_9 rfl (lv_at hl 2 rfl) ?_
  refine lv_iconst (v := 3) hx hb dX1_may_10 (by decide) ?_
  refine lv_icmp_lt (tgt := 20) hx hb dX1_may_11 (by decide) (fun c_11 => ?_) (fun c_11 => ?_)
  · refine lv_iload_n hx hb dX1_may_20 rfl (lv_at hl 2 rfl) ?_
    refine lv_bipush (v := 13) hx hb dX1_may_21 (by decide) ?_
    refine lv_icmp_ne (tgt := 30) hx hb dX1_may_23 (by decide) (fun c_23 => ?_) (fun c_23 => ?_)
    · refine lv_iconst (v := 0) hx hb dX1_may_30 (by decide) ?_
      exact j31 0 (Or.inr ⟨rfl, fun q9 => q9.elim (fun q8 => q8.1 c_11) (fun q8 => c_23 q8)⟩) ls (lv_sub hl [0, 1, 2, 3, 4] rfl)
    · refine lv_iconst (v := 1) hx hb dX1_may_26 (by decide) ?_
      refine lv_goto (tgt := 31) hx hb dX1_may_27 (by decide) ?_
      exact j31 1 (Or.inl ⟨rfl, Or.inr c_23⟩) ls (lv_sub hl [0, 1, 2, 3, 4] rfl)
  · refine lv_iload_n hx hb dX1_may_14 rfl (lv_at hl 2 rfl) ?_
    refine lv_bipush (v := 6) hx hb dX1_may_15 (by decide) ?_
    refine lv_icmp_le (tgt := 26) hx hb dX1_may_17 (by decide) (fun c_17 => ?_) (fun c_17 => ?_)
    · refine lv_iconst (v := 1) hx hb dX1_may_26 (by decide) ?_
      refine lv_goto (tgt := 31) hx hb dX1_may_27 (by decide) ?_
      exact j31 1 (Or.inl ⟨rfl, Or.inl ⟨c_11, c_17⟩⟩) ls (lv_sub hl [0, 1, 2, 3, 4] rfl)
    · refine lv_iload_n hx hb dX1_may_20 rfl (lv_at hl 2 rfl) ?_
      refine lv_bipush (v := 13) hx hb dX1_may_21 (by decide) ?_
      refine lv_icmp_ne (tgt := 30) hx hb dX1_may_23 (by decide) (fun c_23 => ?_) (fun c_23 => ?_)
      · refine lv_iconst (v := 0) hx hb dX1_may_30 (by decide) ?_
        exact j31 0 (Or.inr ⟨rfl, fun q9 => q9.elim (fun q8 => c_17 q8.2) (fun q8 => c_23 q8)⟩) ls (lv_sub hl [0, 1, 2, 3, 4] rfl)
      · refine lv_iconst (v := 1) hx hb dX1_may_26 (by decide) ?_
        refine lv_goto (tgt := 31) hx hb dX1_may_27 (by decide) ?_
        exact j31 1 (Or.inl ⟨rfl, Or.inr c_23⟩) ls (lv_sub hl [0, 1, 2, 3, 4] rfl)
set_option maxHeartbeats 4000000 in
set_option maxRecDepth 100000 in
/-- look -/
theorem cY_look (l : Launch) (dC : Nat → ClassId) (dI : Nat → Nat → Nat) (g0 a1 a2 a3 a4 : Nat) (T : Nat) (hT9 : T < 100000000) (kk w : Int32) (x : Int32) : Met l yX1_look wsX1_look ({ frames := 1, cells := 0, slots := 0, locals := 20 }) (dk_Pr [.ref g0, .int x] (dC, dI) vwCl [] [(g0, .inr (1, [.long (lN T), .ref a1, .int kk, .ref a2, .ref a3, .int w, .ref a4]))]) (va_Qi (fun (r : Int32) (_ : Unit) => dk_look (nI (T / 1000)) (T % 1000) x r) (fun _ _ => True) dk_no) 0 0 dk_no := by
  refine Met.ofW (cc := cX1_look) (maxL := 5) (ret := (some .int)) (by decide) rfl ?_
  intro p e s m args below meth c s₁ B hml hv
  obtain ⟨rfl, hP, hK⟩ := hv
  have hx := B.exec
  have hb := B.bytes
  have hr := B.returns
  have hts := atoms_spec (ws := wsX1_look) B.pre
  have hown : s.vm.findClass RX1 = some m.cls := findClass_of_methodNamed B.named
  have hlocks := B.notSynchronized
  have hinX1 : ∀ w ∈ wsX10, w ∈ wsX1_look := by decide +kernel
  have hS : va_S dk_no s.heap s.heap [] := va_S.rf
  have hl := lv_entry ([.ref g0, .int x]) (n := 5) (Nat.le_of_ble_eq_true rfl)
  rw [lg_entry_eq]
  generalize (lg_sl ([.ref g0, .int x]) ++ List.replicate (5 - (lg_sl ([.ref g0, .int x])).length) Slot.unset).toArray = ls at hl ⊢
  have hl : lv_has ls 5 [(0, .ref g0), (1, .int x)] := hl
  refine lv_aload_n hx hb dX1_look_0 rfl (lv_at hl 0 rfl) ?_
  have hPc := hP
  have hKc := hK
  refine va_calli (va_runV (As := []) (rest := []) ⟨hx, hb, hml, hown, hts⟩ (cY_tick l dC dI g0 a1 a2 a3 a4 T hT9 kk w) (cwV 0 hts gX1_look_X1_tick rfl rfl rfl (by decide +kernel) ⟨Nat.le_of_ble_eq_true rfl, Nat.le_of_ble_eq_true rfl⟩) (dk_rV hPc hKc (ci := 1) (q0 := 0) rfl rfl) rfl rfl hl.1 rfl (lv_room (Nat.le_of_ble_eq_true rfl)) dX1_look_1 ⟨Nat.zero_le _, Nat.zero_le _⟩) hS (fun q _ h => False.elim h) (fun q h => False.elim h) (fun r_1 u8 t8 H1 locs ht8 hvm8 hw hB hz1 hk1 hS => ?_)
  try dsimp only at hw
  have hP := dk_kept hP hk1
  generalize H1 = H at hP hS ⊢
  subst hw
  refine lv_istore_n (lv' := [(2, .int (nI (T % 1000))), (0, .ref g0), (1, .int x)]) hx hb dX1_look_4 rfl hl (by decide) rfl (fun ls hl => ?_)
  rcases dk_sw5 x with rfl | rfl | rfl | rfl | rfl | hsw
  · refine lv_iload_n hx hb dX1_look_5 rfl (lv_at hl 2 rfl) ?_
    refine lv_iconst (v := 3) hx hb dX1_look_6 (by decide) ?_
    refine lv_icmp_ge (tgt := 49) hx hb dX1_look_7 (by decide) (fun c9 => absurd c9 (by decide)) (fun _ => ?_)
    refine lv_iload_n hx hb dX1_look_10 rfl (lv_at hl 2 rfl) ?_
    refine lv_if_ne (tgt := 26) hx hb dX1_look_11 (by decide) (fun c9 => absurd (by decide) c9) (fun _ => ?_)
    refine lv_aload_n hx hb dX1_look_14 rfl (lv_at hl 1 rfl) ?_
    refine va_get (D := (dC, dI)) (ci := 1) (v := .long (lN T)) (C := RX1) (T := TX1) (N := 7) hx hb hts hinX1 hown hK hP 0 rfl rfl 0 (by decide) (hts (.fieldLink RX1 23 "DayDeskModel" "ticks" "J") (by decide +kernel)) (fun _ h9 => h9) rfl dX1_look_15 ?_
    refine lv_ldc2 (v := lN 1000) hx hb hown (hts (.constantLong RX1 27 (lN 1000)) (by decide +kernel)) dX1_look_18 ?_
    refine lv_ldiv hx hb dX1_look_21 (by decide) ?_
    refine dk_asl (y := lN (T / 1000)) (pk_lDiv (by omega) (by omega) (by omega)) ?_
    refine lv_l2i (v := (lN (T / 1000)).toInt32) hx hb dX1_look_22 rfl ?_
    refine dk_asi (y := nI (T / 1000)) (lN_i _) ?_
    refine lv_goto (tgt := 48) hx hb dX1_look_23 (by decide) ?_
    exact W.iret (v := nI (T / 1000)) hx hb hr (fun z8 hz8 hW8 => ⟨⟨(nI (T / 1000)), (), rfl, Or.inl ⟨rfl, rfl⟩, trivial⟩, hS.F hz8⟩) hS.2.2 dX1_look_48
  · refine lv_iload_n hx hb dX1_look_5 rfl (lv_at hl 2 rfl) ?_
    refine lv_iconst (v := 3) hx hb dX1_look_6 (by decide) ?_
    refine lv_icmp_ge (tgt := 49) hx hb dX1_look_7 (by decide) (fun c9 => absurd c9 (by decide)) (fun _ => ?_)
    refine lv_iload_n hx hb dX1_look_10 rfl (lv_at hl 2 rfl) ?_
    refine lv_if_ne (tgt := 26) hx hb dX1_look_11 (by decide) (fun _ => ?_) (fun c9 => absurd c9 (by decide))
    refine lv_iload_n hx hb dX1_look_26 rfl (lv_at hl 2 rfl) ?_
    refine lv_iconst (v := 1) hx hb dX1_look_27 (by decide) ?_
    refine lv_icmp_ne (tgt := 35) hx hb dX1_look_28 (by decide) (fun c9 => absurd (by decide) c9) (fun _ => ?_)
    refine lv_iload_n hx hb dX1_look_31 rfl (lv_at hl 0 rfl) ?_
    refine lv_goto (tgt := 48) hx hb dX1_look_32 (by decide) ?_
    exact W.iret (v := nI (T % 1000)) hx hb hr (fun z8 hz8 hW8 => ⟨⟨(nI (T % 1000)), (), rfl, Or.inr (Or.inl ⟨rfl, rfl⟩), trivial⟩, hS.F hz8⟩) hS.2.2 dX1_look_48
  · refine lv_iload_n hx hb dX1_look_5 rfl (lv_at hl 2 rfl) ?_
    refine lv_iconst (v := 3) hx hb dX1_look_6 (by decide) ?_
    refine lv_icmp_ge (tgt := 49) hx hb dX1_look_7 (by decide) (fun c9 => absurd c9 (by decide)) (fun _ => ?_)
    refine lv_iload_n hx hb dX1_look_10 rfl (lv_at hl 2 rfl) ?_
    refine lv_if_ne (tgt := 26) hx hb dX1_look_11 (by decide) (fun _ => ?_) (fun c9 => absurd c9 (by decide))
    refine lv_iload_n hx hb dX1_look_26 rfl (lv_at hl 2 rfl) ?_
    refine lv_iconst (v := 1) hx hb dX1_look_27 (by decide) ?_
    refine lv_icmp_ne (tgt := 35) hx hb dX1_look_28 (by decide) (fun _ => ?_) (fun c9 => absurd c9 (by decide))
    refine lv_iload_n hx hb dX1_look_35 rfl (lv_at hl 2 rfl) ?_
    refine lv_iconst (v := 2) hx hb dX1_look_36 (by decide) ?_
    refine lv_icmp_ne (tgt := 47) hx hb dX1_look_37 (by decide) (fun c9 => absurd (by decide) c9) (fun _ => ?_)
    refine lv_iload_n hx hb dX1_look_40 rfl (lv_at hl 0 rfl) ?_
    have hKc := hK
    refine va_calli (va_runS (As := [.int (nI (T % 1000))]) (rest := []) ⟨hx, hb, hml, hown, hts⟩ (cY_phaseOf l dC dI (T % 1000) (by omega)) (va_cwS 1 hts gX1_look_X1_phaseOf rfl rfl rfl (by decide +kernel) ⟨Nat.le_of_ble_eq_true rfl, Nat.le_of_ble_eq_true rfl⟩) (dk_rS dk_P0 hKc) rfl rfl hl.1 rfl (lv_room (Nat.le_of_ble_eq_true rfl)) dX1_look_41 ⟨Nat.zero_le _, Nat.zero_le _⟩) hS (fun q _ h => False.elim h) (fun q h => False.elim h) (fun r_41 u8 t8 H1 locs ht8 hvm8 hw hB hz1 hk1 hS => ?_)
    try dsimp only at hw
    have hP := dk_kept hP hk1
    generalize H1 = H at hP hS ⊢
    subst hw
    refine lv_goto (tgt := 48) hx hb dX1_look_44 (by decide) ?_
    exact W.iret (v := nI (dk_ph (T % 1000))) hx hb hr (fun z8 hz8 hW8 => ⟨⟨(nI (dk_ph (T % 1000))), (), rfl, Or.inr (Or.inr (Or.inl ⟨rfl, rfl⟩)), trivial⟩, hS.F hz8⟩) hS.2.2 dX1_look_48
  · refine lv_iload_n hx hb dX1_look_5 rfl (lv_at hl 2 rfl) ?_
    refine lv_iconst (v := 3) hx hb dX1_look_6 (by decide) ?_
    refine lv_icmp_ge (tgt := 49) hx hb dX1_look_7 (by decide) (fun _ => ?_) (fun c9 => absurd (by decide) c9)
    refine lv_iconst (v := nI 1) hx hb dX1_look_49 (by decide) ?_
    refine lv_istore_n (lv' := [(3, .int (nI 1)), (2, .int (nI (T % 1000))), (0, .ref g0), (1, .int 3)]) hx hb dX1_look_50 rfl hl (by decide) rfl (fun ls hl => ?_)
    refine lv_iconst (v := nI 0) hx hb dX1_look_51 (by decide) ?_
    refine lv_istore (lv' := [(4, .int (nI 0)), (3, .int (nI 1)), (2, .int (nI (T % 1000))), (0, .ref g0), (1, .int 3)]) hx hb dX1_look_52 hl (by decide) rfl (fun ls hl => ?_)
    have ht9 : T % 1000 < 1000 := by omega
    have hb9 := dk_nR_b ht9
    have hlt9 := dk_nR_lt ht9
    have loop : ∀ (f i : Nat), T % 1000 + (i + 1) ≤ dk_nR (T % 1000) → dk_nR (T % 1000) + 1 ≤ T % 1000 + (i + 1) + f → ∀ (H : Heap) (locs : List Loc), va_P (dC, dI) vwCl [(g0, .inr (1, [.long (lN T), .ref a1, .int kk, .ref a2, .ref a3, .int w, .ref a4]))] H → va_S dk_no s.heap H locs → ∀ ls : Array Slot, lv_has ls 5 [(4, .int (nI i)), (3, .int (nI (i + 1))), (2, .int (nI (T % 1000))), (0, .ref g0), (1, .int 3)] → W p l e (headSpec wsX1_look ({ frames := 1, cells := 0, slots := 0, locals := 20 })).room s m ([.ref g0, .int 3] : List Value).toArray below meth c H locs 0 0 (MQ below (va_Qi (fun (r : Int32) (_ : Unit) => dk_look (nI (T / 1000)) (T % 1000) 3 r) (fun _ _ => True) dk_no) ([.ref g0, .int 3] : List Value).toArray s 0 0 dk_no) (F0 m 54 ls []) := by
      intro f
      induction f with
      | zero => intro i h1 h2; exact absurd h2 (by omega)
      | succ f ih =>
        intro i hi hf H locs hP hS ls hl
        refine lv_iload hx hb dX1_look_54 (lv_at hl 0 rfl) ?_
        refine lv_sipush (v := nI 1200) hx hb dX1_look_56 (by decide) ?_
        refine dk_icmp_ge (x := i) (y := 1200) (tgt := 109) hx hb dX1_look_59 (by decide) (by omega) (by omega) (fun c_59 => ?_) (fun c_59 => ?_)
        · exfalso; omega
        · refine lv_iload_n hx hb dX1_look_62 rfl (lv_at hl 4 rfl) ?_
          refine lv_iconst (v := 3) hx hb dX1_look_63 (by decide) ?_
          refine lv_icmp_ne (tgt := 83) hx hb dX1_look_64 (by decide) (fun c9 => absurd (by decide) c9) (fun _ => ?_)
          refine lv_iload_n hx hb dX1_look_67 rfl (lv_at hl 2 rfl) ?_
          refine lv_iload_n hx hb dX1_look_68 rfl (lv_at hl 1 rfl) ?_
          refine lv_iadd hx hb dX1_look_69 ?_
          refine dk_asi (y := nI ((T % 1000) + (i + 1))) (nI_add (T % 1000) (i + 1)) ?_
          refine lv_sipush (v := nI 1000) hx hb dX1_look_70 (by decide) ?_
          refine lv_irem hx hb dX1_look_73 (by decide) ?_
          refine dk_asi (y := nI (((T % 1000) + (i + 1)) % 1000)) (pk_rem (a := (T % 1000) + (i + 1)) (d := 1000) (by omega) (by omega) (by omega)) ?_
          have hKc := hK
          refine va_calli (va_runS (As := [.int (nI (((T % 1000) + (i + 1)) % 1000))]) (rest := []) ⟨hx, hb, hml, hown, hts⟩ (cY_isResolved l dC dI ((T % 1000 + (i + 1)) % 1000) (by omega)) (va_cwS 1 hts gX1_look_X1_isResolved rfl rfl rfl (by decide +kernel) ⟨Nat.le_of_ble_eq_true rfl, Nat.le_of_ble_eq_true rfl⟩) (dk_rS dk_P0 hKc) rfl rfl hl.1 rfl (lv_room (Nat.le_of_ble_eq_true rfl)) dX1_look_74 ⟨Nat.zero_le _, Nat.zero_le _⟩) hS (fun q _ h => False.elim h) (fun q h => False.elim h) (fun r_74 u8 t8 H1 locs ht8 hvm8 hw hB hz1 hk1 hS => ?_)
          try dsimp only at hw
          have hP := dk_kept hP hk1
          generalize H1 = H at hP hS ⊢
          rcases hw with ⟨rfl, hR⟩ | ⟨rfl, hR⟩
          · refine lv_if_ne (tgt := 109) hx hb dX1_look_77 (by decide) (fun _ => ?_) (fun c9 => absurd c9 (by decide))
            have e9 : T % 1000 + (i + 1) = dk_nR (T % 1000) := Nat.le_antisymm hi (Nat.le_of_not_lt fun q9 => dk_nR_no ht9 (by omega) q9 hR)
            refine lv_iload_n hx hb dX1_look_109 rfl (lv_at hl 4 rfl) ?_
            refine lv_iconst (v := 4) hx hb dX1_look_110 (by decide) ?_
            refine lv_icmp_le (tgt := 118) hx hb dX1_look_111 (by decide) (fun _ => ?_) (fun c9 => absurd (by decide) c9)
            refine lv_iload_n hx hb dX1_look_118 rfl (lv_at hl 1 rfl) ?_
            exact W.iret (v := nI (i + 1)) hx hb hr (fun z8 hz8 hW8 => ⟨⟨(nI (i + 1)), (), rfl, Or.inr (Or.inr (Or.inr (Or.inl ⟨rfl, congrArg nI (by omega)⟩))), trivial⟩, hS.F hz8⟩) hS.2.2 dX1_look_119
          · refine lv_if_ne (tgt := 109) hx hb dX1_look_77 (by decide) (fun c9 => absurd (by decide) c9) (fun _ => ?_)
            refine lv_goto (tgt := 100) hx hb dX1_look_80 (by decide) ?_
            have e9 : T % 1000 + (i + 1) ≠ dk_nR (T % 1000) := fun q9 => hR (by rw [q9]; exact dk_nR_yes ht9)
            refine lv_iinc (v := nI ((i + 1) + 1)) (lv' := [(3, .int (nI ((i + 1) + 1))), (4, .int (nI i)), (2, .int (nI (T % 1000))), (0, .ref g0), (1, .int 3)]) hx hb dX1_look_100 hl (k := 1) rfl (by rw [show Int32.ofInt 1 = nI 1 from by decide]; exact nI_add (i + 1) 1) (by decide) rfl (fun ls hl => ?_)
            refine lv_iinc (v := nI (i + 1)) (lv' := [(4, .int (nI (i + 1))), (3, .int (nI ((i + 1) + 1))), (2, .int (nI (T % 1000))), (0, .ref g0), (1, .int 3)]) hx hb dX1_look_103 hl (k := 1) rfl (by rw [show Int32.ofInt 1 = nI 1 from by decide]; exact nI_add i 1) (by decide) rfl (fun ls hl => ?_)
            refine lv_goto (tgt := 54) hx hb dX1_look_106 (by decide) ?_
            exact ih (i + 1) (by omega) (by omega) H locs hP hS ls (lv_sub hl [0, 1, 2, 3, 4] rfl)
    exact loop 2000 0 (by omega) (by omega) H locs hP hS ls (lv_sub hl [0, 1, 2, 3, 4] rfl)
  · refine lv_iload_n hx hb dX1_look_5 rfl (lv_at hl 2 rfl) ?_
    refine lv_iconst (v := 3) hx hb dX1_look_6 (by decide) ?_
    refine lv_icmp_ge (tgt := 49) hx hb dX1_look_7 (by decide) (fun _ => ?_) (fun c9 => absurd (by decide) c9)
    refine lv_iconst (v := nI 1) hx hb dX1_look_49 (by decide) ?_
    refine lv_istore_n (lv' := [(3, .int (nI 1)), (2, .int (nI (T % 1000))), (0, .ref g0), (1, .int 4)]) hx hb dX1_look_50 rfl hl (by decide) rfl (fun ls hl => ?_)
    refine lv_iconst (v := nI 0) hx hb dX1_look_51 (by decide) ?_
    refine lv_istore (lv' := [(4, .int (nI 0)), (3, .int (nI 1)), (2, .int (nI (T % 1000))), (0, .ref g0), (1, .int 4)]) hx hb dX1_look_52 hl (by decide) rfl (fun ls hl => ?_)
    have ht9 : T % 1000 < 1000 := by omega
    have hb9 := dk_nP_b (T % 1000)
    have hlt9 := dk_nP_lt ht9
    have loop : ∀ (f i : Nat), T % 1000 + (i + 1) ≤ dk_nP (T % 1000) → dk_nP (T % 1000) + 1 ≤ T % 1000 + (i + 1) + f → ∀ (H : Heap) (locs : List Loc), va_P (dC, dI) vwCl [(g0, .inr (1, [.long (lN T), .ref a1, .int kk, .ref a2, .ref a3, .int w, .ref a4]))] H → va_S dk_no s.heap H locs → ∀ ls : Array Slot, lv_has ls 5 [(4, .int (nI i)), (3, .int (nI (i + 1))), (2, .int (nI (T % 1000))), (0, .ref g0), (1, .int 4)] → W p l e (headSpec wsX1_look ({ frames := 1, cells := 0, slots := 0, locals := 20 })).room s m ([.ref g0, .int 4] : List Value).toArray below meth c H locs 0 0 (MQ below (va_Qi (fun (r : Int32) (_ : Unit) => dk_look (nI (T / 1000)) (T % 1000) 4 r) (fun _ _ => True) dk_no) ([.ref g0, .int 4] : List Value).toArray s 0 0 dk_no) (F0 m 54 ls []) := by
      intro f
      induction f with
      | zero => intro i h1 h2; exact absurd h2 (by omega)
      | succ f ih =>
        intro i hi hf H locs hP hS ls hl
        have hp1 := dk_ph_lt (T % 1000)
        have hp2 := dk_ph_lt ((T % 1000 + (i + 1)) % 1000)
        refine lv_iload hx hb dX1_look_54 (lv_at hl 0 rfl) ?_
        refine lv_sipush (v := nI 1200) hx hb dX1_look_56 (by decide) ?_
        refine dk_icmp_ge (x := i) (y := 1200) (tgt := 109) hx hb dX1_look_59 (by decide) (by omega) (by omega) (fun c_59 => ?_) (fun c_59 => ?_)
        · exfalso; omega
        · refine lv_iload_n hx hb dX1_look_62 rfl (lv_at hl 4 rfl) ?_
          refine lv_iconst (v := 3) hx hb dX1_look_63 (by decide) ?_
          refine lv_icmp_ne (tgt := 83) hx hb dX1_look_64 (by decide) (fun _ => ?_) (fun c9 => absurd c9 (by decide))
          refine lv_iload_n hx hb dX1_look_83 rfl (lv_at hl 2 rfl) ?_
          refine lv_iload_n hx hb dX1_look_84 rfl (lv_at hl 1 rfl) ?_
          refine lv_iadd hx hb dX1_look_85 ?_
          refine dk_asi (y := nI ((T % 1000) + (i + 1))) (nI_add (T % 1000) (i + 1)) ?_
          refine lv_sipush (v := nI 1000) hx hb dX1_look_86 (by decide) ?_
          refine lv_irem hx hb dX1_look_89 (by decide) ?_
          refine dk_asi (y := nI (((T % 1000) + (i + 1)) % 1000)) (pk_rem (a := (T % 1000) + (i + 1)) (d := 1000) (by omega) (by omega) (by omega)) ?_
          have hKc := hK
          refine va_calli (va_runS (As := [.int (nI (((T % 1000) + (i + 1)) % 1000))]) (rest := []) ⟨hx, hb, hml, hown, hts⟩ (cY_phaseOf l dC dI ((T % 1000 + (i + 1)) % 1000) (by omega)) (va_cwS 1 hts gX1_look_X1_phaseOf rfl rfl rfl (by decide +kernel) ⟨Nat.le_of_ble_eq_true rfl, Nat.le_of_ble_eq_true rfl⟩) (dk_rS dk_P0 hKc) rfl rfl hl.1 rfl (lv_room (Nat.le_of_ble_eq_true rfl)) dX1_look_90 ⟨Nat.zero_le _, Nat.zero_le _⟩) hS (fun q _ h => False.elim h) (fun q h => False.elim h) (fun r_90 u8 t8 H1 locs ht8 hvm8 hw hB hz1 hk1 hS => ?_)
          try dsimp only at hw
          have hP := dk_kept hP hk1
          generalize H1 = H at hP hS ⊢
          subst hw
          refine lv_iload_n hx hb dX1_look_93 rfl (lv_at hl 2 rfl) ?_
          have hKc := hK
          refine va_calli (va_runS (As := [.int (nI (T % 1000))]) (rest := [.int (nI (dk_ph ((T % 1000 + (i + 1)) % 1000)))]) ⟨hx, hb, hml, hown, hts⟩ (cY_phaseOf l dC dI (T % 1000) ht9) (va_cwS 1 hts gX1_look_X1_phaseOf rfl rfl rfl (by decide +kernel) ⟨Nat.le_of_ble_eq_true rfl, Nat.le_of_ble_eq_true rfl⟩) (dk_rS dk_P0 hKc) rfl rfl hl.1 rfl (lv_room (Nat.le_of_ble_eq_true rfl)) dX1_look_94 ⟨Nat.zero_le _, Nat.zero_le _⟩) hS (fun q _ h => False.elim h) (fun q h => False.elim h) (fun r_94 u8 t8 H1 locs ht8 hvm8 hw hB hz1 hk1 hS => ?_)
          try dsimp only at hw
          have hP := dk_kept hP hk1
          generalize H1 = H at hP hS ⊢
          subst hw
          refine dk_icmp_ne (x := dk_ph ((T % 1000 + (i + 1)) % 1000)) (y := dk_ph (T % 1000)) (tgt := 109) hx hb dX1_look_97 (by decide) (by omega) (by omega) (fun c_97 => ?_) (fun c_97 => ?_)
          · have e9 : T % 1000 + (i + 1) = dk_nP (T % 1000) := Nat.le_antisymm hi (Nat.le_of_not_lt fun q9 => c_97 (dk_nP_no ht9 (by omega) q9))
            refine lv_iload_n hx hb dX1_look_109 rfl (lv_at hl 4 rfl) ?_
            refine lv_iconst (v := 4) hx hb dX1_look_110 (by decide) ?_
            refine lv_icmp_le (tgt := 118) hx hb dX1_look_111 (by decide) (fun _ => ?_) (fun c9 => absurd (by decide) c9)
            refine lv_iload_n hx hb dX1_look_118 rfl (lv_at hl 1 rfl) ?_
            exact W.iret (v := nI (i + 1)) hx hb hr (fun z8 hz8 hW8 => ⟨⟨(nI (i + 1)), (), rfl, Or.inr (Or.inr (Or.inr (Or.inr (Or.inl ⟨rfl, congrArg nI (by omega)⟩)))), trivial⟩, hS.F hz8⟩) hS.2.2 dX1_look_119
          · have e9 : T % 1000 + (i + 1) ≠ dk_nP (T % 1000) := fun q9 => dk_nP_yes ht9 (by rw [← q9]; exact c_97)
            refine lv_iinc (v := nI ((i + 1) + 1)) (lv' := [(3, .int (nI ((i + 1) + 1))), (4, .int (nI i)), (2, .int (nI (T % 1000))), (0, .ref g0), (1, .int 4)]) hx hb dX1_look_100 hl (k := 1) rfl (by rw [show Int32.ofInt 1 = nI 1 from by decide]; exact nI_add (i + 1) 1) (by decide) rfl (fun ls hl => ?_)
            refine lv_iinc (v := nI (i + 1)) (lv' := [(4, .int (nI (i + 1))), (3, .int (nI ((i + 1) + 1))), (2, .int (nI (T % 1000))), (0, .ref g0), (1, .int 4)]) hx hb dX1_look_103 hl (k := 1) rfl (by rw [show Int32.ofInt 1 = nI 1 from by decide]; exact nI_add i 1) (by decide) rfl (fun ls hl => ?_)
            refine lv_goto (tgt := 54) hx hb dX1_look_106 (by decide) ?_
            exact ih (i + 1) (by omega) (by omega) H locs hP hS ls (lv_sub hl [0, 1, 2, 3, 4] rfl)
    exact loop 2000 0 (by omega) (by omega) H locs hP hS ls (lv_sub hl [0, 1, 2, 3, 4] rfl)
  · refine lv_iload_n hx hb dX1_look_5 rfl (lv_at hl 2 rfl) ?_
    refine lv_iconst (v := 3) hx hb dX1_look_6 (by decide) ?_
    refine lv_icmp_ge (tgt := 49) hx hb dX1_look_7 (by decide) (fun c_7 => ?_) (fun c_7 => ?_)
    · refine lv_iconst (v := nI 1) hx hb dX1_look_49 (by decide) ?_
      refine lv_istore_n (lv' := [(3, .int (nI 1)), (2, .int (nI (T % 1000))), (0, .ref g0), (1, .int x)]) hx hb dX1_look_50 rfl hl (by decide) rfl (fun ls hl => ?_)
      refine lv_iconst (v := nI 0) hx hb dX1_look_51 (by decide) ?_
      refine lv_istore (lv' := [(4, .int (nI 0)), (3, .int (nI 1)), (2, .int (nI (T % 1000))), (0, .ref g0), (1, .int x)]) hx hb dX1_look_52 hl (by decide) rfl (fun ls hl => ?_)
      have h3 : (3 : Int32) ≤ x := c_7
      have ht9 : T % 1000 < 1000 := by omega
      have hb9 := dk_nP_b (T % 1000)
      have hlt9 := dk_nP_lt ht9
      have loop : ∀ (f i : Nat), T % 1000 + (i + 1) ≤ dk_nP (T % 1000) → dk_nP (T % 1000) + 1 ≤ T % 1000 + (i + 1) + f → ∀ (H : Heap) (locs : List Loc), va_P (dC, dI) vwCl [(g0, .inr (1, [.long (lN T), .ref a1, .int kk, .ref a2, .ref a3, .int w, .ref a4]))] H → va_S dk_no s.heap H locs → ∀ ls : Array Slot, lv_has ls 5 [(4, .int (nI i)), (3, .int (nI (i + 1))), (2, .int (nI (T % 1000))), (0, .ref g0), (1, .int x)] → W p l e (headSpec wsX1_look ({ frames := 1, cells := 0, slots := 0, locals := 20 })).room s m ([.ref g0, .int x] : List Value).toArray below meth c H locs 0 0 (MQ below (va_Qi (fun (r : Int32) (_ : Unit) => dk_look (nI (T / 1000)) (T % 1000) x r) (fun _ _ => True) dk_no) ([.ref g0, .int x] : List Value).toArray s 0 0 dk_no) (F0 m 54 ls []) := by
        intro f
        induction f with
        | zero => intro i h1 h2; exact absurd h2 (by omega)
        | succ f ih =>
          intro i hi hf H locs hP hS ls hl
          have hp1 := dk_ph_lt (T % 1000)
          have hp2 := dk_ph_lt ((T % 1000 + (i + 1)) % 1000)
          refine lv_iload hx hb dX1_look_54 (lv_at hl 0 rfl) ?_
          refine lv_sipush (v := nI 1200) hx hb dX1_look_56 (by decide) ?_
          refine dk_icmp_ge (x := i) (y := 1200) (tgt := 109) hx hb dX1_look_59 (by decide) (by omega) (by omega) (fun c_59 => ?_) (fun c_59 => ?_)
          · exfalso; omega
          · refine lv_iload_n hx hb dX1_look_62 rfl (lv_at hl 4 rfl) ?_
            refine lv_iconst (v := 3) hx hb dX1_look_63 (by decide) ?_
            refine lv_icmp_ne (tgt := 83) hx hb dX1_look_64 (by decide) (fun c_64 => ?_) (fun c_64 => ?_)
            · refine lv_iload_n hx hb dX1_look_83 rfl (lv_at hl 2 rfl) ?_
              refine lv_iload_n hx hb dX1_look_84 rfl (lv_at hl 1 rfl) ?_
              refine lv_iadd hx hb dX1_look_85 ?_
              refine dk_asi (y := nI ((T % 1000) + (i + 1))) (nI_add (T % 1000) (i + 1)) ?_
              refine lv_sipush (v := nI 1000) hx hb dX1_look_86 (by decide) ?_
              refine lv_irem hx hb dX1_look_89 (by decide) ?_
              refine dk_asi (y := nI (((T % 1000) + (i + 1)) % 1000)) (pk_rem (a := (T % 1000) + (i + 1)) (d := 1000) (by omega) (by omega) (by omega)) ?_
              have hKc := hK
              refine va_calli (va_runS (As := [.int (nI (((T % 1000) + (i + 1)) % 1000))]) (rest := []) ⟨hx, hb, hml, hown, hts⟩ (cY_phaseOf l dC dI ((T % 1000 + (i + 1)) % 1000) (by omega)) (va_cwS 1 hts gX1_look_X1_phaseOf rfl rfl rfl (by decide +kernel) ⟨Nat.le_of_ble_eq_true rfl, Nat.le_of_ble_eq_true rfl⟩) (dk_rS dk_P0 hKc) rfl rfl hl.1 rfl (lv_room (Nat.le_of_ble_eq_true rfl)) dX1_look_90 ⟨Nat.zero_le _, Nat.zero_le _⟩) hS (fun q _ h => False.elim h) (fun q h => False.elim h) (fun r_90 u8 t8 H1 locs ht8 hvm8 hw hB hz1 hk1 hS => ?_)
              try dsimp only at hw
              have hP := dk_kept hP hk1
              generalize H1 = H at hP hS ⊢
              subst hw
              refine lv_iload_n hx hb dX1_look_93 rfl (lv_at hl 2 rfl) ?_
              have hKc := hK
              refine va_calli (va_runS (As := [.int (nI (T % 1000))]) (rest := [.int (nI (dk_ph ((T % 1000 + (i + 1)) % 1000)))]) ⟨hx, hb, hml, hown, hts⟩ (cY_phaseOf l dC dI (T % 1000) ht9) (va_cwS 1 hts gX1_look_X1_phaseOf rfl rfl rfl (by decide +kernel) ⟨Nat.le_of_ble_eq_true rfl, Nat.le_of_ble_eq_true rfl⟩) (dk_rS dk_P0 hKc) rfl rfl hl.1 rfl (lv_room (Nat.le_of_ble_eq_true rfl)) dX1_look_94 ⟨Nat.zero_le _, Nat.zero_le _⟩) hS (fun q _ h => False.elim h) (fun q h => False.elim h) (fun r_94 u8 t8 H1 locs ht8 hvm8 hw hB hz1 hk1 hS => ?_)
              try dsimp only at hw
              have hP := dk_kept hP hk1
              generalize H1 = H at hP hS ⊢
              subst hw
              refine dk_icmp_ne (x := dk_ph ((T % 1000 + (i + 1)) % 1000)) (y := dk_ph (T % 1000)) (tgt := 109) hx hb dX1_look_97 (by decide) (by omega) (by omega) (fun c_97 => ?_) (fun c_97 => ?_)
              · have e9 : T % 1000 + (i + 1) = dk_nP (T % 1000) := Nat.le_antisymm hi (Nat.le_of_not_lt fun q9 => c_97 (dk_nP_no ht9 (by omega) q9))
                refine lv_iload_n hx hb dX1_look_109 rfl (lv_at hl 4 rfl) ?_
                refine lv_iconst (v := 4) hx hb dX1_look_110 (by decide) ?_
                refine lv_icmp_le (tgt := 118) hx hb dX1_look_111 (by decide) (fun c_111 => ?_) (fun c_111 => ?_)
                · exact (dk_no4 c_111 h3 hsw).elim
                · refine lv_iconst (v := (-1)) hx hb dX1_look_114 (by decide) ?_
                  refine lv_goto (tgt := 119) hx hb dX1_look_115 (by decide) ?_
                  exact W.iret (v := (-1)) hx hb hr (fun z8 hz8 hW8 => ⟨⟨(-1), (), rfl, Or.inr (Or.inr (Or.inr (Or.inr (Or.inr (⟨hsw, rfl⟩))))), trivial⟩, hS.F hz8⟩) hS.2.2 dX1_look_119
              · have e9 : T % 1000 + (i + 1) ≠ dk_nP (T % 1000) := fun q9 => dk_nP_yes ht9 (by rw [← q9]; exact c_97)
                refine lv_iinc (v := nI ((i + 1) + 1)) (lv' := [(3, .int (nI ((i + 1) + 1))), (4, .int (nI i)), (2, .int (nI (T % 1000))), (0, .ref g0), (1, .int x)]) hx hb dX1_look_100 hl (k := 1) rfl (by rw [show Int32.ofInt 1 = nI 1 from by decide]; exact nI_add (i + 1) 1) (by decide) rfl (fun ls hl => ?_)
                refine lv_iinc (v := nI (i + 1)) (lv' := [(4, .int (nI (i + 1))), (3, .int (nI ((i + 1) + 1))), (2, .int (nI (T % 1000))), (0, .ref g0), (1, .int x)]) hx hb dX1_look_103 hl (k := 1) rfl (by rw [show Int32.ofInt 1 = nI 1 from by decide]; exact nI_add i 1) (by decide) rfl (fun ls hl => ?_)
                refine lv_goto (tgt := 54) hx hb dX1_look_106 (by decide) ?_
                exact ih (i + 1) (by omega) (by omega) H locs hP hS ls (lv_sub hl [0, 1, 2, 3, 4] rfl)
            · subst c_64; exact absurd hsw (by decide)
      exact loop 2000 0 (by omega) (by omega) H locs hP hS ls (lv_sub hl [0, 1, 2, 3, 4] rfl)
    · refine lv_iload_n hx hb dX1_look_10 rfl (lv_at hl 2 rfl) ?_
      refine lv_if_ne (tgt := 26) hx hb dX1_look_11 (by decide) (fun c_11 => ?_) (fun c_11 => ?_)
      · refine lv_iload_n hx hb dX1_look_26 rfl (lv_at hl 2 rfl) ?_
        refine lv_iconst (v := 1) hx hb dX1_look_27 (by decide) ?_
        refine lv_icmp_ne (tgt := 35) hx hb dX1_look_28 (by decide) (fun c_28 => ?_) (fun c_28 => ?_)
        · refine lv_iload_n hx hb dX1_look_35 rfl (lv_at hl 2 rfl) ?_
          refine lv_iconst (v := 2) hx hb dX1_look_36 (by decide) ?_
          refine lv_icmp_ne (tgt := 47) hx hb dX1_look_37 (by decide) (fun c_37 => ?_) (fun c_37 => ?_)
          · refine lv_iconst (v := (-1)) hx hb dX1_look_47 (by decide) ?_
            exact W.iret (v := (-1)) hx hb hr (fun z8 hz8 hW8 => ⟨⟨(-1), (), rfl, Or.inr (Or.inr (Or.inr (Or.inr (Or.inr (⟨hsw, rfl⟩))))), trivial⟩, hS.F hz8⟩) hS.2.2 dX1_look_48
          · subst c_37; exact absurd hsw (by decide)
        · subst c_28; exact absurd hsw (by decide)
      · subst c_11; exact absurd hsw (by decide)
