/-! THE CLAIM OUT OF ONE WALK OF THE LAW'S BODY. Your part is whole_start (and what it stands on); all else here is the same for every law, but numbers. -/
def R_law : String := "DayDeskLaw"
def lw_P (b : Addr) (xs : List Int32) (args : Array Value) (s : State) : Prop := args = #[.ref b] ∧ s.IntsAt b xs ∧ xs.length ≤ 2048 ∧ (Jvm.Cond.and given_1 narrow_1).before args s = true
def lw_Q (_ : Array Value) (s : State) (o : Outcome) (t : State) : Prop := o = .returned (some (.int 1)) ∧ Framed s o t [] 12 2480
def lw_Z (below : List Frame) (a : Array Value) (s : State) : State → Prop := fun t => ∃ o, t.status = .running ∧ Ended t below o ∧ lw_Q a s o t
/-- the law's own end, with 1 on the stack, nothing written that was there before, its room as the claim has it -/
theorem lw_ret {p : Program} {l : Launch} {e : Env} {s : State} {m : MethodId} {below : List Frame} {meth : Method} {c : Code} {b : Nat} (hx : p.tables.exec = Jvm.exec) (hb : c.code = code) (hr : meth.sig.returnType = ret) (hlocks : meth.locks = false) {pc : Nat} {H : Heap} {ls : Array Slot} (hdg : decode code pc = .ok (.ireturn, 1)) : W p l e room_1 s m #[Value.ref b] below meth c H [] 12 2480 (lw_Z below #[Value.ref b] s) (F0 m pc ls [.int 1]) := by
  intro T hT X
  obtain ⟨fs, hret, hrun, hended, hW, hframe⟩ := X.leave (v := some (.int 1)) (hlocks := hlocks) (fun h => by rw [hr] at h; cases h)
  have hmeth' : T.vm.method? m = some meth := X.method'
  refine ⟨T.setFrames fs, ?_, .returned (some (.int 1)), hrun, hended, rfl, ⟨_, rfl⟩, hW, hframe⟩
  jvm_step X.here [X.here.top, hx, hb, hdg, hmeth', hr, ret, narrow_b1]
  (try refine ⟨rfl, ?_⟩); (try refine ⟨rfl, ?_⟩)
  first | (intro acts; rw [hret _ acts rfl rfl rfl]) | rw [hret _ _ rfl rfl rfl]
  exact Steps.refl _
/-- what holds at the law's entry: the machine, the code, the tables' words (any of lw_tbl by 'hts w (by decide +kernel)'), the script of L ints xs at the cell b, what the Statement gives of the start (any of its parts by flat_of_before) -/
def lw_At (p : Program) (s : State) (m : MethodId) (meth : Method) (c : Code) (b L : Nat) (xs : Nat → Int32) : Prop :=
  p.tables.exec = Jvm.exec ∧ c.code = code ∧ meth.sig.returnType = ret ∧ c.maxLocals = 4 ∧ s.vm.findClass R_law = some m.cls ∧ (∀ w ∈ lw_tbl, w.before #[Value.ref b] s = true) ∧ va_X b L xs s s.heap ∧ b < s.heap.size ∧ meth.locks = false ∧ (Jvm.Cond.and given_1 narrow_1).before #[Value.ref b] s = true
set_option maxHeartbeats 4000000 in
set_option maxRecDepth 100000 in
/-- the law: pass -/
theorem law_pass {p : Program} {l : Launch} {e : Env} {s : State} {m : MethodId} {below : List Frame} {meth : Method} {c : Code} {dC : Nat → ClassId} {dI : Nat → Nat → Nat} {b L : Nat} {xs : Nat → Int32} {h0 qo qw qc qn qm ql g0 a1 a2 a3 a4 : Nat} {k1 k2 k3 k4 k5 k6 i1 i2 i3 i4 : ClassId} (hL : L ≤ 2048) (C0 : lw_At p s m meth c b L xs) (hK : va_K (dC, dI) vwCl [(k1, .long), (k2, .long), (k3, .long), (k4, .long), (k5, .long), (k6, .char), (i1, .long), (i2, .int), (i3, .long), (i4, .int)] s) (i q : Nat) (hi : i + 4 ≤ L) (hq : q ≤ 511) (d : Int32) (t n : Nat) (fo fw fc fn fm : Nat → Int64) (fl : Nat → Int32) (T k : Nat) (O : Nat → Int64) (mo : Nat → Int32) (mb : Nat → Int64) (tx : Nat → Int32) (hI : dk_Inv q d t n fo fw fc fn fm fl T k O mo mb tx) (H : Heap) (locs : List Loc) (hP : va_P (dC, dI) vwCl [(h0, .inr (0, [.int d, .int (nI t), .ref qo, .ref qw, .ref qc, .ref qn, .ref qm, .ref ql, .int (nI n)])), (qo, .inl (k1, 200, .inr (.inl fo))), (qw, .inl (k2, 200, .inr (.inl fw))), (qc, .inl (k3, 200, .inr (.inl fc))), (qn, .inl (k4, 200, .inr (.inl fn))), (qm, .inl (k5, 200, .inr (.inl fm))), (ql, .inl (k6, 104, .inl fl)), (g0, .inr (1, [.long (lN T), .ref a1, .int (nI k), .ref a2, .ref a3, .int (nI n), .ref a4])), (a1, .inl (i1, 200, .inr (.inl O))), (a2, .inl (i2, 520, .inl mo)), (a3, .inl (i3, 520, .inr (.inl mb))), (a4, .inl (i4, 120, .inl tx))] H) (hD : va_D (fun q : Nat => s.heap.size ≤ q) [(h0, .inr (0, [.int d, .int (nI t), .ref qo, .ref qw, .ref qc, .ref qn, .ref qm, .ref ql, .int (nI n)])), (qo, .inl (k1, 200, .inr (.inl fo))), (qw, .inl (k2, 200, .inr (.inl fw))), (qc, .inl (k3, 200, .inr (.inl fc))), (qn, .inl (k4, 200, .inr (.inl fn))), (qm, .inl (k5, 200, .inr (.inl fm))), (ql, .inl (k6, 104, .inl fl)), (g0, .inr (1, [.long (lN T), .ref a1, .int (nI k), .ref a2, .ref a3, .int (nI n), .ref a4])), (a1, .inl (i1, 200, .inr (.inl O))), (a2, .inl (i2, 520, .inl mo)), (a3, .inl (i3, 520, .inr (.inl mb))), (a4, .inl (i4, 120, .inl tx))]) (hS : va_S (fun q : Nat => s.heap.size ≤ q) s.heap H locs) (ls : Array Slot) (hl : lv_has ls 4 [(0, .ref b), (1, .ref h0), (2, .ref g0), (3, .int (nI i))]) (kk : ∀ (d : Int32) (t n : Nat) (fo fw fc fn fm : Nat → Int64) (fl : Nat → Int32) (T k : Nat) (O : Nat → Int64) (mo : Nat → Int32) (mb : Nat → Int64) (tx : Nat → Int32), dk_Inv (q + 1) d t n fo fw fc fn fm fl T k O mo mb tx → ∀ (H : Heap) (locs : List Loc), va_P (dC, dI) vwCl [(h0, .inr (0, [.int d, .int (nI t), .ref qo, .ref qw, .ref qc, .ref qn, .ref qm, .ref ql, .int (nI n)])), (qo, .inl (k1, 200, .inr (.inl fo))), (qw, .inl (k2, 200, .inr (.inl fw))), (qc, .inl (k3, 200, .inr (.inl fc))), (qn, .inl (k4, 200, .inr (.inl fn))), (qm, .inl (k5, 200, .inr (.inl fm))), (ql, .inl (k6, 104, .inl fl)), (g0, .inr (1, [.long (lN T), .ref a1, .int (nI k), .ref a2, .ref a3, .int (nI n), .ref a4])), (a1, .inl (i1, 200, .inr (.inl O))), (a2, .inl (i2, 520, .inl mo)), (a3, .inl (i3, 520, .inr (.inl mb))), (a4, .inl (i4, 120, .inl tx))] H → va_D (fun q : Nat => s.heap.size ≤ q) [(h0, .inr (0, [.int d, .int (nI t), .ref qo, .ref qw, .ref qc, .ref qn, .ref qm, .ref ql, .int (nI n)])), (qo, .inl (k1, 200, .inr (.inl fo))), (qw, .inl (k2, 200, .inr (.inl fw))), (qc, .inl (k3, 200, .inr (.inl fc))), (qn, .inl (k4, 200, .inr (.inl fn))), (qm, .inl (k5, 200, .inr (.inl fm))), (ql, .inl (k6, 104, .inl fl)), (g0, .inr (1, [.long (lN T), .ref a1, .int (nI k), .ref a2, .ref a3, .int (nI n), .ref a4])), (a1, .inl (i1, 200, .inr (.inl O))), (a2, .inl (i2, 520, .inl mo)), (a3, .inl (i3, 520, .inr (.inl mb))), (a4, .inl (i4, 120, .inl tx))] → va_S (fun q : Nat => s.heap.size ≤ q) s.heap H locs → ∀ ls : Array Slot, lv_has ls 4 [(0, .ref b), (1, .ref h0), (2, .ref g0), (3, .int (nI i))] → W p l e room_1 s m #[Value.ref b] below meth c H locs 12 2480 (lw_Z below #[Value.ref b] s) (F0 m 368 ls [])) : W p l e room_1 s m #[Value.ref b] below meth c H locs 12 2480 (lw_Z below #[Value.ref b] s) (F0 m 84 ls []) := by
  obtain ⟨hx, hb, hr, hml, hown0, hts0, hX, hbl, hlocks, hgv⟩ := C0
  have hts : ∀ w ∈ wsL_law, w.before #[Value.ref b] s = true := fun w h => hts0 w (wsL_law_in w h)
  have hown : s.vm.findClass RL = some m.cls := hown0
  have hA : ∀ q : Nat, s.heap.size ≤ q → (fun q : Nat => s.heap.size ≤ q) q := fun _ h => h
  have hbA : ¬ (fun q : Nat => s.heap.size ≤ q) b := Nat.not_le.mpr hbl
  obtain ⟨v1, v2, v3, v4, v5, v6, v7⟩ := id hI
  have ht9 : t < 1000 := by rw [v1]; exact Nat.mod_lt _ (by decide)
  have hT9 : T ≤ 51100000 := Nat.le_trans v3 (Nat.mul_le_mul_right 100000 hq)
  refine lv_aload_n hx hb dL_law_84 rfl (lv_at hl 1 rfl) ?_
  have hPc := hP.sub (ws' := [(h0, .inr (0, [.int d, .int (nI t), .ref qo, .ref qw, .ref qc, .ref qn, .ref qm, .ref ql, .int (nI n)])), (qo, .inl (k1, 200, .inr (.inl fo))), (qw, .inl (k2, 200, .inr (.inl fw))), (qc, .inl (k3, 200, .inr (.inl fc))), (qn, .inl (k4, 200, .inr (.inl fn))), (qm, .inl (k5, 200, .inr (.inl fm)))]) [0, 1, 2, 3, 4, 5] rfl
  have hDc := hD.sub (ws' := [(h0, .inr (0, [.int d, .int (nI t), .ref qo, .ref qw, .ref qc, .ref qn, .ref qm, .ref ql, .int (nI n)])), (qo, .inl (k1, 200, .inr (.inl fo))), (qw, .inl (k2, 200, .inr (.inl fw))), (qc, .inl (k3, 200, .inr (.inl fc))), (qn, .inl (k4, 200, .inr (.inl fn))), (qm, .inl (k5, 200, .inr (.inl fm)))]) [0, 1, 2, 3, 4, 5] (by decide) rfl
  have hFc := va_free (wc := [(h0, .inr (0, [.int d, .int (nI t), .ref qo, .ref qw, .ref qc, .ref qn, .ref qm, .ref ql, .int (nI n)])), (qo, .inl (k1, 200, .inr (.inl fo))), (qw, .inl (k2, 200, .inr (.inl fw))), (qc, .inl (k3, 200, .inr (.inl fc))), (qn, .inl (k4, 200, .inr (.inl fn))), (qm, .inl (k5, 200, .inr (.inl fm)))]) hD hS hA [0, 1, 2, 3, 4, 5] rfl
  have hKc := hK.sub (tys' := [(k1, .long), (k2, .long), (k3, .long), (k4, .long), (k5, .long)]) [0, 1, 2, 3, 4] rfl
  refine va_calli (va_runV (As := []) (rest := []) ⟨hx, hb, hml, hown, hts⟩ (cX_pass l dC dI _ h0 qo qw qc qn qm ql k1 k2 k3 k4 k5 d (nI n) t ht9 fo fw fc fn fm) (cwV 0 hts gL_law_X0_pass rfl rfl rfl (by decide +kernel) ⟨Nat.le_of_ble_eq_true rfl, Nat.le_of_ble_eq_true rfl⟩) (dk_wV hPc hKc hDc (ci := 0) (q0 := 0) rfl rfl) rfl rfl hl.1 rfl (lv_room (Nat.le_of_ble_eq_true rfl)) dL_law_85 ⟨Nat.le_of_ble_eq_true rfl, Nat.le_of_ble_eq_true rfl⟩) hS (fun q _ h => hFc q h) hFc (fun rx u8 t8 H1 locs ht8 hvm8 hw hB hz1 hk1 hS => ?_)
  try dsimp only at hw
  obtain ⟨go, gw, gc, gm⟩ := u8
  try dsimp only at hw hB
  obtain ⟨hP1, hD1⟩ := hB
  rw [ht8] at hP1
  obtain ⟨hP, hD⟩ := va_join (wr := [(ql, .inl (k6, 104, .inl fl)), (g0, .inr (1, [.long (lN T), .ref a1, .int (nI k), .ref a2, .ref a3, .int (nI n), .ref a4])), (a1, .inl (i1, 200, .inr (.inl O))), (a2, .inl (i2, 520, .inl mo)), (a3, .inl (i3, 520, .inr (.inl mb))), (a4, .inl (i4, 120, .inl tx))]) (w1 := [(h0, .inr (0, [.int (d + nI ((t + 1) / 1000)), .int (nI ((t + 1) % 1000)), .ref qo, .ref qw, .ref qc, .ref qn, .ref qm, .ref ql, .int (nI n)])), (qo, .inl (k1, 200, .inr (.inl go))), (qw, .inl (k2, 200, .inr (.inl gw))), (qc, .inl (k3, 200, .inr (.inl gc))), (qn, .inl (k4, 200, .inr (.inl fn))), (qm, .inl (k5, 200, .inr (.inl gm)))]) hP hD [0, 1, 2, 3, 4, 5] [6, 7, 8, 9, 10, 11] rfl rfl (by decide) (by decide) hk1 hFc hP1 hD1
  generalize H1 = H at hP hS ⊢
  have hP := hP.sub (ws' := [(h0, .inr (0, [.int (d + nI ((t + 1) / 1000)), .int (nI ((t + 1) % 1000)), .ref qo, .ref qw, .ref qc, .ref qn, .ref qm, .ref ql, .int (nI n)])), (qo, .inl (k1, 200, .inr (.inl go))), (qw, .inl (k2, 200, .inr (.inl gw))), (qc, .inl (k3, 200, .inr (.inl gc))), (qn, .inl (k4, 200, .inr (.inl fn))), (qm, .inl (k5, 200, .inr (.inl gm))), (ql, .inl (k6, 104, .inl fl)), (g0, .inr (1, [.long (lN T), .ref a1, .int (nI k), .ref a2, .ref a3, .int (nI n), .ref a4])), (a1, .inl (i1, 200, .inr (.inl O))), (a2, .inl (i2, 520, .inl mo)), (a3, .inl (i3, 520, .inr (.inl mb))), (a4, .inl (i4, 120, .inl tx))]) [6, 7, 8, 9, 10, 11, 0, 1, 2, 3, 4, 5] rfl
  have hD := hD.sub (ws' := [(h0, .inr (0, [.int (d + nI ((t + 1) / 1000)), .int (nI ((t + 1) % 1000)), .ref qo, .ref qw, .ref qc, .ref qn, .ref qm, .ref ql, .int (nI n)])), (qo, .inl (k1, 200, .inr (.inl go))), (qw, .inl (k2, 200, .inr (.inl gw))), (qc, .inl (k3, 200, .inr (.inl gc))), (qn, .inl (k4, 200, .inr (.inl fn))), (qm, .inl (k5, 200, .inr (.inl gm))), (ql, .inl (k6, 104, .inl fl)), (g0, .inr (1, [.long (lN T), .ref a1, .int (nI k), .ref a2, .ref a3, .int (nI n), .ref a4])), (a1, .inl (i1, 200, .inr (.inl O))), (a2, .inl (i2, 520, .inl mo)), (a3, .inl (i3, 520, .inr (.inl mb))), (a4, .inl (i4, 120, .inl tx))]) [6, 7, 8, 9, 10, 11, 0, 1, 2, 3, 4, 5] (by decide) rfl
  have hP : va_P (dC, dI) vwCl [(h0, .inr (0, [.int (d + nI ((t + 1) / 1000)), .int (nI ((t + 1) % 1000)), .ref qo, .ref qw, .ref qc, .ref qn, .ref qm, .ref ql, .int (nI n)])), (qo, .inl (k1, 200, .inr (.inl go))), (qw, .inl (k2, 200, .inr (.inl gw))), (qc, .inl (k3, 200, .inr (.inl gc))), (qn, .inl (k4, 200, .inr (.inl fn))), (qm, .inl (k5, 200, .inr (.inl gm))), (ql, .inl (k6, 104, .inl fl)), (g0, .inr (1, [.long (lN T), .ref a1, .int (nI k), .ref a2, .ref a3, .int (nI n), .ref a4])), (a1, .inl (i1, 200, .inr (.inl O))), (a2, .inl (i2, 520, .inl mo)), (a3, .inl (i3, 520, .inr (.inl mb))), (a4, .inl (i4, 120, .inl tx))] H := hP
  have hD : va_D (fun q : Nat => s.heap.size ≤ q) [(h0, .inr (0, [.int (d + nI ((t + 1) / 1000)), .int (nI ((t + 1) % 1000)), .ref qo, .ref qw, .ref qc, .ref qn, .ref qm, .ref ql, .int (nI n)])), (qo, .inl (k1, 200, .inr (.inl go))), (qw, .inl (k2, 200, .inr (.inl gw))), (qc, .inl (k3, 200, .inr (.inl gc))), (qn, .inl (k4, 200, .inr (.inl fn))), (qm, .inl (k5, 200, .inr (.inl gm))), (ql, .inl (k6, 104, .inl fl)), (g0, .inr (1, [.long (lN T), .ref a1, .int (nI k), .ref a2, .ref a3, .int (nI n), .ref a4])), (a1, .inl (i1, 200, .inr (.inl O))), (a2, .inl (i2, 520, .inl mo)), (a3, .inl (i3, 520, .inr (.inl mb))), (a4, .inl (i4, 120, .inl tx))] := hD
  have hwx := hw
  refine lv_aload_n hx hb dL_law_88 rfl (lv_at hl 2 rfl) ?_
  have hPc := hP.sub (ws' := [(g0, .inr (1, [.long (lN T), .ref a1, .int (nI k), .ref a2, .ref a3, .int (nI n), .ref a4])), (a1, .inl (i1, 200, .inr (.inl O))), (a2, .inl (i2, 520, .inl mo)), (a3, .inl (i3, 520, .inr (.inl mb)))]) [7, 8, 9, 10] rfl
  have hDc := hD.sub (ws' := [(g0, .inr (1, [.long (lN T), .ref a1, .int (nI k), .ref a2, .ref a3, .int (nI n), .ref a4])), (a1, .inl (i1, 200, .inr (.inl O))), (a2, .inl (i2, 520, .inl mo)), (a3, .inl (i3, 520, .inr (.inl mb)))]) [7, 8, 9, 10] (by decide) rfl
  have hFc := va_free (wc := [(g0, .inr (1, [.long (lN T), .ref a1, .int (nI k), .ref a2, .ref a3, .int (nI n), .ref a4])), (a1, .inl (i1, 200, .inr (.inl O))), (a2, .inl (i2, 520, .inl mo)), (a3, .inl (i3, 520, .inr (.inl mb)))]) hD hS hA [7, 8, 9, 10] rfl
  have hKc := hK.sub (tys' := [(i1, .long), (i2, .int), (i3, .long)]) [6, 7, 8] rfl
  refine va_calli (va_runV (As := []) (rest := [.int rx]) ⟨hx, hb, hml, hown, hts⟩ (cY_pass l dC dI _ g0 a1 a2 a3 a4 i1 i2 i3 T (by omega) k (by omega) (nI n) O mo mb) (cwV 0 hts gL_law_X1_pass rfl rfl rfl (by decide +kernel) ⟨Nat.le_of_ble_eq_true rfl, Nat.le_of_ble_eq_true rfl⟩) (dk_wV hPc hKc hDc (ci := 1) (q0 := 0) rfl rfl) rfl rfl hl.1 rfl (lv_room (Nat.le_of_ble_eq_true rfl)) dL_law_89 ⟨Nat.le_of_ble_eq_true rfl, Nat.le_of_ble_eq_true rfl⟩) hS (fun q _ h => hFc q h) hFc (fun ry u8 t8 H1 locs ht8 hvm8 hw hB hz1 hk1 hS => ?_)
  try dsimp only at hw
  obtain ⟨O2, j2⟩ := u8
  try dsimp only at hw hB
  obtain ⟨hP1, hD1⟩ := hB
  rw [ht8] at hP1
  obtain ⟨hP, hD⟩ := va_join (wr := [(h0, .inr (0, [.int (d + nI ((t + 1) / 1000)), .int (nI ((t + 1) % 1000)), .ref qo, .ref qw, .ref qc, .ref qn, .ref qm, .ref ql, .int (nI n)])), (qo, .inl (k1, 200, .inr (.inl go))), (qw, .inl (k2, 200, .inr (.inl gw))), (qc, .inl (k3, 200, .inr (.inl gc))), (qn, .inl (k4, 200, .inr (.inl fn))), (qm, .inl (k5, 200, .inr (.inl gm))), (ql, .inl (k6, 104, .inl fl)), (a4, .inl (i4, 120, .inl tx))]) (w1 := [(g0, .inr (1, [.long (lN (T + 1)), .ref a1, .int (nI j2), .ref a2, .ref a3, .int (nI n), .ref a4])), (a1, .inl (i1, 200, .inr (.inl O2))), (a2, .inl (i2, 520, .inl mo)), (a3, .inl (i3, 520, .inr (.inl mb)))]) hP hD [7, 8, 9, 10] [0, 1, 2, 3, 4, 5, 6, 11] rfl rfl (by decide) (by decide) hk1 hFc hP1 hD1
  generalize H1 = H at hP hS ⊢
  have hP := hP.sub (ws' := [(h0, .inr (0, [.int (d + nI ((t + 1) / 1000)), .int (nI ((t + 1) % 1000)), .ref qo, .ref qw, .ref qc, .ref qn, .ref qm, .ref ql, .int (nI n)])), (qo, .inl (k1, 200, .inr (.inl go))), (qw, .inl (k2, 200, .inr (.inl gw))), (qc, .inl (k3, 200, .inr (.inl gc))), (qn, .inl (k4, 200, .inr (.inl fn))), (qm, .inl (k5, 200, .inr (.inl gm))), (ql, .inl (k6, 104, .inl fl)), (g0, .inr (1, [.long (lN (T + 1)), .ref a1, .int (nI j2), .ref a2, .ref a3, .int (nI n), .ref a4])), (a1, .inl (i1, 200, .inr (.inl O2))), (a2, .inl (i2, 520, .inl mo)), (a3, .inl (i3, 520, .inr (.inl mb))), (a4, .inl (i4, 120, .inl tx))]) [0, 1, 2, 3, 4, 5, 6, 8, 9, 10, 11, 7] rfl
  have hD := hD.sub (ws' := [(h0, .inr (0, [.int (d + nI ((t + 1) / 1000)), .int (nI ((t + 1) % 1000)), .ref qo, .ref qw, .ref qc, .ref qn, .ref qm, .ref ql, .int (nI n)])), (qo, .inl (k1, 200, .inr (.inl go))), (qw, .inl (k2, 200, .inr (.inl gw))), (qc, .inl (k3, 200, .inr (.inl gc))), (qn, .inl (k4, 200, .inr (.inl fn))), (qm, .inl (k5, 200, .inr (.inl gm))), (ql, .inl (k6, 104, .inl fl)), (g0, .inr (1, [.long (lN (T + 1)), .ref a1, .int (nI j2), .ref a2, .ref a3, .int (nI n), .ref a4])), (a1, .inl (i1, 200, .inr (.inl O2))), (a2, .inl (i2, 520, .inl mo)), (a3, .inl (i3, 520, .inr (.inl mb))), (a4, .inl (i4, 120, .inl tx))]) [0, 1, 2, 3, 4, 5, 6, 8, 9, 10, 11, 7] (by decide) rfl
  have hP : va_P (dC, dI) vwCl [(h0, .inr (0, [.int (d + nI ((t + 1) / 1000)), .int (nI ((t + 1) % 1000)), .ref qo, .ref qw, .ref qc, .ref qn, .ref qm, .ref ql, .int (nI n)])), (qo, .inl (k1, 200, .inr (.inl go))), (qw, .inl (k2, 200, .inr (.inl gw))), (qc, .inl (k3, 200, .inr (.inl gc))), (qn, .inl (k4, 200, .inr (.inl fn))), (qm, .inl (k5, 200, .inr (.inl gm))), (ql, .inl (k6, 104, .inl fl)), (g0, .inr (1, [.long (lN (T + 1)), .ref a1, .int (nI j2), .ref a2, .ref a3, .int (nI n), .ref a4])), (a1, .inl (i1, 200, .inr (.inl O2))), (a2, .inl (i2, 520, .inl mo)), (a3, .inl (i3, 520, .inr (.inl mb))), (a4, .inl (i4, 120, .inl tx))] H := hP
  have hD : va_D (fun q : Nat => s.heap.size ≤ q) [(h0, .inr (0, [.int (d + nI ((t + 1) / 1000)), .int (nI ((t + 1) % 1000)), .ref qo, .ref qw, .ref qc, .ref qn, .ref qm, .ref ql, .int (nI n)])), (qo, .inl (k1, 200, .inr (.inl go))), (qw, .inl (k2, 200, .inr (.inl gw))), (qc, .inl (k3, 200, .inr (.inl gc))), (qn, .inl (k4, 200, .inr (.inl fn))), (qm, .inl (k5, 200, .inr (.inl gm))), (ql, .inl (k6, 104, .inl fl)), (g0, .inr (1, [.long (lN (T + 1)), .ref a1, .int (nI j2), .ref a2, .ref a3, .int (nI n), .ref a4])), (a1, .inl (i1, 200, .inr (.inl O2))), (a2, .inl (i2, 520, .inl mo)), (a3, .inl (i3, 520, .inr (.inl mb))), (a4, .inl (i4, 120, .inl tx))] := hD
  have hwy := hw
  obtain ⟨e1, hop⟩ := hwx
  obtain ⟨e2, hys⟩ := hwy
  have req : rx = ry := by rw [e1, e2, show (t + 1) % 1000 = (T + 1) % 1000 from by omega]
  refine lv_icmp_eq (tgt := 368) hx hb dL_law_92 (by decide) (fun _ => ?_) (fun c9 => absurd req c9)
  exact kk (d + nI ((t + 1) / 1000)) ((t + 1) % 1000) n go gw gc fn gm fl (T + 1) j2 O2 mo mb tx (dk_Inv_adv 1 (by omega) hI hop hys) H locs hP hD hS ls hl
set_option maxHeartbeats 4000000 in
set_option maxRecDepth 100000 in
/-- the law: skip -/
theorem law_skip {p : Program} {l : Launch} {e : Env} {s : State} {m : MethodId} {below : List Frame} {meth : Method} {c : Code} {dC : Nat → ClassId} {dI : Nat → Nat → Nat} {b L : Nat} {xs : Nat → Int32} {h0 qo qw qc qn qm ql g0 a1 a2 a3 a4 : Nat} {k1 k2 k3 k4 k5 k6 i1 i2 i3 i4 : ClassId} (hL : L ≤ 2048) (C0 : lw_At p s m meth c b L xs) (hK : va_K (dC, dI) vwCl [(k1, .long), (k2, .long), (k3, .long), (k4, .long), (k5, .long), (k6, .char), (i1, .long), (i2, .int), (i3, .long), (i4, .int)] s) (i q : Nat) (hi : i + 4 ≤ L) (hq : q ≤ 511) (d : Int32) (t n : Nat) (fo fw fc fn fm : Nat → Int64) (fl : Nat → Int32) (T k : Nat) (O : Nat → Int64) (mo : Nat → Int32) (mb : Nat → Int64) (tx : Nat → Int32) (hI : dk_Inv q d t n fo fw fc fn fm fl T k O mo mb tx) (H : Heap) (locs : List Loc) (hP : va_P (dC, dI) vwCl [(h0, .inr (0, [.int d, .int (nI t), .ref qo, .ref qw, .ref qc, .ref qn, .ref qm, .ref ql, .int (nI n)])), (qo, .inl (k1, 200, .inr (.inl fo))), (qw, .inl (k2, 200, .inr (.inl fw))), (qc, .inl (k3, 200, .inr (.inl fc))), (qn, .inl (k4, 200, .inr (.inl fn))), (qm, .inl (k5, 200, .inr (.inl fm))), (ql, .inl (k6, 104, .inl fl)), (g0, .inr (1, [.long (lN T), .ref a1, .int (nI k), .ref a2, .ref a3, .int (nI n), .ref a4])), (a1, .inl (i1, 200, .inr (.inl O))), (a2, .inl (i2, 520, .inl mo)), (a3, .inl (i3, 520, .inr (.inl mb))), (a4, .inl (i4, 120, .inl tx))] H) (hD : va_D (fun q : Nat => s.heap.size ≤ q) [(h0, .inr (0, [.int d, .int (nI t), .ref qo, .ref qw, .ref qc, .ref qn, .ref qm, .ref ql, .int (nI n)])), (qo, .inl (k1, 200, .inr (.inl fo))), (qw, .inl (k2, 200, .inr (.inl fw))), (qc, .inl (k3, 200, .inr (.inl fc))), (qn, .inl (k4, 200, .inr (.inl fn))), (qm, .inl (k5, 200, .inr (.inl fm))), (ql, .inl (k6, 104, .inl fl)), (g0, .inr (1, [.long (lN T), .ref a1, .int (nI k), .ref a2, .ref a3, .int (nI n), .ref a4])), (a1, .inl (i1, 200, .inr (.inl O))), (a2, .inl (i2, 520, .inl mo)), (a3, .inl (i3, 520, .inr (.inl mb))), (a4, .inl (i4, 120, .inl tx))]) (hS : va_S (fun q : Nat => s.heap.size ≤ q) s.heap H locs) (ls : Array Slot) (hl : lv_has ls 4 [(0, .ref b), (1, .ref h0), (2, .ref g0), (3, .int (nI i))]) (kk : ∀ (d : Int32) (t n : Nat) (fo fw fc fn fm : Nat → Int64) (fl : Nat → Int32) (T k : Nat) (O : Nat → Int64) (mo : Nat → Int32) (mb : Nat → Int64) (tx : Nat → Int32), dk_Inv (q + 1) d t n fo fw fc fn fm fl T k O mo mb tx → ∀ (H : Heap) (locs : List Loc), va_P (dC, dI) vwCl [(h0, .inr (0, [.int d, .int (nI t), .ref qo, .ref qw, .ref qc, .ref qn, .ref qm, .ref ql, .int (nI n)])), (qo, .inl (k1, 200, .inr (.inl fo))), (qw, .inl (k2, 200, .inr (.inl fw))), (qc, .inl (k3, 200, .inr (.inl fc))), (qn, .inl (k4, 200, .inr (.inl fn))), (qm, .inl (k5, 200, .inr (.inl fm))), (ql, .inl (k6, 104, .inl fl)), (g0, .inr (1, [.long (lN T), .ref a1, .int (nI k), .ref a2, .ref a3, .int (nI n), .ref a4])), (a1, .inl (i1, 200, .inr (.inl O))), (a2, .inl (i2, 520, .inl mo)), (a3, .inl (i3, 520, .inr (.inl mb))), (a4, .inl (i4, 120, .inl tx))] H → va_D (fun q : Nat => s.heap.size ≤ q) [(h0, .inr (0, [.int d, .int (nI t), .ref qo, .ref qw, .ref qc, .ref qn, .ref qm, .ref ql, .int (nI n)])), (qo, .inl (k1, 200, .inr (.inl fo))), (qw, .inl (k2, 200, .inr (.inl fw))), (qc, .inl (k3, 200, .inr (.inl fc))), (qn, .inl (k4, 200, .inr (.inl fn))), (qm, .inl (k5, 200, .inr (.inl fm))), (ql, .inl (k6, 104, .inl fl)), (g0, .inr (1, [.long (lN T), .ref a1, .int (nI k), .ref a2, .ref a3, .int (nI n), .ref a4])), (a1, .inl (i1, 200, .inr (.inl O))), (a2, .inl (i2, 520, .inl mo)), (a3, .inl (i3, 520, .inr (.inl mb))), (a4, .inl (i4, 120, .inl tx))] → va_S (fun q : Nat => s.heap.size ≤ q) s.heap H locs → ∀ ls : Array Slot, lv_has ls 4 [(0, .ref b), (1, .ref h0), (2, .ref g0), (3, .int (nI i))] → W p l e room_1 s m #[Value.ref b] below meth c H locs 12 2480 (lw_Z below #[Value.ref b] s) (F0 m 368 ls [])) : W p l e room_1 s m #[Value.ref b] below meth c H locs 12 2480 (lw_Z below #[Value.ref b] s) (F0 m 97 ls []) := by
  obtain ⟨hx, hb, hr, hml, hown0, hts0, hX, hbl, hlocks, hgv⟩ := C0
  have hts : ∀ w ∈ wsL_law, w.before #[Value.ref b] s = true := fun w h => hts0 w (wsL_law_in w h)
  have hown : s.vm.findClass RL = some m.cls := hown0
  have hA : ∀ q : Nat, s.heap.size ≤ q → (fun q : Nat => s.heap.size ≤ q) q := fun _ h => h
  have hbA : ¬ (fun q : Nat => s.heap.size ≤ q) b := Nat.not_le.mpr hbl
  obtain ⟨v1, v2, v3, v4, v5, v6, v7⟩ := id hI
  have ht9 : t < 1000 := by rw [v1]; exact Nat.mod_lt _ (by decide)
  have hT9 : T ≤ 51100000 := Nat.le_trans v3 (Nat.mul_le_mul_right 100000 hq)
  refine lv_aload_n hx hb dL_law_97 rfl (lv_at hl 1 rfl) ?_
  refine lv_aload_n hx hb dL_law_98 rfl (lv_at hl 0 rfl) ?_
  refine lv_iload_n hx hb dL_law_99 rfl (lv_at hl 3 rfl) ?_
  refine lv_iconst (v := 1) hx hb dL_law_100 (by decide) ?_
  refine lv_iadd hx hb dL_law_101 ?_
  refine dk_asi (y := nI (i + 1)) (nI_add i 1) ?_
  refine dk_sld hx hb hX hbl hbA hS (j := i + 1) (by omega) (by omega) dL_law_102 ?_
  have hPc := hP.sub (ws' := [(h0, .inr (0, [.int d, .int (nI t), .ref qo, .ref qw, .ref qc, .ref qn, .ref qm, .ref ql, .int (nI n)])), (qo, .inl (k1, 200, .inr (.inl fo))), (qw, .inl (k2, 200, .inr (.inl fw))), (qc, .inl (k3, 200, .inr (.inl fc))), (qn, .inl (k4, 200, .inr (.inl fn))), (qm, .inl (k5, 200, .inr (.inl fm)))]) [0, 1, 2, 3, 4, 5] rfl
  have hDc := hD.sub (ws' := [(h0, .inr (0, [.int d, .int (nI t), .ref qo, .ref qw, .ref qc, .ref qn, .ref qm, .ref ql, .int (nI n)])), (qo, .inl (k1, 200, .inr (.inl fo))), (qw, .inl (k2, 200, .inr (.inl fw))), (qc, .inl (k3, 200, .inr (.inl fc))), (qn, .inl (k4, 200, .inr (.inl fn))), (qm, .inl (k5, 200, .inr (.inl fm)))]) [0, 1, 2, 3, 4, 5] (by decide) rfl
  have hFc := va_free (wc := [(h0, .inr (0, [.int d, .int (nI t), .ref qo, .ref qw, .ref qc, .ref qn, .ref qm, .ref ql, .int (nI n)])), (qo, .inl (k1, 200, .inr (.inl fo))), (qw, .inl (k2, 200, .inr (.inl fw))), (qc, .inl (k3, 200, .inr (.inl fc))), (qn, .inl (k4, 200, .inr (.inl fn))), (qm, .inl (k5, 200, .inr (.inl fm)))]) hD hS hA [0, 1, 2, 3, 4, 5] rfl
  have hKc := hK.sub (tys' := [(k1, .long), (k2, .long), (k3, .long), (k4, .long), (k5, .long)]) [0, 1, 2, 3, 4] rfl
  refine va_calli (va_runV (As := [.int (xs (i + 1))]) (rest := []) ⟨hx, hb, hml, hown, hts⟩ (cX_skip l dC dI _ h0 qo qw qc qn qm ql k1 k2 k3 k4 k5 d (nI n) t ht9 fo fw fc fn fm (xs (i + 1))) (cwV 1 hts gL_law_X0_skip rfl rfl rfl (by decide +kernel) ⟨Nat.le_of_ble_eq_true rfl, Nat.le_of_ble_eq_true rfl⟩) (dk_wV hPc hKc hDc (ci := 0) (q0 := 0) rfl rfl) rfl rfl hl.1 rfl (lv_room (Nat.le_of_ble_eq_true rfl)) dL_law_103 ⟨Nat.le_of_ble_eq_true rfl, Nat.le_of_ble_eq_true rfl⟩) hS (fun q _ h => hFc q h) hFc (fun rx u8 t8 H1 locs ht8 hvm8 hw hB hz1 hk1 hS => ?_)
  try dsimp only at hw
  obtain ⟨e2, t2, go, gw, gc, gm⟩ := u8
  try dsimp only at hw hB
  obtain ⟨hP1, hD1⟩ := hB
  rw [ht8] at hP1
  obtain ⟨hP, hD⟩ := va_join (wr := [(ql, .inl (k6, 104, .inl fl)), (g0, .inr (1, [.long (lN T), .ref a1, .int (nI k), .ref a2, .ref a3, .int (nI n), .ref a4])), (a1, .inl (i1, 200, .inr (.inl O))), (a2, .inl (i2, 520, .inl mo)), (a3, .inl (i3, 520, .inr (.inl mb))), (a4, .inl (i4, 120, .inl tx))]) (w1 := [(h0, .inr (0, [.int e2, .int (nI t2), .ref qo, .ref qw, .ref qc, .ref qn, .ref qm, .ref ql, .int (nI n)])), (qo, .inl (k1, 200, .inr (.inl go))), (qw, .inl (k2, 200, .inr (.inl gw))), (qc, .inl (k3, 200, .inr (.inl gc))), (qn, .inl (k4, 200, .inr (.inl fn))), (qm, .inl (k5, 200, .inr (.inl gm)))]) hP hD [0, 1, 2, 3, 4, 5] [6, 7, 8, 9, 10, 11] rfl rfl (by decide) (by decide) hk1 hFc hP1 hD1
  generalize H1 = H at hP hS ⊢
  have hP := hP.sub (ws' := [(h0, .inr (0, [.int e2, .int (nI t2), .ref qo, .ref qw, .ref qc, .ref qn, .ref qm, .ref ql, .int (nI n)])), (qo, .inl (k1, 200, .inr (.inl go))), (qw, .inl (k2, 200, .inr (.inl gw))), (qc, .inl (k3, 200, .inr (.inl gc))), (qn, .inl (k4, 200, .inr (.inl fn))), (qm, .inl (k5, 200, .inr (.inl gm))), (ql, .inl (k6, 104, .inl fl)), (g0, .inr (1, [.long (lN T), .ref a1, .int (nI k), .ref a2, .ref a3, .int (nI n), .ref a4])), (a1, .inl (i1, 200, .inr (.inl O))), (a2, .inl (i2, 520, .inl mo)), (a3, .inl (i3, 520, .inr (.inl mb))), (a4, .inl (i4, 120, .inl tx))]) [6, 7, 8, 9, 10, 11, 0, 1, 2, 3, 4, 5] rfl
  have hD := hD.sub (ws' := [(h0, .inr (0, [.int e2, .int (nI t2), .ref qo, .ref qw, .ref qc, .ref qn, .ref qm, .ref ql, .int (nI n)])), (qo, .inl (k1, 200, .inr (.inl go))), (qw, .inl (k2, 200, .inr (.inl gw))), (qc, .inl (k3, 200, .inr (.inl gc))), (qn, .inl (k4, 200, .inr (.inl fn))), (qm, .inl (k5, 200, .inr (.inl gm))), (ql, .inl (k6, 104, .inl fl)), (g0, .inr (1, [.long (lN T), .ref a1, .int (nI k), .ref a2, .ref a3, .int (nI n), .ref a4])), (a1, .inl (i1, 200, .inr (.inl O))), (a2, .inl (i2, 520, .inl mo)), (a3, .inl (i3, 520, .inr (.inl mb))), (a4, .inl (i4, 120, .inl tx))]) [6, 7, 8, 9, 10, 11, 0, 1, 2, 3, 4, 5] (by decide) rfl
  have hP : va_P (dC, dI) vwCl [(h0, .inr (0, [.int e2, .int (nI t2), .ref qo, .ref qw, .ref qc, .ref qn, .ref qm, .ref ql, .int (nI n)])), (qo, .inl (k1, 200, .inr (.inl go))), (qw, .inl (k2, 200, .inr (.inl gw))), (qc, .inl (k3, 200, .inr (.inl gc))), (qn, .inl (k4, 200, .inr (.inl fn))), (qm, .inl (k5, 200, .inr (.inl gm))), (ql, .inl (k6, 104, .inl fl)), (g0, .inr (1, [.long (lN T), .ref a1, .int (nI k), .ref a2, .ref a3, .int (nI n), .ref a4])), (a1, .inl (i1, 200, .inr (.inl O))), (a2, .inl (i2, 520, .inl mo)), (a3, .inl (i3, 520, .inr (.inl mb))), (a4, .inl (i4, 120, .inl tx))] H := hP
  have hD : va_D (fun q : Nat => s.heap.size ≤ q) [(h0, .inr (0, [.int e2, .int (nI t2), .ref qo, .ref qw, .ref qc, .ref qn, .ref qm, .ref ql, .int (nI n)])), (qo, .inl (k1, 200, .inr (.inl go))), (qw, .inl (k2, 200, .inr (.inl gw))), (qc, .inl (k3, 200, .inr (.inl gc))), (qn, .inl (k4, 200, .inr (.inl fn))), (qm, .inl (k5, 200, .inr (.inl gm))), (ql, .inl (k6, 104, .inl fl)), (g0, .inr (1, [.long (lN T), .ref a1, .int (nI k), .ref a2, .ref a3, .int (nI n), .ref a4])), (a1, .inl (i1, 200, .inr (.inl O))), (a2, .inl (i2, 520, .inl mo)), (a3, .inl (i3, 520, .inr (.inl mb))), (a4, .inl (i4, 120, .inl tx))] := hD
  have hwx := hw
  refine lv_aload_n hx hb dL_law_106 rfl (lv_at hl 2 rfl) ?_
  refine lv_aload_n hx hb dL_law_107 rfl (lv_at hl 0 rfl) ?_
  refine lv_iload_n hx hb dL_law_108 rfl (lv_at hl 3 rfl) ?_
  refine lv_iconst (v := 1) hx hb dL_law_109 (by decide) ?_
  refine lv_iadd hx hb dL_law_110 ?_
  refine dk_asi (y := nI (i + 1)) (nI_add i 1) ?_
  refine dk_sld hx hb hX hbl hbA hS (j := i + 1) (by omega) (by omega) dL_law_111 ?_
  have hPc := hP.sub (ws' := [(g0, .inr (1, [.long (lN T), .ref a1, .int (nI k), .ref a2, .ref a3, .int (nI n), .ref a4])), (a1, .inl (i1, 200, .inr (.inl O))), (a2, .inl (i2, 520, .inl mo)), (a3, .inl (i3, 520, .inr (.inl mb)))]) [7, 8, 9, 10] rfl
  have hDc := hD.sub (ws' := [(g0, .inr (1, [.long (lN T), .ref a1, .int (nI k), .ref a2, .ref a3, .int (nI n), .ref a4])), (a1, .inl (i1, 200, .inr (.inl O))), (a2, .inl (i2, 520, .inl mo)), (a3, .inl (i3, 520, .inr (.inl mb)))]) [7, 8, 9, 10] (by decide) rfl
  have hFc := va_free (wc := [(g0, .inr (1, [.long (lN T), .ref a1, .int (nI k), .ref a2, .ref a3, .int (nI n), .ref a4])), (a1, .inl (i1, 200, .inr (.inl O))), (a2, .inl (i2, 520, .inl mo)), (a3, .inl (i3, 520, .inr (.inl mb)))]) hD hS hA [7, 8, 9, 10] rfl
  have hKc := hK.sub (tys' := [(i1, .long), (i2, .int), (i3, .long)]) [6, 7, 8] rfl
  refine va_calli (va_runV (As := [.int (xs (i + 1))]) (rest := [.int rx]) ⟨hx, hb, hml, hown, hts⟩ (cY_skip l dC dI _ g0 a1 a2 a3 a4 i1 i2 i3 T (by omega) k (by omega) (nI n) O mo mb (xs (i + 1))) (cwV 1 hts gL_law_X1_skip rfl rfl rfl (by decide +kernel) ⟨Nat.le_of_ble_eq_true rfl, Nat.le_of_ble_eq_true rfl⟩) (dk_wV hPc hKc hDc (ci := 1) (q0 := 0) rfl rfl) rfl rfl hl.1 rfl (lv_room (Nat.le_of_ble_eq_true rfl)) dL_law_112 ⟨Nat.le_of_ble_eq_true rfl, Nat.le_of_ble_eq_true rfl⟩) hS (fun q _ h => hFc q h) hFc (fun ry u8 t8 H1 locs ht8 hvm8 hw hB hz1 hk1 hS => ?_)
  try dsimp only at hw
  obtain ⟨O2, j2, T2⟩ := u8
  try dsimp only at hw hB
  obtain ⟨hP1, hD1⟩ := hB
  rw [ht8] at hP1
  obtain ⟨hP, hD⟩ := va_join (wr := [(h0, .inr (0, [.int e2, .int (nI t2), .ref qo, .ref qw, .ref qc, .ref qn, .ref qm, .ref ql, .int (nI n)])), (qo, .inl (k1, 200, .inr (.inl go))), (qw, .inl (k2, 200, .inr (.inl gw))), (qc, .inl (k3, 200, .inr (.inl gc))), (qn, .inl (k4, 200, .inr (.inl fn))), (qm, .inl (k5, 200, .inr (.inl gm))), (ql, .inl (k6, 104, .inl fl)), (a4, .inl (i4, 120, .inl tx))]) (w1 := [(g0, .inr (1, [.long (lN T2), .ref a1, .int (nI j2), .ref a2, .ref a3, .int (nI n), .ref a4])), (a1, .inl (i1, 200, .inr (.inl O2))), (a2, .inl (i2, 520, .inl mo)), (a3, .inl (i3, 520, .inr (.inl mb)))]) hP hD [7, 8, 9, 10] [0, 1, 2, 3, 4, 5, 6, 11] rfl rfl (by decide) (by decide) hk1 hFc hP1 hD1
  generalize H1 = H at hP hS ⊢
  have hP := hP.sub (ws' := [(h0, .inr (0, [.int e2, .int (nI t2), .ref qo, .ref qw, .ref qc, .ref qn, .ref qm, .ref ql, .int (nI n)])), (qo, .inl (k1, 200, .inr (.inl go))), (qw, .inl (k2, 200, .inr (.inl gw))), (qc, .inl (k3, 200, .inr (.inl gc))), (qn, .inl (k4, 200, .inr (.inl fn))), (qm, .inl (k5, 200, .inr (.inl gm))), (ql, .inl (k6, 104, .inl fl)), (g0, .inr (1, [.long (lN T2), .ref a1, .int (nI j2), .ref a2, .ref a3, .int (nI n), .ref a4])), (a1, .inl (i1, 200, .inr (.inl O2))), (a2, .inl (i2, 520, .inl mo)), (a3, .inl (i3, 520, .inr (.inl mb))), (a4, .inl (i4, 120, .inl tx))]) [0, 1, 2, 3, 4, 5, 6, 8, 9, 10, 11, 7] rfl
  have hD := hD.sub (ws' := [(h0, .inr (0, [.int e2, .int (nI t2), .ref qo, .ref qw, .ref qc, .ref qn, .ref qm, .ref ql, .int (nI n)])), (qo, .inl (k1, 200, .inr (.inl go))), (qw, .inl (k2, 200, .inr (.inl gw))), (qc, .inl (k3, 200, .inr (.inl gc))), (qn, .inl (k4, 200, .inr (.inl fn))), (qm, .inl (k5, 200, .inr (.inl gm))), (ql, .inl (k6, 104, .inl fl)), (g0, .inr (1, [.long (lN T2), .ref a1, .int (nI j2), .ref a2, .ref a3, .int (nI n), .ref a4])), (a1, .inl (i1, 200, .inr (.inl O2))), (a2, .inl (i2, 520, .inl mo)), (a3, .inl (i3, 520, .inr (.inl mb))), (a4, .inl (i4, 120, .inl tx))]) [0, 1, 2, 3, 4, 5, 6, 8, 9, 10, 11, 7] (by decide) rfl
  have hP : va_P (dC, dI) vwCl [(h0, .inr (0, [.int e2, .int (nI t2), .ref qo, .ref qw, .ref qc, .ref qn, .ref qm, .ref ql, .int (nI n)])), (qo, .inl (k1, 200, .inr (.inl go))), (qw, .inl (k2, 200, .inr (.inl gw))), (qc, .inl (k3, 200, .inr (.inl gc))), (qn, .inl (k4, 200, .inr (.inl fn))), (qm, .inl (k5, 200, .inr (.inl gm))), (ql, .inl (k6, 104, .inl fl)), (g0, .inr (1, [.long (lN T2), .ref a1, .int (nI j2), .ref a2, .ref a3, .int (nI n), .ref a4])), (a1, .inl (i1, 200, .inr (.inl O2))), (a2, .inl (i2, 520, .inl mo)), (a3, .inl (i3, 520, .inr (.inl mb))), (a4, .inl (i4, 120, .inl tx))] H := hP
  have hD : va_D (fun q : Nat => s.heap.size ≤ q) [(h0, .inr (0, [.int e2, .int (nI t2), .ref qo, .ref qw, .ref qc, .ref qn, .ref qm, .ref ql, .int (nI n)])), (qo, .inl (k1, 200, .inr (.inl go))), (qw, .inl (k2, 200, .inr (.inl gw))), (qc, .inl (k3, 200, .inr (.inl gc))), (qn, .inl (k4, 200, .inr (.inl fn))), (qm, .inl (k5, 200, .inr (.inl gm))), (ql, .inl (k6, 104, .inl fl)), (g0, .inr (1, [.long (lN T2), .ref a1, .int (nI j2), .ref a2, .ref a3, .int (nI n), .ref a4])), (a1, .inl (i1, 200, .inr (.inl O2))), (a2, .inl (i2, 520, .inl mo)), (a3, .inl (i3, 520, .inr (.inl mb))), (a4, .inl (i4, 120, .inl tx))] := hD
  have hwy := hw
  obtain ⟨req, hI2⟩ := dk_Inv_sk hI hwx hwy
  refine lv_icmp_eq (tgt := 368) hx hb dL_law_115 (by decide) (fun _ => ?_) (fun c9 => absurd req c9)
  exact kk e2 t2 n go gw gc fn gm fl T2 j2 O2 mo mb tx hI2 H locs hP hD hS ls hl
set_option maxHeartbeats 4000000 in
set_option maxRecDepth 100000 in
/-- the law: may -/
theorem law_may {p : Program} {l : Launch} {e : Env} {s : State} {m : MethodId} {below : List Frame} {meth : Method} {c : Code} {dC : Nat → ClassId} {dI : Nat → Nat → Nat} {b L : Nat} {xs : Nat → Int32} {h0 qo qw qc qn qm ql g0 a1 a2 a3 a4 : Nat} {k1 k2 k3 k4 k5 k6 i1 i2 i3 i4 : ClassId} (hL : L ≤ 2048) (C0 : lw_At p s m meth c b L xs) (hK : va_K (dC, dI) vwCl [(k1, .long), (k2, .long), (k3, .long), (k4, .long), (k5, .long), (k6, .char), (i1, .long), (i2, .int), (i3, .long), (i4, .int)] s) (i q : Nat) (hi : i + 4 ≤ L) (hq : q ≤ 511) (d : Int32) (t n : Nat) (fo fw fc fn fm : Nat → Int64) (fl : Nat → Int32) (T k : Nat) (O : Nat → Int64) (mo : Nat → Int32) (mb : Nat → Int64) (tx : Nat → Int32) (hI : dk_Inv q d t n fo fw fc fn fm fl T k O mo mb tx) (H : Heap) (locs : List Loc) (hP : va_P (dC, dI) vwCl [(h0, .inr (0, [.int d, .int (nI t), .ref qo, .ref qw, .ref qc, .ref qn, .ref qm, .ref ql, .int (nI n)])), (qo, .inl (k1, 200, .inr (.inl fo))), (qw, .inl (k2, 200, .inr (.inl fw))), (qc, .inl (k3, 200, .inr (.inl fc))), (qn, .inl (k4, 200, .inr (.inl fn))), (qm, .inl (k5, 200, .inr (.inl fm))), (ql, .inl (k6, 104, .inl fl)), (g0, .inr (1, [.long (lN T), .ref a1, .int (nI k), .ref a2, .ref a3, .int (nI n), .ref a4])), (a1, .inl (i1, 200, .inr (.inl O))), (a2, .inl (i2, 520, .inl mo)), (a3, .inl (i3, 520, .inr (.inl mb))), (a4, .inl (i4, 120, .inl tx))] H) (hD : va_D (fun q : Nat => s.heap.size ≤ q) [(h0, .inr (0, [.int d, .int (nI t), .ref qo, .ref qw, .ref qc, .ref qn, .ref qm, .ref ql, .int (nI n)])), (qo, .inl (k1, 200, .inr (.inl fo))), (qw, .inl (k2, 200, .inr (.inl fw))), (qc, .inl (k3, 200, .inr (.inl fc))), (qn, .inl (k4, 200, .inr (.inl fn))), (qm, .inl (k5, 200, .inr (.inl fm))), (ql, .inl (k6, 104, .inl fl)), (g0, .inr (1, [.long (lN T), .ref a1, .int (nI k), .ref a2, .ref a3, .int (nI n), .ref a4])), (a1, .inl (i1, 200, .inr (.inl O))), (a2, .inl (i2, 520, .inl mo)), (a3, .inl (i3, 520, .inr (.inl mb))), (a4, .inl (i4, 120, .inl tx))]) (hS : va_S (fun q : Nat => s.heap.size ≤ q) s.heap H locs) (ls : Array Slot) (hl : lv_has ls 4 [(0, .ref b), (1, .ref h0), (2, .ref g0), (3, .int (nI i))]) (kk : ∀ (d : Int32) (t n : Nat) (fo fw fc fn fm : Nat → Int64) (fl : Nat → Int32) (T k : Nat) (O : Nat → Int64) (mo : Nat → Int32) (mb : Nat → Int64) (tx : Nat → Int32), dk_Inv (q + 1) d t n fo fw fc fn fm fl T k O mo mb tx → ∀ (H : Heap) (locs : List Loc), va_P (dC, dI) vwCl [(h0, .inr (0, [.int d, .int (nI t), .ref qo, .ref qw, .ref qc, .ref qn, .ref qm, .ref ql, .int (nI n)])), (qo, .inl (k1, 200, .inr (.inl fo))), (qw, .inl (k2, 200, .inr (.inl fw))), (qc, .inl (k3, 200, .inr (.inl fc))), (qn, .inl (k4, 200, .inr (.inl fn))), (qm, .inl (k5, 200, .inr (.inl fm))), (ql, .inl (k6, 104, .inl fl)), (g0, .inr (1, [.long (lN T), .ref a1, .int (nI k), .ref a2, .ref a3, .int (nI n), .ref a4])), (a1, .inl (i1, 200, .inr (.inl O))), (a2, .inl (i2, 520, .inl mo)), (a3, .inl (i3, 520, .inr (.inl mb))), (a4, .inl (i4, 120, .inl tx))] H → va_D (fun q : Nat => s.heap.size ≤ q) [(h0, .inr (0, [.int d, .int (nI t), .ref qo, .ref qw, .ref qc, .ref qn, .ref qm, .ref ql, .int (nI n)])), (qo, .inl (k1, 200, .inr (.inl fo))), (qw, .inl (k2, 200, .inr (.inl fw))), (qc, .inl (k3, 200, .inr (.inl fc))), (qn, .inl (k4, 200, .inr (.inl fn))), (qm, .inl (k5, 200, .inr (.inl fm))), (ql, .inl (k6, 104, .inl fl)), (g0, .inr (1, [.long (lN T), .ref a1, .int (nI k), .ref a2, .ref a3, .int (nI n), .ref a4])), (a1, .inl (i1, 200, .inr (.inl O))), (a2, .inl (i2, 520, .inl mo)), (a3, .inl (i3, 520, .inr (.inl mb))), (a4, .inl (i4, 120, .inl tx))] → va_S (fun q : Nat => s.heap.size ≤ q) s.heap H locs → ∀ ls : Array Slot, lv_has ls 4 [(0, .ref b), (1, .ref h0), (2, .ref g0), (3, .int (nI i))] → W p l e room_1 s m #[Value.ref b] below meth c H locs 12 2480 (lw_Z below #[Value.ref b] s) (F0 m 368 ls [])) : W p l e room_1 s m #[Value.ref b] below meth c H locs 12 2480 (lw_Z below #[Value.ref b] s) (F0 m 120 ls []) := by
  obtain ⟨hx, hb, hr, hml, hown0, hts0, hX, hbl, hlocks, hgv⟩ := C0
  have hts : ∀ w ∈ wsL_law, w.before #[Value.ref b] s = true := fun w h => hts0 w (wsL_law_in w h)
  have hown : s.vm.findClass RL = some m.cls := hown0
  have hA : ∀ q : Nat, s.heap.size ≤ q → (fun q : Nat => s.heap.size ≤ q) q := fun _ h => h
  have hbA : ¬ (fun q : Nat => s.heap.size ≤ q) b := Nat.not_le.mpr hbl
  obtain ⟨v1, v2, v3, v4, v5, v6, v7⟩ := id hI
  have ht9 : t < 1000 := by rw [v1]; exact Nat.mod_lt _ (by decide)
  have hT9 : T ≤ 51100000 := Nat.le_trans v3 (Nat.mul_le_mul_right 100000 hq)
  refine lv_aload_n hx hb dL_law_120 rfl (lv_at hl 1 rfl) ?_
  refine lv_aload_n hx hb dL_law_121 rfl (lv_at hl 0 rfl) ?_
  refine lv_iload_n hx hb dL_law_122 rfl (lv_at hl 3 rfl) ?_
  refine lv_iconst (v := 1) hx hb dL_law_123 (by decide) ?_
  refine lv_iadd hx hb dL_law_124 ?_
  refine dk_asi (y := nI (i + 1)) (nI_add i 1) ?_
  refine dk_sld hx hb hX hbl hbA hS (j := i + 1) (by omega) (by omega) dL_law_125 ?_
  refine lv_aload_n hx hb dL_law_126 rfl (lv_at hl 0 rfl) ?_
  refine lv_iload_n hx hb dL_law_127 rfl (lv_at hl 3 rfl) ?_
  refine lv_iconst (v := 2) hx hb dL_law_128 (by decide) ?_
  refine lv_iadd hx hb dL_law_129 ?_
  refine dk_asi (y := nI (i + 2)) (nI_add i 2) ?_
  refine dk_sld hx hb hX hbl hbA hS (j := i + 2) (by omega) (by omega) dL_law_130 ?_
  refine lv_aload_n hx hb dL_law_131 rfl (lv_at hl 0 rfl) ?_
  refine lv_iload_n hx hb dL_law_132 rfl (lv_at hl 3 rfl) ?_
  refine lv_iconst (v := 3) hx hb dL_law_133 (by decide) ?_
  refine lv_iadd hx hb dL_law_134 ?_
  refine dk_asi (y := nI (i + 3)) (nI_add i 3) ?_
  refine dk_sld hx hb hX hbl hbA hS (j := i + 3) (by omega) (by omega) dL_law_135 ?_
  refine lv_if_eq (tgt := 143) hx hb dL_law_136 (by decide) (fun c_136 => ?_) (fun c_136 => ?_)
  · refine lv_iconst (v := 0) hx hb dL_law_143 (by decide) ?_
    have hPc := hP.sub (ws' := [(h0, .inr (0, [.int d, .int (nI t), .ref qo, .ref qw, .ref qc, .ref qn, .ref qm, .ref ql, .int (nI n)]))]) [0] rfl
    have hKc := hK.sub (tys' := []) [] rfl
    refine va_calli (va_runV (As := [.int (xs (i + 1)), .int (xs (i + 2)), .int 0]) (rest := []) ⟨hx, hb, hml, hown, hts⟩ (cX_may l dC dI h0 qo qw qc qn qm ql d (nI n) t ht9 (xs (i + 1)) (xs (i + 2)) 0) (cwV 3 hts gL_law_X0_may rfl rfl rfl (by decide +kernel) ⟨Nat.le_of_ble_eq_true rfl, Nat.le_of_ble_eq_true rfl⟩) (dk_rV hPc hKc (ci := 0) (q0 := 0) rfl rfl) rfl rfl hl.1 rfl (lv_room (Nat.le_of_ble_eq_true rfl)) dL_law_144 ⟨Nat.le_of_ble_eq_true rfl, Nat.le_of_ble_eq_true rfl⟩) hS (fun q _ h => False.elim h) (fun q h => False.elim h) (fun rx u8 t8 H1 locs ht8 hvm8 hw hB hz1 hk1 hS => ?_)
    try dsimp only at hw
    have hP := dk_kept hP hk1
    generalize H1 = H at hP hS ⊢
    have hwx := hw
    refine lv_aload_n hx hb dL_law_147 rfl (lv_at hl 2 rfl) ?_
    refine lv_aload_n hx hb dL_law_148 rfl (lv_at hl 0 rfl) ?_
    refine lv_iload_n hx hb dL_law_149 rfl (lv_at hl 3 rfl) ?_
    refine lv_iconst (v := 1) hx hb dL_law_150 (by decide) ?_
    refine lv_iadd hx hb dL_law_151 ?_
    refine dk_asi (y := nI (i + 1)) (nI_add i 1) ?_
    refine dk_sld hx hb hX hbl hbA hS (j := i + 1) (by omega) (by omega) dL_law_152 ?_
    refine lv_aload_n hx hb dL_law_153 rfl (lv_at hl 0 rfl) ?_
    refine lv_iload_n hx hb dL_law_154 rfl (lv_at hl 3 rfl) ?_
    refine lv_iconst (v := 2) hx hb dL_law_155 (by decide) ?_
    refine lv_iadd hx hb dL_law_156 ?_
    refine dk_asi (y := nI (i + 2)) (nI_add i 2) ?_
    refine dk_sld hx hb hX hbl hbA hS (j := i + 2) (by omega) (by omega) dL_law_157 ?_
    refine lv_aload_n hx hb dL_law_158 rfl (lv_at hl 0 rfl) ?_
    refine lv_iload_n hx hb dL_law_159 rfl (lv_at hl 3 rfl) ?_
    refine lv_iconst (v := 3) hx hb dL_law_160 (by decide) ?_
    refine lv_iadd hx hb dL_law_161 ?_
    refine dk_asi (y := nI (i + 3)) (nI_add i 3) ?_
    refine dk_sld hx hb hX hbl hbA hS (j := i + 3) (by omega) (by omega) dL_law_162 ?_
    refine lv_if_eq (tgt := 170) hx hb dL_law_163 (by decide) (fun c_163 => ?_) (fun c_163 => ?_)
    · refine lv_iconst (v := 0) hx hb dL_law_170 (by decide) ?_
      have hPc := hP.sub (ws' := [(g0, .inr (1, [.long (lN T), .ref a1, .int (nI k), .ref a2, .ref a3, .int (nI n), .ref a4]))]) [7] rfl
      have hKc := hK.sub (tys' := []) [] rfl
      refine va_calli (va_runV (As := [.int (xs (i + 1)), .int (xs (i + 2)), .int 0]) (rest := [.int rx]) ⟨hx, hb, hml, hown, hts⟩ (cY_may l dC dI g0 a1 a2 a3 a4 T (by omega) (nI k) (nI n) (xs (i + 1)) (xs (i + 2)) 0) (cwV 3 hts gL_law_X1_may rfl rfl rfl (by decide +kernel) ⟨Nat.le_of_ble_eq_true rfl, Nat.le_of_ble_eq_true rfl⟩) (dk_rV hPc hKc (ci := 1) (q0 := 0) rfl rfl) rfl rfl hl.1 rfl (lv_room (Nat.le_of_ble_eq_true rfl)) dL_law_171 ⟨Nat.le_of_ble_eq_true rfl, Nat.le_of_ble_eq_true rfl⟩) hS (fun q _ h => False.elim h) (fun q h => False.elim h) (fun ry u8 t8 H1 locs ht8 hvm8 hw hB hz1 hk1 hS => ?_)
      try dsimp only at hw
      have hP := dk_kept hP hk1
      generalize H1 = H at hP hS ⊢
      have hwy := hw
      rw [v1] at hwx
      have req : rx = ry := dk_bool hwx hwy
      refine lv_icmp_eq (tgt := 368) hx hb dL_law_174 (by decide) (fun _ => ?_) (fun c9 => absurd req c9)
      exact kk d t n fo fw fc fn fm fl T k O mo mb tx (dk_Inv_mono (Nat.le_succ q) hI) H locs hP hD hS ls hl
    · exact absurd c_136 c_163
  · refine lv_iconst (v := 1) hx hb dL_law_139 (by decide) ?_
    refine lv_goto (tgt := 144) hx hb dL_law_140 (by decide) ?_
    have hPc := hP.sub (ws' := [(h0, .inr (0, [.int d, .int (nI t), .ref qo, .ref qw, .ref qc, .ref qn, .ref qm, .ref ql, .int (nI n)]))]) [0] rfl
    have hKc := hK.sub (tys' := []) [] rfl
    refine va_calli (va_runV (As := [.int (xs (i + 1)), .int (xs (i + 2)), .int 1]) (rest := []) ⟨hx, hb, hml, hown, hts⟩ (cX_may l dC dI h0 qo qw qc qn qm ql d (nI n) t ht9 (xs (i + 1)) (xs (i + 2)) 1) (cwV 3 hts gL_law_X0_may rfl rfl rfl (by decide +kernel) ⟨Nat.le_of_ble_eq_true rfl, Nat.le_of_ble_eq_true rfl⟩) (dk_rV hPc hKc (ci := 0) (q0 := 0) rfl rfl) rfl rfl hl.1 rfl (lv_room (Nat.le_of_ble_eq_true rfl)) dL_law_144 ⟨Nat.le_of_ble_eq_true rfl, Nat.le_of_ble_eq_true rfl⟩) hS (fun q _ h => False.elim h) (fun q h => False.elim h) (fun rx u8 t8 H1 locs ht8 hvm8 hw hB hz1 hk1 hS => ?_)
    try dsimp only at hw
    have hP := dk_kept hP hk1
    generalize H1 = H at hP hS ⊢
    have hwx := hw
    refine lv_aload_n hx hb dL_law_147 rfl (lv_at hl 2 rfl) ?_
    refine lv_aload_n hx hb dL_law_148 rfl (lv_at hl 0 rfl) ?_
    refine lv_iload_n hx hb dL_law_149 rfl (lv_at hl 3 rfl) ?_
    refine lv_iconst (v := 1) hx hb dL_law_150 (by decide) ?_
    refine lv_iadd hx hb dL_law_151 ?_
    refine dk_asi (y := nI (i + 1)) (nI_add i 1) ?_
    refine dk_sld hx hb hX hbl hbA hS (j := i + 1) (by omega) (by omega) dL_law_152 ?_
    refine lv_aload_n hx hb dL_law_153 rfl (lv_at hl 0 rfl) ?_
    refine lv_iload_n hx hb dL_law_154 rfl (lv_at hl 3 rfl) ?_
    refine lv_iconst (v := 2) hx hb dL_law_155 (by decide) ?_
    refine lv_iadd hx hb dL_law_156 ?_
    refine dk_asi (y := nI (i + 2)) (nI_add i 2) ?_
    refine dk_sld hx hb hX hbl hbA hS (j := i + 2) (by omega) (by omega) dL_law_157 ?_
    refine lv_aload_n hx hb dL_law_158 rfl (lv_at hl 0 rfl) ?_
    refine lv_iload_n hx hb dL_law_159 rfl (lv_at hl 3 rfl) ?_
    refine lv_iconst (v := 3) hx hb dL_law_160 (by decide) ?_
    refine lv_iadd hx hb dL_law_161 ?_
    refine dk_asi (y := nI (i + 3)) (nI_add i 3) ?_
    refine dk_sld hx hb hX hbl hbA hS (j := i + 3) (by omega) (by omega) dL_law_162 ?_
    refine lv_if_eq (tgt := 170) hx hb dL_law_163 (by decide) (fun c_163 => ?_) (fun c_163 => ?_)
    · exact absurd c_163 c_136
    · refine lv_iconst (v := 1) hx hb dL_law_166 (by decide) ?_
      refine lv_goto (tgt := 171) hx hb dL_law_167 (by decide) ?_
      have hPc := hP.sub (ws' := [(g0, .inr (1, [.long (lN T), .ref a1, .int (nI k), .ref a2, .ref a3, .int (nI n), .ref a4]))]) [7] rfl
      have hKc := hK.sub (tys' := []) [] rfl
      refine va_calli (va_runV (As := [.int (xs (i + 1)), .int (xs (i + 2)), .int 1]) (rest := [.int rx]) ⟨hx, hb, hml, hown, hts⟩ (cY_may l dC dI g0 a1 a2 a3 a4 T (by omega) (nI k) (nI n) (xs (i + 1)) (xs (i + 2)) 1) (cwV 3 hts gL_law_X1_may rfl rfl rfl (by decide +kernel) ⟨Nat.le_of_ble_eq_true rfl, Nat.le_of_ble_eq_true rfl⟩) (dk_rV hPc hKc (ci := 1) (q0 := 0) rfl rfl) rfl rfl hl.1 rfl (lv_room (Nat.le_of_ble_eq_true rfl)) dL_law_171 ⟨Nat.le_of_ble_eq_true rfl, Nat.le_of_ble_eq_true rfl⟩) hS (fun q _ h => False.elim h) (fun q h => False.elim h) (fun ry u8 t8 H1 locs ht8 hvm8 hw hB hz1 hk1 hS => ?_)
      try dsimp only at hw
      have hP := dk_kept hP hk1
      generalize H1 = H at hP hS ⊢
      have hwy := hw
      rw [v1] at hwx
      have req : rx = ry := dk_bool hwx hwy
      refine lv_icmp_eq (tgt := 368) hx hb dL_law_174 (by decide) (fun _ => ?_) (fun c9 => absurd req c9)
      exact kk d t n fo fw fc fn fm fl T k O mo mb tx (dk_Inv_mono (Nat.le_succ q) hI) H locs hP hD hS ls hl
set_option maxHeartbeats 4000000 in
set_option maxRecDepth 100000 in
/-- the law: look -/
theorem law_look {p : Program} {l : Launch} {e : Env} {s : State} {m : MethodId} {below : List Frame} {meth : Method} {c : Code} {dC : Nat → ClassId} {dI : Nat → Nat → Nat} {b L : Nat} {xs : Nat → Int32} {h0 qo qw qc qn qm ql g0 a1 a2 a3 a4 : Nat} {k1 k2 k3 k4 k5 k6 i1 i2 i3 i4 : ClassId} (hL : L ≤ 2048) (C0 : lw_At p s m meth c b L xs) (hK : va_K (dC, dI) vwCl [(k1, .long), (k2, .long), (k3, .long), (k4, .long), (k5, .long), (k6, .char), (i1, .long), (i2, .int), (i3, .long), (i4, .int)] s) (i q : Nat) (hi : i + 4 ≤ L) (hq : q ≤ 511) (d : Int32) (t n : Nat) (fo fw fc fn fm : Nat → Int64) (fl : Nat → Int32) (T k : Nat) (O : Nat → Int64) (mo : Nat → Int32) (mb : Nat → Int64) (tx : Nat → Int32) (hI : dk_Inv q d t n fo fw fc fn fm fl T k O mo mb tx) (H : Heap) (locs : List Loc) (hP : va_P (dC, dI) vwCl [(h0, .inr (0, [.int d, .int (nI t), .ref qo, .ref qw, .ref qc, .ref qn, .ref qm, .ref ql, .int (nI n)])), (qo, .inl (k1, 200, .inr (.inl fo))), (qw, .inl (k2, 200, .inr (.inl fw))), (qc, .inl (k3, 200, .inr (.inl fc))), (qn, .inl (k4, 200, .inr (.inl fn))), (qm, .inl (k5, 200, .inr (.inl fm))), (ql, .inl (k6, 104, .inl fl)), (g0, .inr (1, [.long (lN T), .ref a1, .int (nI k), .ref a2, .ref a3, .int (nI n), .ref a4])), (a1, .inl (i1, 200, .inr (.inl O))), (a2, .inl (i2, 520, .inl mo)), (a3, .inl (i3, 520, .inr (.inl mb))), (a4, .inl (i4, 120, .inl tx))] H) (hD : va_D (fun q : Nat => s.heap.size ≤ q) [(h0, .inr (0, [.int d, .int (nI t), .ref qo, .ref qw, .ref qc, .ref qn, .ref qm, .ref ql, .int (nI n)])), (qo, .inl (k1, 200, .inr (.inl fo))), (qw, .inl (k2, 200, .inr (.inl fw))), (qc, .inl (k3, 200, .inr (.inl fc))), (qn, .inl (k4, 200, .inr (.inl fn))), (qm, .inl (k5, 200, .inr (.inl fm))), (ql, .inl (k6, 104, .inl fl)), (g0, .inr (1, [.long (lN T), .ref a1, .int (nI k), .ref a2, .ref a3, .int (nI n), .ref a4])), (a1, .inl (i1, 200, .inr (.inl O))), (a2, .inl (i2, 520, .inl mo)), (a3, .inl (i3, 520, .inr (.inl mb))), (a4, .inl (i4, 120, .inl tx))]) (hS : va_S (fun q : Nat => s.heap.size ≤ q) s.heap H locs) (ls : Array Slot) (hl : lv_has ls 4 [(0, .ref b), (1, .ref h0), (2, .ref g0), (3, .int (nI i))]) (kk : ∀ (d : Int32) (t n : Nat) (fo fw fc fn fm : Nat → Int64) (fl : Nat → Int32) (T k : Nat) (O : Nat → Int64) (mo : Nat → Int32) (mb : Nat → Int64) (tx : Nat → Int32), dk_Inv (q + 1) d t n fo fw fc fn fm fl T k O mo mb tx → ∀ (H : Heap) (locs : List Loc), va_P (dC, dI) vwCl [(h0, .inr (0, [.int d, .int (nI t), .ref qo, .ref qw, .ref qc, .ref qn, .ref qm, .ref ql, .int (nI n)])), (qo, .inl (k1, 200, .inr (.inl fo))), (qw, .inl (k2, 200, .inr (.inl fw))), (qc, .inl (k3, 200, .inr (.inl fc))), (qn, .inl (k4, 200, .inr (.inl fn))), (qm, .inl (k5, 200, .inr (.inl fm))), (ql, .inl (k6, 104, .inl fl)), (g0, .inr (1, [.long (lN T), .ref a1, .int (nI k), .ref a2, .ref a3, .int (nI n), .ref a4])), (a1, .inl (i1, 200, .inr (.inl O))), (a2, .inl (i2, 520, .inl mo)), (a3, .inl (i3, 520, .inr (.inl mb))), (a4, .inl (i4, 120, .inl tx))] H → va_D (fun q : Nat => s.heap.size ≤ q) [(h0, .inr (0, [.int d, .int (nI t), .ref qo, .ref qw, .ref qc, .ref qn, .ref qm, .ref ql, .int (nI n)])), (qo, .inl (k1, 200, .inr (.inl fo))), (qw, .inl (k2, 200, .inr (.inl fw))), (qc, .inl (k3, 200, .inr (.inl fc))), (qn, .inl (k4, 200, .inr (.inl fn))), (qm, .inl (k5, 200, .inr (.inl fm))), (ql, .inl (k6, 104, .inl fl)), (g0, .inr (1, [.long (lN T), .ref a1, .int (nI k), .ref a2, .ref a3, .int (nI n), .ref a4])), (a1, .inl (i1, 200, .inr (.inl O))), (a2, .inl (i2, 520, .inl mo)), (a3, .inl (i3, 520, .inr (.inl mb))), (a4, .inl (i4, 120, .inl tx))] → va_S (fun q : Nat => s.heap.size ≤ q) s.heap H locs → ∀ ls : Array Slot, lv_has ls 4 [(0, .ref b), (1, .ref h0), (2, .ref g0), (3, .int (nI i))] → W p l e room_1 s m #[Value.ref b] below meth c H locs 12 2480 (lw_Z below #[Value.ref b] s) (F0 m 368 ls [])) : W p l e room_1 s m #[Value.ref b] below meth c H locs 12 2480 (lw_Z below #[Value.ref b] s) (F0 m 179 ls []) := by
  obtain ⟨hx, hb, hr, hml, hown0, hts0, hX, hbl, hlocks, hgv⟩ := C0
  have hts : ∀ w ∈ wsL_law, w.before #[Value.ref b] s = true := fun w h => hts0 w (wsL_law_in w h)
  have hown : s.vm.findClass RL = some m.cls := hown0
  have hA : ∀ q : Nat, s.heap.size ≤ q → (fun q : Nat => s.heap.size ≤ q) q := fun _ h => h
  have hbA : ¬ (fun q : Nat => s.heap.size ≤ q) b := Nat.not_le.mpr hbl
  obtain ⟨v1, v2, v3, v4, v5, v6, v7⟩ := id hI
  have ht9 : t < 1000 := by rw [v1]; exact Nat.mod_lt _ (by decide)
  have hT9 : T ≤ 51100000 := Nat.le_trans v3 (Nat.mul_le_mul_right 100000 hq)
  refine lv_aload_n hx hb dL_law_179 rfl (lv_at hl 1 rfl) ?_
  refine lv_aload_n hx hb dL_law_180 rfl (lv_at hl 0 rfl) ?_
  refine lv_iload_n hx hb dL_law_181 rfl (lv_at hl 3 rfl) ?_
  refine lv_iconst (v := 1) hx hb dL_law_182 (by decide) ?_
  refine lv_iadd hx hb dL_law_183 ?_
  refine dk_asi (y := nI (i + 1)) (nI_add i 1) ?_
  refine dk_sld hx hb hX hbl hbA hS (j := i + 1) (by omega) (by omega) dL_law_184 ?_
  have hPc := hP.sub (ws' := [(h0, .inr (0, [.int d, .int (nI t), .ref qo, .ref qw, .ref qc, .ref qn, .ref qm, .ref ql, .int (nI n)]))]) [0] rfl
  have hKc := hK.sub (tys' := []) [] rfl
  refine va_calli (va_runV (As := [.int (xs (i + 1))]) (rest := []) ⟨hx, hb, hml, hown, hts⟩ (cX_look l dC dI h0 qo qw qc qn qm ql d (nI n) t ht9 (xs (i + 1))) (cwV 1 hts gL_law_X0_look rfl rfl rfl (by decide +kernel) ⟨Nat.le_of_ble_eq_true rfl, Nat.le_of_ble_eq_true rfl⟩) (dk_rV hPc hKc (ci := 0) (q0 := 0) rfl rfl) rfl rfl hl.1 rfl (lv_room (Nat.le_of_ble_eq_true rfl)) dL_law_185 ⟨Nat.le_of_ble_eq_true rfl, Nat.le_of_ble_eq_true rfl⟩) hS (fun q _ h => False.elim h) (fun q h => False.elim h) (fun rx u8 t8 H1 locs ht8 hvm8 hw hB hz1 hk1 hS => ?_)
  try dsimp only at hw
  have hP := dk_kept hP hk1
  generalize H1 = H at hP hS ⊢
  have hwx := hw
  refine lv_aload_n hx hb dL_law_188 rfl (lv_at hl 2 rfl) ?_
  refine lv_aload_n hx hb dL_law_189 rfl (lv_at hl 0 rfl) ?_
  refine lv_iload_n hx hb dL_law_190 rfl (lv_at hl 3 rfl) ?_
  refine lv_iconst (v := 1) hx hb dL_law_191 (by decide) ?_
  refine lv_iadd hx hb dL_law_192 ?_
  refine dk_asi (y := nI (i + 1)) (nI_add i 1) ?_
  refine dk_sld hx hb hX hbl hbA hS (j := i + 1) (by omega) (by omega) dL_law_193 ?_
  have hPc := hP.sub (ws' := [(g0, .inr (1, [.long (lN T), .ref a1, .int (nI k), .ref a2, .ref a3, .int (nI n), .ref a4]))]) [7] rfl
  have hKc := hK.sub (tys' := []) [] rfl
  refine va_calli (va_runV (As := [.int (xs (i + 1))]) (rest := [.int rx]) ⟨hx, hb, hml, hown, hts⟩ (cY_look l dC dI g0 a1 a2 a3 a4 T (by omega) (nI k) (nI n) (xs (i + 1))) (cwV 1 hts gL_law_X1_look rfl rfl rfl (by decide +kernel) ⟨Nat.le_of_ble_eq_true rfl, Nat.le_of_ble_eq_true rfl⟩) (dk_rV hPc hKc (ci := 1) (q0 := 0) rfl rfl) rfl rfl hl.1 rfl (lv_room (Nat.le_of_ble_eq_true rfl)) dL_law_194 ⟨Nat.le_of_ble_eq_true rfl, Nat.le_of_ble_eq_true rfl⟩) hS (fun q _ h => False.elim h) (fun q h => False.elim h) (fun ry u8 t8 H1 locs ht8 hvm8 hw hB hz1 hk1 hS => ?_)
  try dsimp only at hw
  have hP := dk_kept hP hk1
  generalize H1 = H at hP hS ⊢
  have hwy := hw
  rw [v1, v2] at hwx
  have req : rx = ry := dk_look_eq hwx hwy
  refine lv_icmp_eq (tgt := 368) hx hb dL_law_197 (by decide) (fun _ => ?_) (fun c9 => absurd req c9)
  exact kk d t n fo fw fc fn fm fl T k O mo mb tx (dk_Inv_mono (Nat.le_succ q) hI) H locs hP hD hS ls hl
set_option maxHeartbeats 4000000 in
set_option maxRecDepth 100000 in
/-- the law: move -/
theorem law_move {p : Program} {l : Launch} {e : Env} {s : State} {m : MethodId} {below : List Frame} {meth : Method} {c : Code} {dC : Nat → ClassId} {dI : Nat → Nat → Nat} {b L : Nat} {xs : Nat → Int32} {h0 qo qw qc qn qm ql g0 a1 a2 a3 a4 : Nat} {k1 k2 k3 k4 k5 k6 i1 i2 i3 i4 : ClassId} (hL : L ≤ 2048) (C0 : lw_At p s m meth c b L xs) (hK : va_K (dC, dI) vwCl [(k1, .long), (k2, .long), (k3, .long), (k4, .long), (k5, .long), (k6, .char), (i1, .long), (i2, .int), (i3, .long), (i4, .int)] s) (i q : Nat) (hi : i + 4 ≤ L) (hq : q ≤ 511) (d : Int32) (t n : Nat) (fo fw fc fn fm : Nat → Int64) (fl : Nat → Int32) (T k : Nat) (O : Nat → Int64) (mo : Nat → Int32) (mb : Nat → Int64) (tx : Nat → Int32) (hI : dk_Inv q d t n fo fw fc fn fm fl T k O mo mb tx) (H : Heap) (locs : List Loc) (hP : va_P (dC, dI) vwCl [(h0, .inr (0, [.int d, .int (nI t), .ref qo, .ref qw, .ref qc, .ref qn, .ref qm, .ref ql, .int (nI n)])), (qo, .inl (k1, 200, .inr (.inl fo))), (qw, .inl (k2, 200, .inr (.inl fw))), (qc, .inl (k3, 200, .inr (.inl fc))), (qn, .inl (k4, 200, .inr (.inl fn))), (qm, .inl (k5, 200, .inr (.inl fm))), (ql, .inl (k6, 104, .inl fl)), (g0, .inr (1, [.long (lN T), .ref a1, .int (nI k), .ref a2, .ref a3, .int (nI n), .ref a4])), (a1, .inl (i1, 200, .inr (.inl O))), (a2, .inl (i2, 520, .inl mo)), (a3, .inl (i3, 520, .inr (.inl mb))), (a4, .inl (i4, 120, .inl tx))] H) (hD : va_D (fun q : Nat => s.heap.size ≤ q) [(h0, .inr (0, [.int d, .int (nI t), .ref qo, .ref qw, .ref qc, .ref qn, .ref qm, .ref ql, .int (nI n)])), (qo, .inl (k1, 200, .inr (.inl fo))), (qw, .inl (k2, 200, .inr (.inl fw))), (qc, .inl (k3, 200, .inr (.inl fc))), (qn, .inl (k4, 200, .inr (.inl fn))), (qm, .inl (k5, 200, .inr (.inl fm))), (ql, .inl (k6, 104, .inl fl)), (g0, .inr (1, [.long (lN T), .ref a1, .int (nI k), .ref a2, .ref a3, .int (nI n), .ref a4])), (a1, .inl (i1, 200, .inr (.inl O))), (a2, .inl (i2, 520, .inl mo)), (a3, .inl (i3, 520, .inr (.inl mb))), (a4, .inl (i4, 120, .inl tx))]) (hS : va_S (fun q : Nat => s.heap.size ≤ q) s.heap H locs) (ls : Array Slot) (hl : lv_has ls 4 [(0, .ref b), (1, .ref h0), (2, .ref g0), (3, .int (nI i))]) (kk : ∀ (d : Int32) (t n : Nat) (fo fw fc fn fm : Nat → Int64) (fl : Nat → Int32) (T k : Nat) (O : Nat → Int64) (mo : Nat → Int32) (mb : Nat → Int64) (tx : Nat → Int32), dk_Inv (q + 1) d t n fo fw fc fn fm fl T k O mo mb tx → ∀ (H : Heap) (locs : List Loc), va_P (dC, dI) vwCl [(h0, .inr (0, [.int d, .int (nI t), .ref qo, .ref qw, .ref qc, .ref qn, .ref qm, .ref ql, .int (nI n)])), (qo, .inl (k1, 200, .inr (.inl fo))), (qw, .inl (k2, 200, .inr (.inl fw))), (qc, .inl (k3, 200, .inr (.inl fc))), (qn, .inl (k4, 200, .inr (.inl fn))), (qm, .inl (k5, 200, .inr (.inl fm))), (ql, .inl (k6, 104, .inl fl)), (g0, .inr (1, [.long (lN T), .ref a1, .int (nI k), .ref a2, .ref a3, .int (nI n), .ref a4])), (a1, .inl (i1, 200, .inr (.inl O))), (a2, .inl (i2, 520, .inl mo)), (a3, .inl (i3, 520, .inr (.inl mb))), (a4, .inl (i4, 120, .inl tx))] H → va_D (fun q : Nat => s.heap.size ≤ q) [(h0, .inr (0, [.int d, .int (nI t), .ref qo, .ref qw, .ref qc, .ref qn, .ref qm, .ref ql, .int (nI n)])), (qo, .inl (k1, 200, .inr (.inl fo))), (qw, .inl (k2, 200, .inr (.inl fw))), (qc, .inl (k3, 200, .inr (.inl fc))), (qn, .inl (k4, 200, .inr (.inl fn))), (qm, .inl (k5, 200, .inr (.inl fm))), (ql, .inl (k6, 104, .inl fl)), (g0, .inr (1, [.long (lN T), .ref a1, .int (nI k), .ref a2, .ref a3, .int (nI n), .ref a4])), (a1, .inl (i1, 200, .inr (.inl O))), (a2, .inl (i2, 520, .inl mo)), (a3, .inl (i3, 520, .inr (.inl mb))), (a4, .inl (i4, 120, .inl tx))] → va_S (fun q : Nat => s.heap.size ≤ q) s.heap H locs → ∀ ls : Array Slot, lv_has ls 4 [(0, .ref b), (1, .ref h0), (2, .ref g0), (3, .int (nI i))] → W p l e room_1 s m #[Value.ref b] below meth c H locs 12 2480 (lw_Z below #[Value.ref b] s) (F0 m 368 ls [])) : W p l e room_1 s m #[Value.ref b] below meth c H locs 12 2480 (lw_Z below #[Value.ref b] s) (F0 m 202 ls []) := by
  obtain ⟨hx, hb, hr, hml, hown0, hts0, hX, hbl, hlocks, hgv⟩ := C0
  have hts : ∀ w ∈ wsL_law, w.before #[Value.ref b] s = true := fun w h => hts0 w (wsL_law_in w h)
  have hown : s.vm.findClass RL = some m.cls := hown0
  have hA : ∀ q : Nat, s.heap.size ≤ q → (fun q : Nat => s.heap.size ≤ q) q := fun _ h => h
  have hbA : ¬ (fun q : Nat => s.heap.size ≤ q) b := Nat.not_le.mpr hbl
  obtain ⟨v1, v2, v3, v4, v5, v6, v7⟩ := id hI
  have ht9 : t < 1000 := by rw [v1]; exact Nat.mod_lt _ (by decide)
  have hT9 : T ≤ 51100000 := Nat.le_trans v3 (Nat.mul_le_mul_right 100000 hq)
  refine lv_aload_n hx hb dL_law_202 rfl (lv_at hl 1 rfl) ?_
  refine lv_aload_n hx hb dL_law_203 rfl (lv_at hl 0 rfl) ?_
  refine lv_iload_n hx hb dL_law_204 rfl (lv_at hl 3 rfl) ?_
  refine lv_iconst (v := 1) hx hb dL_law_205 (by decide) ?_
  refine lv_iadd hx hb dL_law_206 ?_
  refine dk_asi (y := nI (i + 1)) (nI_add i 1) ?_
  refine dk_sld hx hb hX hbl hbA hS (j := i + 1) (by omega) (by omega) dL_law_207 ?_
  refine lv_aload_n hx hb dL_law_208 rfl (lv_at hl 0 rfl) ?_
  refine lv_iload_n hx hb dL_law_209 rfl (lv_at hl 3 rfl) ?_
  refine lv_iconst (v := 2) hx hb dL_law_210 (by decide) ?_
  refine lv_iadd hx hb dL_law_211 ?_
  refine dk_asi (y := nI (i + 2)) (nI_add i 2) ?_
  refine dk_sld hx hb hX hbl hbA hS (j := i + 2) (by omega) (by omega) dL_law_212 ?_
  refine lv_i2l (v := (xs (i + 2)).toInt64) hx hb dL_law_213 rfl ?_
  refine lv_bipush (v := nI 32) hx hb dL_law_214 (by decide) ?_
  refine lv_lshl (v := ((xs (i + 2)).toInt64) <<< ((nI 32).toInt64 &&& 63)) hx hb dL_law_216 rfl ?_
  refine lv_aload_n hx hb dL_law_217 rfl (lv_at hl 0 rfl) ?_
  refine lv_iload_n hx hb dL_law_218 rfl (lv_at hl 3 rfl) ?_
  refine lv_iconst (v := 3) hx hb dL_law_219 (by decide) ?_
  refine lv_iadd hx hb dL_law_220 ?_
  refine dk_asi (y := nI (i + 3)) (nI_add i 3) ?_
  refine dk_sld hx hb hX hbl hbA hS (j := i + 3) (by omega) (by omega) dL_law_221 ?_
  refine lv_i2l (v := (xs (i + 3)).toInt64) hx hb dL_law_222 rfl ?_
  refine lv_ldc2 (v := 4294967295) hx hb hown (hts (.constantLong RL 32 4294967295) (by decide +kernel)) dL_law_223 ?_
  refine lv_land hx hb dL_law_226 ?_
  refine lv_lor hx hb dL_law_227 ?_
  have hPc := hP.sub (ws' := [(h0, .inr (0, [.int d, .int (nI t), .ref qo, .ref qw, .ref qc, .ref qn, .ref qm, .ref ql, .int (nI n)])), (qw, .inl (k2, 200, .inr (.inl fw))), (qc, .inl (k3, 200, .inr (.inl fc))), (qn, .inl (k4, 200, .inr (.inl fn))), (qm, .inl (k5, 200, .inr (.inl fm)))]) [0, 2, 3, 4, 5] rfl
  have hDc := hD.sub (ws' := [(h0, .inr (0, [.int d, .int (nI t), .ref qo, .ref qw, .ref qc, .ref qn, .ref qm, .ref ql, .int (nI n)])), (qw, .inl (k2, 200, .inr (.inl fw))), (qc, .inl (k3, 200, .inr (.inl fc))), (qn, .inl (k4, 200, .inr (.inl fn))), (qm, .inl (k5, 200, .inr (.inl fm)))]) [0, 2, 3, 4, 5] (by decide) rfl
  have hFc := va_free (wc := [(h0, .inr (0, [.int d, .int (nI t), .ref qo, .ref qw, .ref qc, .ref qn, .ref qm, .ref ql, .int (nI n)])), (qw, .inl (k2, 200, .inr (.inl fw))), (qc, .inl (k3, 200, .inr (.inl fc))), (qn, .inl (k4, 200, .inr (.inl fn))), (qm, .inl (k5, 200, .inr (.inl fm)))]) hD hS hA [0, 2, 3, 4, 5] rfl
  have hKc := hK.sub (tys' := [(k2, .long), (k3, .long), (k4, .long), (k5, .long)]) [1, 2, 3, 4] rfl
  refine va_calli (va_runV (As := [.int (xs (i + 1)), .long ((((xs (i + 2)).toInt64) <<< ((nI 32).toInt64 &&& 63)) ||| (((xs (i + 3)).toInt64) &&& 4294967295))]) (rest := []) ⟨hx, hb, hml, hown, hts⟩ (cX_move l dC dI _ h0 qo qw qc qn qm ql k2 k3 k4 k5 d (nI n) (nI t) fw fc fn fm (xs (i + 1)) ((((xs (i + 2)).toInt64) <<< ((nI 32).toInt64 &&& 63)) ||| (((xs (i + 3)).toInt64) &&& 4294967295))) (cwV 2 hts gL_law_X0_move rfl rfl rfl (by decide +kernel) ⟨Nat.le_of_ble_eq_true rfl, Nat.le_of_ble_eq_true rfl⟩) (dk_wV hPc hKc hDc (ci := 0) (q0 := 0) rfl rfl) rfl rfl hl.1 rfl (lv_room (Nat.le_of_ble_eq_true rfl)) dL_law_228 ⟨Nat.le_of_ble_eq_true rfl, Nat.le_of_ble_eq_true rfl⟩) hS (fun q _ h => hFc q h) hFc (fun rx u8 t8 H1 locs ht8 hvm8 hw hB hz1 hk1 hS => ?_)
  try dsimp only at hw
  obtain ⟨gw, gc, gn, gm⟩ := u8
  try dsimp only at hw hB
  obtain ⟨hP1, hD1⟩ := hB
  rw [ht8] at hP1
  obtain ⟨hP, hD⟩ := va_join (wr := [(qo, .inl (k1, 200, .inr (.inl fo))), (ql, .inl (k6, 104, .inl fl)), (g0, .inr (1, [.long (lN T), .ref a1, .int (nI k), .ref a2, .ref a3, .int (nI n), .ref a4])), (a1, .inl (i1, 200, .inr (.inl O))), (a2, .inl (i2, 520, .inl mo)), (a3, .inl (i3, 520, .inr (.inl mb))), (a4, .inl (i4, 120, .inl tx))]) (w1 := [(h0, .inr (0, [.int d, .int (nI t), .ref qo, .ref qw, .ref qc, .ref qn, .ref qm, .ref ql, .int (nI n)])), (qw, .inl (k2, 200, .inr (.inl gw))), (qc, .inl (k3, 200, .inr (.inl gc))), (qn, .inl (k4, 200, .inr (.inl gn))), (qm, .inl (k5, 200, .inr (.inl gm)))]) hP hD [0, 2, 3, 4, 5] [1, 6, 7, 8, 9, 10, 11] rfl rfl (by decide) (by decide) hk1 hFc hP1 hD1
  generalize H1 = H at hP hS ⊢
  have hP := hP.sub (ws' := [(h0, .inr (0, [.int d, .int (nI t), .ref qo, .ref qw, .ref qc, .ref qn, .ref qm, .ref ql, .int (nI n)])), (qo, .inl (k1, 200, .inr (.inl fo))), (qw, .inl (k2, 200, .inr (.inl gw))), (qc, .inl (k3, 200, .inr (.inl gc))), (qn, .inl (k4, 200, .inr (.inl gn))), (qm, .inl (k5, 200, .inr (.inl gm))), (ql, .inl (k6, 104, .inl fl)), (g0, .inr (1, [.long (lN T), .ref a1, .int (nI k), .ref a2, .ref a3, .int (nI n), .ref a4])), (a1, .inl (i1, 200, .inr (.inl O))), (a2, .inl (i2, 520, .inl mo)), (a3, .inl (i3, 520, .inr (.inl mb))), (a4, .inl (i4, 120, .inl tx))]) [7, 0, 8, 9, 10, 11, 1, 2, 3, 4, 5, 6] rfl
  have hD := hD.sub (ws' := [(h0, .inr (0, [.int d, .int (nI t), .ref qo, .ref qw, .ref qc, .ref qn, .ref qm, .ref ql, .int (nI n)])), (qo, .inl (k1, 200, .inr (.inl fo))), (qw, .inl (k2, 200, .inr (.inl gw))), (qc, .inl (k3, 200, .inr (.inl gc))), (qn, .inl (k4, 200, .inr (.inl gn))), (qm, .inl (k5, 200, .inr (.inl gm))), (ql, .inl (k6, 104, .inl fl)), (g0, .inr (1, [.long (lN T), .ref a1, .int (nI k), .ref a2, .ref a3, .int (nI n), .ref a4])), (a1, .inl (i1, 200, .inr (.inl O))), (a2, .inl (i2, 520, .inl mo)), (a3, .inl (i3, 520, .inr (.inl mb))), (a4, .inl (i4, 120, .inl tx))]) [7, 0, 8, 9, 10, 11, 1, 2, 3, 4, 5, 6] (by decide) rfl
  have hP : va_P (dC, dI) vwCl [(h0, .inr (0, [.int d, .int (nI t), .ref qo, .ref qw, .ref qc, .ref qn, .ref qm, .ref ql, .int (nI n)])), (qo, .inl (k1, 200, .inr (.inl fo))), (qw, .inl (k2, 200, .inr (.inl gw))), (qc, .inl (k3, 200, .inr (.inl gc))), (qn, .inl (k4, 200, .inr (.inl gn))), (qm, .inl (k5, 200, .inr (.inl gm))), (ql, .inl (k6, 104, .inl fl)), (g0, .inr (1, [.long (lN T), .ref a1, .int (nI k), .ref a2, .ref a3, .int (nI n), .ref a4])), (a1, .inl (i1, 200, .inr (.inl O))), (a2, .inl (i2, 520, .inl mo)), (a3, .inl (i3, 520, .inr (.inl mb))), (a4, .inl (i4, 120, .inl tx))] H := hP
  have hD : va_D (fun q : Nat => s.heap.size ≤ q) [(h0, .inr (0, [.int d, .int (nI t), .ref qo, .ref qw, .ref qc, .ref qn, .ref qm, .ref ql, .int (nI n)])), (qo, .inl (k1, 200, .inr (.inl fo))), (qw, .inl (k2, 200, .inr (.inl gw))), (qc, .inl (k3, 200, .inr (.inl gc))), (qn, .inl (k4, 200, .inr (.inl gn))), (qm, .inl (k5, 200, .inr (.inl gm))), (ql, .inl (k6, 104, .inl fl)), (g0, .inr (1, [.long (lN T), .ref a1, .int (nI k), .ref a2, .ref a3, .int (nI n), .ref a4])), (a1, .inl (i1, 200, .inr (.inl O))), (a2, .inl (i2, 520, .inl mo)), (a3, .inl (i3, 520, .inr (.inl mb))), (a4, .inl (i4, 120, .inl tx))] := hD
  have hwx := hw
  refine lv_aload_n hx hb dL_law_231 rfl (lv_at hl 2 rfl) ?_
  refine lv_aload_n hx hb dL_law_232 rfl (lv_at hl 0 rfl) ?_
  refine lv_iload_n hx hb dL_law_233 rfl (lv_at hl 3 rfl) ?_
  refine lv_iconst (v := 1) hx hb dL_law_234 (by decide) ?_
  refine lv_iadd hx hb dL_law_235 ?_
  refine dk_asi (y := nI (i + 1)) (nI_add i 1) ?_
  refine dk_sld hx hb hX hbl hbA hS (j := i + 1) (by omega) (by omega) dL_law_236 ?_
  refine lv_aload_n hx hb dL_law_237 rfl (lv_at hl 0 rfl) ?_
  refine lv_iload_n hx hb dL_law_238 rfl (lv_at hl 3 rfl) ?_
  refine lv_iconst (v := 2) hx hb dL_law_239 (by decide) ?_
  refine lv_iadd hx hb dL_law_240 ?_
  refine dk_asi (y := nI (i + 2)) (nI_add i 2) ?_
  refine dk_sld hx hb hX hbl hbA hS (j := i + 2) (by omega) (by omega) dL_law_241 ?_
  refine lv_i2l (v := (xs (i + 2)).toInt64) hx hb dL_law_242 rfl ?_
  refine lv_bipush (v := nI 32) hx hb dL_law_243 (by decide) ?_
  refine lv_lshl (v := ((xs (i + 2)).toInt64) <<< ((nI 32).toInt64 &&& 63)) hx hb dL_law_245 rfl ?_
  refine lv_aload_n hx hb dL_law_246 rfl (lv_at hl 0 rfl) ?_
  refine lv_iload_n hx hb dL_law_247 rfl (lv_at hl 3 rfl) ?_
  refine lv_iconst (v := 3) hx hb dL_law_248 (by decide) ?_
  refine lv_iadd hx hb dL_law_249 ?_
  refine dk_asi (y := nI (i + 3)) (nI_add i 3) ?_
  refine dk_sld hx hb hX hbl hbA hS (j := i + 3) (by omega) (by omega) dL_law_250 ?_
  refine lv_i2l (v := (xs (i + 3)).toInt64) hx hb dL_law_251 rfl ?_
  refine lv_ldc2 (v := 4294967295) hx hb hown (hts (.constantLong RL 32 4294967295) (by decide +kernel)) dL_law_252 ?_
  refine lv_land hx hb dL_law_255 ?_
  refine lv_lor hx hb dL_law_256 ?_
  have hPc := hP.sub (ws' := [(g0, .inr (1, [.long (lN T), .ref a1, .int (nI k), .ref a2, .ref a3, .int (nI n), .ref a4])), (a1, .inl (i1, 200, .inr (.inl O))), (a2, .inl (i2, 520, .inl mo)), (a3, .inl (i3, 520, .inr (.inl mb)))]) [7, 8, 9, 10] rfl
  have hDc := hD.sub (ws' := [(g0, .inr (1, [.long (lN T), .ref a1, .int (nI k), .ref a2, .ref a3, .int (nI n), .ref a4])), (a1, .inl (i1, 200, .inr (.inl O))), (a2, .inl (i2, 520, .inl mo)), (a3, .inl (i3, 520, .inr (.inl mb)))]) [7, 8, 9, 10] (by decide) rfl
  have hFc := va_free (wc := [(g0, .inr (1, [.long (lN T), .ref a1, .int (nI k), .ref a2, .ref a3, .int (nI n), .ref a4])), (a1, .inl (i1, 200, .inr (.inl O))), (a2, .inl (i2, 520, .inl mo)), (a3, .inl (i3, 520, .inr (.inl mb)))]) hD hS hA [7, 8, 9, 10] rfl
  have hKc := hK.sub (tys' := [(i1, .long), (i2, .int), (i3, .long)]) [6, 7, 8] rfl
  refine va_calli (va_runV (As := [.int (xs (i + 1)), .long ((((xs (i + 2)).toInt64) <<< ((nI 32).toInt64 &&& 63)) ||| (((xs (i + 3)).toInt64) &&& 4294967295))]) (rest := [.int rx]) ⟨hx, hb, hml, hown, hts⟩ (cY_move l dC dI _ g0 a1 a2 a3 a4 i1 i2 i3 (lN T) k (by omega) (nI n) O mo mb (xs (i + 1)) ((((xs (i + 2)).toInt64) <<< ((nI 32).toInt64 &&& 63)) ||| (((xs (i + 3)).toInt64) &&& 4294967295))) (cwV 2 hts gL_law_X1_move rfl rfl rfl (by decide +kernel) ⟨Nat.le_of_ble_eq_true rfl, Nat.le_of_ble_eq_true rfl⟩) (dk_wV hPc hKc hDc (ci := 1) (q0 := 0) rfl rfl) rfl rfl hl.1 rfl (lv_room (Nat.le_of_ble_eq_true rfl)) dL_law_257 ⟨Nat.le_of_ble_eq_true rfl, Nat.le_of_ble_eq_true rfl⟩) hS (fun q _ h => hFc q h) hFc (fun ry u8 t8 H1 locs ht8 hvm8 hw hB hz1 hk1 hS => ?_)
  try dsimp only at hw
  obtain ⟨j2, mo2, mb2⟩ := u8
  try dsimp only at hw hB
  obtain ⟨hP1, hD1⟩ := hB
  rw [ht8] at hP1
  obtain ⟨hP, hD⟩ := va_join (wr := [(h0, .inr (0, [.int d, .int (nI t), .ref qo, .ref qw, .ref qc, .ref qn, .ref qm, .ref ql, .int (nI n)])), (qo, .inl (k1, 200, .inr (.inl fo))), (qw, .inl (k2, 200, .inr (.inl gw))), (qc, .inl (k3, 200, .inr (.inl gc))), (qn, .inl (k4, 200, .inr (.inl gn))), (qm, .inl (k5, 200, .inr (.inl gm))), (ql, .inl (k6, 104, .inl fl)), (a4, .inl (i4, 120, .inl tx))]) (w1 := [(g0, .inr (1, [.long (lN T), .ref a1, .int (nI j2), .ref a2, .ref a3, .int (nI n), .ref a4])), (a1, .inl (i1, 200, .inr (.inl O))), (a2, .inl (i2, 520, .inl mo2)), (a3, .inl (i3, 520, .inr (.inl mb2)))]) hP hD [7, 8, 9, 10] [0, 1, 2, 3, 4, 5, 6, 11] rfl rfl (by decide) (by decide) hk1 hFc hP1 hD1
  generalize H1 = H at hP hS ⊢
  have hP := hP.sub (ws' := [(h0, .inr (0, [.int d, .int (nI t), .ref qo, .ref qw, .ref qc, .ref qn, .ref qm, .ref ql, .int (nI n)])), (qo, .inl (k1, 200, .inr (.inl fo))), (qw, .inl (k2, 200, .inr (.inl gw))), (qc, .inl (k3, 200, .inr (.inl gc))), (qn, .inl (k4, 200, .inr (.inl gn))), (qm, .inl (k5, 200, .inr (.inl gm))), (ql, .inl (k6, 104, .inl fl)), (g0, .inr (1, [.long (lN T), .ref a1, .int (nI j2), .ref a2, .ref a3, .int (nI n), .ref a4])), (a1, .inl (i1, 200, .inr (.inl O))), (a2, .inl (i2, 520, .inl mo2)), (a3, .inl (i3, 520, .inr (.inl mb2))), (a4, .inl (i4, 120, .inl tx))]) [0, 1, 2, 3, 4, 5, 6, 8, 9, 10, 11, 7] rfl
  have hD := hD.sub (ws' := [(h0, .inr (0, [.int d, .int (nI t), .ref qo, .ref qw, .ref qc, .ref qn, .ref qm, .ref ql, .int (nI n)])), (qo, .inl (k1, 200, .inr (.inl fo))), (qw, .inl (k2, 200, .inr (.inl gw))), (qc, .inl (k3, 200, .inr (.inl gc))), (qn, .inl (k4, 200, .inr (.inl gn))), (qm, .inl (k5, 200, .inr (.inl gm))), (ql, .inl (k6, 104, .inl fl)), (g0, .inr (1, [.long (lN T), .ref a1, .int (nI j2), .ref a2, .ref a3, .int (nI n), .ref a4])), (a1, .inl (i1, 200, .inr (.inl O))), (a2, .inl (i2, 520, .inl mo2)), (a3, .inl (i3, 520, .inr (.inl mb2))), (a4, .inl (i4, 120, .inl tx))]) [0, 1, 2, 3, 4, 5, 6, 8, 9, 10, 11, 7] (by decide) rfl
  have hP : va_P (dC, dI) vwCl [(h0, .inr (0, [.int d, .int (nI t), .ref qo, .ref qw, .ref qc, .ref qn, .ref qm, .ref ql, .int (nI n)])), (qo, .inl (k1, 200, .inr (.inl fo))), (qw, .inl (k2, 200, .inr (.inl gw))), (qc, .inl (k3, 200, .inr (.inl gc))), (qn, .inl (k4, 200, .inr (.inl gn))), (qm, .inl (k5, 200, .inr (.inl gm))), (ql, .inl (k6, 104, .inl fl)), (g0, .inr (1, [.long (lN T), .ref a1, .int (nI j2), .ref a2, .ref a3, .int (nI n), .ref a4])), (a1, .inl (i1, 200, .inr (.inl O))), (a2, .inl (i2, 520, .inl mo2)), (a3, .inl (i3, 520, .inr (.inl mb2))), (a4, .inl (i4, 120, .inl tx))] H := hP
  have hD : va_D (fun q : Nat => s.heap.size ≤ q) [(h0, .inr (0, [.int d, .int (nI t), .ref qo, .ref qw, .ref qc, .ref qn, .ref qm, .ref ql, .int (nI n)])), (qo, .inl (k1, 200, .inr (.inl fo))), (qw, .inl (k2, 200, .inr (.inl gw))), (qc, .inl (k3, 200, .inr (.inl gc))), (qn, .inl (k4, 200, .inr (.inl gn))), (qm, .inl (k5, 200, .inr (.inl gm))), (ql, .inl (k6, 104, .inl fl)), (g0, .inr (1, [.long (lN T), .ref a1, .int (nI j2), .ref a2, .ref a3, .int (nI n), .ref a4])), (a1, .inl (i1, 200, .inr (.inl O))), (a2, .inl (i2, 520, .inl mo2)), (a3, .inl (i3, 520, .inr (.inl mb2))), (a4, .inl (i4, 120, .inl tx))] := hD
  have hwy := hw
  obtain ⟨req, hI2⟩ := dk_Inv_mv hI hwx hwy
  refine lv_icmp_eq (tgt := 368) hx hb dL_law_260 (by decide) (fun _ => ?_) (fun c9 => absurd req c9)
  exact kk d t n fo gw gc gn gm fl T j2 O mo2 mb2 tx hI2 H locs hP hD hS ls hl
