/-! THE CLAIM OUT OF ONE WALK OF THE LAW'S BODY. Your part is whole_start (and what it stands on); all else here is the same for every law, but numbers. -/
def R_law : String := "SevenUnwashedLaw"
def lw_P (b : Addr) (xs : List Int32) (args : Array Value) (s : State) : Prop := args = #[.ref b] ∧ s.IntsAt b xs ∧ xs.length ≤ 3072 ∧ (Jvm.Cond.and given_1 narrow_1).before args s = true
def lw_Q (_ : Array Value) (s : State) (o : Outcome) (t : State) : Prop := o = .returned (some (.int 1)) ∧ Framed s o t [] 600000 7302250
def lw_Z (below : List Frame) (a : Array Value) (s : State) : State → Prop := fun t => ∃ o, t.status = .running ∧ Ended t below o ∧ lw_Q a s o t
/-- the law's own end, with 1 on the stack, nothing written that was there before, its room as the claim has it -/
theorem lw_ret {p : Program} {l : Launch} {e : Env} {s : State} {m : MethodId} {below : List Frame} {meth : Method} {c : Code} {b : Nat} (hx : p.tables.exec = Jvm.exec) (hb : c.code = code) (hr : meth.sig.returnType = ret) (hlocks : meth.locks = false) {pc : Nat} {H : Heap} {ls : Array Slot} (hdg : decode code pc = .ok (.ireturn, 1)) : W p l e room_1 s m #[Value.ref b] below meth c H [] 600000 7302250 (lw_Z below #[Value.ref b] s) (F0 m pc ls [.int 1]) := by
  intro T hT X
  obtain ⟨fs, hret, hrun, hended, hW, hframe⟩ := X.leave (v := some (.int 1)) (hlocks := hlocks) (fun h => by rw [hr] at h; cases h)
  have hmeth' : T.vm.method? m = some meth := X.method'
  refine ⟨T.setFrames fs, ?_, .returned (some (.int 1)), hrun, hended, rfl, ⟨_, rfl⟩, hW, hframe⟩
  jvm_step X.here [X.here.top, hx, hb, hdg, hmeth', hr, ret, narrow_b1]
  (try refine ⟨rfl, ?_⟩); (try refine ⟨rfl, ?_⟩)
  first | (intro acts; rw [hret _ acts rfl rfl rfl]) | rw [hret _ _ rfl rfl rfl]
  exact Steps.refl _
/-- what holds at the law's entry: the machine, the code, the tables' words (any of lw_tbl by 'hts w (by decide +kernel)'), the script of L ints xs at the cell b, what the Statement gives of the start (any of its parts by flat_of_before) -/
def lw_At (p : Program) (s : State) (m : MethodId) (meth : Method) (c : Code) (b L : Nat) (xs : Nat → Int32) : Prop :=
  p.tables.exec = Jvm.exec ∧ c.code = code ∧ meth.sig.returnType = ret ∧ c.maxLocals = 4 ∧ s.vm.findClass R_law = some m.cls ∧ (∀ w ∈ lw_tbl, w.before #[Value.ref b] s = true) ∧ va_X b L xs s s.heap ∧ b < s.heap.size ∧ meth.locks = false ∧ (Jvm.Cond.and given_1 narrow_1).before #[Value.ref b] s = true
theorem end_i {i L : Nat} (hi : i ≤ L) (hL : L ≤ 3072) (h : ¬ (nI L - 6 < nI i)) : i + 6 ≤ L := by
  have e1 : (nI L).toInt = L := nI_toInt (by omega)
  have e2 : (nI i).toInt = i := nI_toInt (by omega)
  have e6 : (6 : Int32).toInt = 6 := by decide
  rw [i_lt, i_sub (by rw [e1, e6]; omega) (by rw [e1, e6]; omega), e1, e2, e6] at h
  omega
set_option maxHeartbeats 4000000 in
set_option maxRecDepth 100000 in
/-- THE LAW'S LOOP -/
theorem law_loop {Z : PL} {p : Program} {l : Launch} {e : Env} {s : State} {m : MethodId} {b L : Nat} {xs : Nat → Int32} {below : List Frame} {meth : Method} {c : Code} {cells slots : Nat} (X1 : Cx Z p s m #[Value.ref b] meth c cL_law 4 RL ret) (hX : va_X b L xs s s.heap) (hbl : b < s.heap.size) (hbA : ¬ zA Z b) (hL : L ≤ 3072) (hc : RoomOk cells slots) (hA : ∀ q, zA Z q → s.heap.size ≤ q) : ∀ (n i : Nat) (u : VW) (H : Heap) (locs : List Loc) (ls : Array Slot), i ≤ L → L + 1 ≤ i + n → HS Z s u.1 u.2 H locs → OKv u → LH Z b i ls → W p l e room_1 s m #[Value.ref b] below meth c H locs cells slots (lw_Z below #[Value.ref b] s) (F0 m 18 ls []) := by
  intro n
  induction n with
  | zero => intro i u H locs ls h1 h2; exact absurd h2 (by omega)
  | succ n ih =>
    intro i u H locs ls hi hn h hok hl
    refine lv_iload_n X1.1 X1.2.1 dL_law_18 rfl (lv_at hl 0 rfl) ?_
    refine lv_aload_n X1.1 X1.2.1 dL_law_19 rfl (lv_at hl 3 rfl) ?_
    refine va_slen X1.1 X1.2.1 hX hbl hbA h.2 dL_law_20 ?_
    refine lv_bipush (v := 6) X1.1 X1.2.1 dL_law_21 (by decide) ?_
    refine lv_isub X1.1 X1.2.1 dL_law_23 ?_
    refine lv_icmp_gt (tgt := 1386) X1.1 X1.2.1 dL_law_24 (by decide) (fun _ => ?_) (fun c9 => ?_)
    · refine lv_iconst (v := 1) X1.1 X1.2.1 dL_law_1386 (by decide) ?_
      refine va_forget (fun q hq => hA _ (h.2.2.2 q hq)) ?_
      refine W.widen (k := 600000) (n := 7302250) hc.1 hc.2 ?_
      exact lw_ret X1.1 X1.2.1 X1.2.2.2.2.2.2.1 X1.2.2.2.2.2.2.2 dL_law_1387
    · have hi6 : i + 6 ≤ L := end_i hi hL c9
      have X : LX Z p s m b meth c L xs i := ⟨X1, hX, hbl, hbA, hL, hi6⟩
      have kk : ∀ (u2 : VW) (H1 : Heap) (locs1 : List Loc), HS Z s u2.1 u2.2 H1 locs1 → OKv u2 → W p l e room_1 s m #[Value.ref b] below meth c H1 locs1 cells slots (lw_Z below #[Value.ref b] s) (F0 m 1380 ls []) := by
        intro u2 H1 locs1 h1 hok1
        refine lv_iinc (v := nI (i + 6)) (lv' := [(3, .int (nI (i + 6))), (2, .ref (zg Z 116)), (1, .ref (zg Z 0)), (0, .ref b)]) X1.1 X1.2.1 dL_law_1380 hl (k := 0) rfl (by rw [show Int32.ofInt 6 = nI 6 from by decide]; exact nI_add i 6) (by decide) rfl (fun ls hl => ?_)
        refine lv_goto (tgt := 18) X1.1 X1.2.1 dL_law_1383 (by decide) ?_
        exact ih (i + 6) u2 H1 locs1 ls hi6 (by omega) h1 hok1 hl
      refine lv_aload_n X1.1 X1.2.1 dL_law_27 rfl (lv_at hl 3 rfl) ?_
      refine lv_iload_n X1.1 X1.2.1 dL_law_28 rfl (lv_at hl 0 rfl) ?_
      refine va_sld X1.1 X1.2.1 hX hbl hbA h.2 (vp_in_nI (by omega) (by omega)) dL_law_29 ?_
      refine lv_bipush (v := 63) X1.1 X1.2.1 dL_law_30 (by decide) ?_
      refine lv_iand X1.1 X1.2.1 dL_law_32 ?_
      refine lv_topi (fun y _ => ?_)
      rcases (show y.toInt = 0 ∨ y.toInt = 1 ∨ y.toInt = 2 ∨ y.toInt = 3 ∨ y.toInt = 4 ∨ y.toInt = 5 ∨ y.toInt = 6 ∨ y.toInt = 7 ∨ y.toInt = 8 ∨ y.toInt = 9 ∨ y.toInt = 10 ∨ y.toInt = 11 ∨ y.toInt = 12 ∨ y.toInt = 13 ∨ y.toInt = 14 ∨ y.toInt = 15 ∨ y.toInt = 16 ∨ y.toInt = 17 ∨ y.toInt = 18 ∨ y.toInt = 19 ∨ y.toInt = 20 ∨ y.toInt = 21 ∨ y.toInt = 22 ∨ y.toInt = 23 ∨ y.toInt = 24 ∨ y.toInt = 25 ∨ y.toInt = 26 ∨ y.toInt = 27 ∨ y.toInt = 28 ∨ y.toInt = 29 ∨ y.toInt = 30 ∨ y.toInt = 31 ∨ y.toInt = 32 ∨ y.toInt = 33 ∨ y.toInt = 34 ∨ y.toInt = 35 ∨ y.toInt = 36 ∨ y.toInt = 37 ∨ y.toInt = 38 ∨ (y.toInt < 0 ∨ 38 < y.toInt) by omega) with q | q | q | q | q | q | q | q | q | q | q | q | q | q | q | q | q | q | q | q | q | q | q | q | q | q | q | q | q | q | q | q | q | q | q | q | q | q | q | q
      · exact lv_tableIn (tgt := 204) X1.1 X1.2.1 dL_law_33 (by omega) (by omega) (by rw [q]; rfl) (by decide) (op_person X h hok hl hc kk)
      · exact lv_tableIn (tgt := 247) X1.1 X1.2.1 dL_law_33 (by omega) (by omega) (by rw [q]; rfl) (by decide) (op_of X h hok hl hc kk)
      · exact lv_tableIn (tgt := 280) X1.1 X1.2.1 dL_law_33 (by omega) (by omega) (by rw [q]; rfl) (by decide) (op_thanks X h hok hl hc kk)
      · exact lv_tableIn (tgt := 313) X1.1 X1.2.1 dL_law_33 (by omega) (by omega) (by rw [q]; rfl) (by decide) (op_kill X h hok hl hc kk)
      · exact lv_tableIn (tgt := 362) X1.1 X1.2.1 dL_law_33 (by omega) (by omega) (by rw [q]; rfl) (by decide) (op_row X h hok hl hc kk)
      · exact lv_tableIn (tgt := 405) X1.1 X1.2.1 dL_law_33 (by omega) (by omega) (by rw [q]; rfl) (by decide) (op_soldier X h hok hl hc kk)
      · exact lv_tableIn (tgt := 438) X1.1 X1.2.1 dL_law_33 (by omega) (by omega) (by rw [q]; rfl) (by decide) (op_round X h hok hl hc kk)
      · exact lv_tableIn (tgt := 461) X1.1 X1.2.1 dL_law_33 (by omega) (by omega) (by rw [q]; rfl) (by decide) (op_feed X h hok hl hc kk)
      · exact lv_tableIn (tgt := 484) X1.1 X1.2.1 dL_law_33 (by omega) (by omega) (by rw [q]; rfl) (by decide) (op_land X h hok hl hc kk)
      · exact lv_tableIn (tgt := 497) X1.1 X1.2.1 dL_law_33 (by omega) (by omega) (by rw [q]; rfl) (by decide) (op_told X h hok hl hc kk)
      · exact lv_tableIn (tgt := 520) X1.1 X1.2.1 dL_law_33 (by omega) (by omega) (by rw [q]; rfl) (by decide) (op_pass X h hok hl hc kk)
      · exact lv_tableIn (tgt := 543) X1.1 X1.2.1 dL_law_33 (by omega) (by omega) (by rw [q]; rfl) (by decide) (op_on X h hok hl hc kk)
      · exact lv_tableIn (tgt := 576) X1.1 X1.2.1 dL_law_33 (by omega) (by omega) (by rw [q]; rfl) (by decide) (op_dies X h hok hl hc kk)
      · exact lv_tableIn (tgt := 589) X1.1 X1.2.1 dL_law_33 (by omega) (by omega) (by rw [q]; rfl) (by decide) (op_worst X h hok hl hc kk)
      · exact lv_tableIn (tgt := 622) X1.1 X1.2.1 dL_law_33 (by omega) (by omega) (by rw [q]; rfl) (by decide) (op_aim X h hok hl hc kk)
      · exact lv_tableIn (tgt := 635) X1.1 X1.2.1 dL_law_33 (by omega) (by omega) (by rw [q]; rfl) (by decide) (op_swap X h hok hl hc kk)
      · exact lv_tableIn (tgt := 648) X1.1 X1.2.1 dL_law_33 (by omega) (by omega) (by rw [q]; rfl) (by decide) (op_enough X h hok hl hc kk)
      · exact lv_tableIn (tgt := 671) X1.1 X1.2.1 dL_law_33 (by omega) (by omega) (by rw [q]; rfl) (by decide) (op_bears X h hok hl hc kk)
      · exact lv_tableIn (tgt := 694) X1.1 X1.2.1 dL_law_33 (by omega) (by omega) (by rw [q]; rfl) (by decide) (op_whose X h hok hl hc kk)
      · exact lv_tableIn (tgt := 717) X1.1 X1.2.1 dL_law_33 (by omega) (by omega) (by rw [q]; rfl) (by decide) (op_see X h hok hl hc kk)
      · exact lv_tableIn (tgt := 750) X1.1 X1.2.1 dL_law_33 (by omega) (by omega) (by rw [q]; rfl) (by decide) (op_was X h hok hl hc kk)
      · exact lv_tableIn (tgt := 783) X1.1 X1.2.1 dL_law_33 (by omega) (by omega) (by rw [q]; rfl) (by decide) (op_can X h hok hl hc kk)
      · exact lv_tableIn (tgt := 816) X1.1 X1.2.1 dL_law_33 (by omega) (by omega) (by rw [q]; rfl) (by decide) (op_odds X h hok hl hc kk)
      · exact lv_tableIn (tgt := 850) X1.1 X1.2.1 dL_law_33 (by omega) (by omega) (by rw [q]; rfl) (by decide) (op_mean X h hok hl hc kk)
      · exact lv_tableIn (tgt := 884) X1.1 X1.2.1 dL_law_33 (by omega) (by omega) (by rw [q]; rfl) (by decide) (op_winter X h hok hl hc kk)
      · exact lv_tableIn (tgt := 917) X1.1 X1.2.1 dL_law_33 (by omega) (by omega) (by rw [q]; rfl) (by decide) (op_gone X h hok hl hc kk)
      · exact lv_tableIn (tgt := 940) X1.1 X1.2.1 dL_law_33 (by omega) (by omega) (by rw [q]; rfl) (by decide) (op_book X h hok hl hc kk)
      · exact lv_tableIn (tgt := 973) X1.1 X1.2.1 dL_law_33 (by omega) (by omega) (by rw [q]; rfl) (by decide) (op_looked X h hok hl hc kk)
      · exact lv_tableIn (tgt := 986) X1.1 X1.2.1 dL_law_33 (by omega) (by omega) (by rw [q]; rfl) (by decide) (op_judge X h hok hl hc kk)
      · exact lv_tableIn (tgt := 1019) X1.1 X1.2.1 dL_law_33 (by omega) (by omega) (by rw [q]; rfl) (by decide) (op_image X h hok hl hc kk)
      · exact lv_tableIn (tgt := 1032) X1.1 X1.2.1 dL_law_33 (by omega) (by omega) (by rw [q]; rfl) (by decide) (op_undo X h hok hl hc kk)
      · exact lv_tableIn (tgt := 1045) X1.1 X1.2.1 dL_law_33 (by omega) (by omega) (by rw [q]; rfl) (by decide) (op_act X h hok hl hc kk)
      · exact lv_tableIn (tgt := 1088) X1.1 X1.2.1 dL_law_33 (by omega) (by omega) (by rw [q]; rfl) (by decide) (op_trace X h hok hl hc kk)
      · exact lv_tableIn (tgt := 1111) X1.1 X1.2.1 dL_law_33 (by omega) (by omega) (by rw [q]; rfl) (by decide) (op_taken X h hok hl hc kk)
      · exact lv_tableIn (tgt := 1144) X1.1 X1.2.1 dL_law_33 (by omega) (by omega) (by rw [q]; rfl) (by decide) (op_count X h hok hl hc kk)
      · exact lv_tableIn (tgt := 1167) X1.1 X1.2.1 dL_law_33 (by omega) (by omega) (by rw [q]; rfl) (by decide) (op_tape X h hok hl hc kk)
      · exact lv_tableIn (tgt := 1210) X1.1 X1.2.1 dL_law_33 (by omega) (by omega) (by rw [q]; rfl) (by decide) (op_item X h hok hl hc kk)
      · exact lv_tableIn (tgt := 1283) X1.1 X1.2.1 dL_law_33 (by omega) (by omega) (by rw [q]; rfl) (by decide) (op_read X h hok hl hc kk)
      · exact lv_tableIn (tgt := 1317) X1.1 X1.2.1 dL_law_33 (by omega) (by omega) (by rw [q]; rfl) (by decide) (op_shift X h hok hl hc kk)
      · exact lv_tableOut (tgt := 1380) X1.1 X1.2.1 dL_law_33 q (by decide) (kk u _ _ h hok)
set_option maxHeartbeats 4000000 in
set_option maxRecDepth 100000 in
/-- the law, from its entry -/
theorem whole_start {p : Program} {e : Env} {s : State} {m : MethodId} {below : List Frame} {meth : Method} {c : Code} (l : Launch) (hflags : l.flags = flags0) {b L : Nat} {xs : Nat → Int32} (hL : L ≤ 3072) (C0 : lw_At p s m meth c b L xs) : W p l e room_1 s m #[Value.ref b] below meth c s.heap [] 0 0 (lw_Z below #[Value.ref b] s) (entryFrame m ([Value.ref b] : List Value).toArray 4) := by
  obtain ⟨hx, hb, hr, hml, hown, hts, hX, hbl, hlocks, hgv⟩ := id C0
  have h0 := la_T0 hts
  obtain ⟨D, k, hK⟩ := la_K hts
  have hA0 : ∀ a : Nat, a < s.heap.size → ¬ (fun q : Nat => s.heap.size ≤ q) a := fun a h q => absurd h (Nat.not_lt.mpr q)
  obtain ⟨t, K, V, hSB, hvk⟩ := la_sb hts hgv hA0
  have hN := la_KN hts
  have X : Kx D k p s m #[Value.ref b] c cL_law 4 RL := ⟨hx, hb, hml, hown, h0, hK, hN⟩
  have h : HK D s.heap.size s [] s.heap [] := ⟨fun k q h => by simp at h, ⟨fun i j p q h => by simp at h, fun k q h => by simp at h⟩, va_S.rf, Nat.le_refl _⟩
  have hl := lv_entry ([.ref b]) (n := 4) (Nat.le_of_ble_eq_true rfl)
  rw [lg_entry_eq]
  generalize (lg_sl ([.ref b]) ++ List.replicate (4 - (lg_sl ([.ref b])).length) Slot.unset).toArray = ls at hl ⊢
  have hl : lv_has ls 4 [(0, .ref b)] := hl
  refine k_new (fs := [.null, .null, .null, .null, .int 0, .null, .int 0, .null, .null, .null]) X h kl7 cw_RL_7 it_RX7 in_RX7 (fun j hj => by rcases (show j = 0 ∨ j = 1 ∨ j = 2 ∨ j = 3 ∨ j = 4 ∨ j = 5 ∨ j = 6 ∨ j = 7 ∨ j = 8 ∨ j = 9 by omega) with rfl | rfl | rfl | rfl | rfl | rfl | rfl | rfl | rfl | rfl <;> rfl) (Nat.le_of_ble_eq_true rfl) (Nat.le_of_ble_eq_true rfl) dL_law_0 (fun oC H h => ?_)
  refine lv_dup X.1 X.2.1 dL_law_3 rfl ?_
  refine k_call X h (As := []) (rest := [.ref oC]) (c_X7_init l D k s.heap.size [] oC) mn_X7_init ml_RL_9 ⟨Nat.le_of_ble_eq_true rfl, Nat.le_of_ble_eq_true rfl⟩ rfl hl.1 rfl (Nat.le_of_ble_eq_true rfl) dL_law_4 ⟨Nat.le_of_ble_eq_true rfl, Nat.le_of_ble_eq_true rfl⟩ (fun aC H _ h => ?_)
  refine lv_astore_n (lv' := [(1, .ref oC), (0, .ref b)]) X.1 X.2.1 dL_law_7 rfl hl (by decide) rfl (fun ls hl => ?_)
  refine k_new (fs := [.int 0, .null, .null, .null, .null, .null, .null, .int 0, .int 0, .int 0, .null, .int 0, .int 0, .null, .int 0, .int 0, .null, .null, .null, .null, .null, .null, .int 0, .int 0, .int 0, .int 0, .int 0, .null, .int 0, .null, .null, .int 0, .null, .null, .int 0, .null, .null, .int 0, .int 0, .null, .int 0, .null, .null, .int 0, .null, .null, .null, .null]) X h kl8 cw_RL_10 it_RX8 in_RX8 (fun j hj => by rcases (show j = 0 ∨ j = 1 ∨ j = 2 ∨ j = 3 ∨ j = 4 ∨ j = 5 ∨ j = 6 ∨ j = 7 ∨ j = 8 ∨ j = 9 ∨ j = 10 ∨ j = 11 ∨ j = 12 ∨ j = 13 ∨ j = 14 ∨ j = 15 ∨ j = 16 ∨ j = 17 ∨ j = 18 ∨ j = 19 ∨ j = 20 ∨ j = 21 ∨ j = 22 ∨ j = 23 ∨ j = 24 ∨ j = 25 ∨ j = 26 ∨ j = 27 ∨ j = 28 ∨ j = 29 ∨ j = 30 ∨ j = 31 ∨ j = 32 ∨ j = 33 ∨ j = 34 ∨ j = 35 ∨ j = 36 ∨ j = 37 ∨ j = 38 ∨ j = 39 ∨ j = 40 ∨ j = 41 ∨ j = 42 ∨ j = 43 ∨ j = 44 ∨ j = 45 ∨ j = 46 ∨ j = 47 by omega) with rfl | rfl | rfl | rfl | rfl | rfl | rfl | rfl | rfl | rfl | rfl | rfl | rfl | rfl | rfl | rfl | rfl | rfl | rfl | rfl | rfl | rfl | rfl | rfl | rfl | rfl | rfl | rfl | rfl | rfl | rfl | rfl | rfl | rfl | rfl | rfl | rfl | rfl | rfl | rfl | rfl | rfl | rfl | rfl | rfl | rfl | rfl | rfl <;> rfl) (Nat.le_of_ble_eq_true rfl) (Nat.le_of_ble_eq_true rfl) dL_law_8 (fun oM H h => ?_)
  refine lv_dup X.1 X.2.1 dL_law_11 rfl ?_
  refine k_call X h (As := []) (rest := [.ref oM]) (c_X8_init l D k s.heap.size (bC k oC aC ++ []) oM) mn_X8_init ml_RL_12 ⟨Nat.le_of_ble_eq_true rfl, Nat.le_of_ble_eq_true rfl⟩ rfl hl.1 rfl (Nat.le_of_ble_eq_true rfl) dL_law_12 ⟨Nat.le_of_ble_eq_true rfl, Nat.le_of_ble_eq_true rfl⟩ (fun aM H _ h => ?_)
  refine lv_astore_n (lv' := [(2, .ref oM), (1, .ref oC), (0, .ref b)]) X.1 X.2.1 dL_law_15 rfl hl (by decide) rfl (fun ls hl => ?_)
  refine lv_iconst (v := 0) X.1 X.2.1 dL_law_16 (by decide) ?_
  refine lv_istore_n (lv' := [(3, .int 0), (2, .ref oM), (1, .ref oC), (0, .ref b)]) X.1 X.2.1 dL_law_17 rfl hl (by decide) rfl (fun ls hl => ?_)
  obtain ⟨hP, hZ⟩ := first_world D k (fun q => s.heap.size ≤ q) t K V oC oM aC aM h.1 h.2.1
  have hfn : va_Nw (.fieldLinkNest RX0 48 RX7 "ABOVE" "[I" RX7) s := va_Nw.of rfl (hts _ tb_fn)
  exact law_loop (Z := (D, aG oC oM aC aM, k, (fun q => s.heap.size ≤ q), t, K, V)) ⟨hx, hb, hml, hown, h0, ⟨hZ, hK, ⟨hN.1, hfn, hvk⟩, hSB D (aG oC oM aC aM) k⟩, hr, hlocks⟩ hX hbl (Nat.not_le.mpr hbl) hL ⟨Nat.le_of_ble_eq_true rfl, Nat.le_of_ble_eq_true rfl⟩ (fun _ h => h) (L + 1) 0 (v0, w0) _ _ ls (Nat.zero_le L) (by omega) ⟨hP, h.2.2.1⟩ ⟨0, 0, 0, 0, _, inv0⟩ hl
set_option maxHeartbeats 4000000 in
theorem lw_walk (l : Launch) (hflags : l.flags = flags0) (b : Addr) (xs : List Int32) : MetFree l x (headSpec (Jvm.Cond.code x code maxLocals ret :: tables_1) room_1) (lw_P b xs) (fun _ _ _ _ _ => True) lw_Q := by
  refine MetFree.of_bodyS (code := code) (maxLocals := maxLocals) (ret := ret) (by decide) ?_ ?_
  · intro args s m h hn
    obtain ⟨meth, c, h1, h2, h3, h4, h5, h6, -, -⟩ := Cond.code_spec hn (atoms_spec (ws := Jvm.Cond.code x code maxLocals ret :: tables_1) h _ List.mem_cons_self)
    exact ⟨meth, c, h1, h2, h3, h4, h5, h6⟩
  · intro p e s m args below meth c s₁ B hml0 hP _
    obtain ⟨rfl, hx, hbd, hgv⟩ := hP
    obtain ⟨scr, harrAt, hlist, hof, hsmall⟩ := hx
    obtain ⟨hcb, hkn, -, -⟩ := State.arrayAt?_spec harrAt
    have hown : s.vm.findClass R_law = some m.cls := findClass_of_methodNamed B.named
    have hts0 : ∀ c ∈ (Jvm.Cond.code x code maxLocals ret :: tables_1), c.before #[Value.ref b] s = true := atoms_spec (ws := Jvm.Cond.code x code maxLocals ret :: tables_1) B.pre
    have hts : ∀ w ∈ lw_tbl, w.before #[Value.ref b] s = true := k2_hts_sels lw_privs (fun w hw => hts0 w (List.mem_cons_of_mem _ hw)) lw_privs_ok
    have hml : c.maxLocals = 4 := B.maxLocals_eq (hts0 _ List.mem_cons_self)
    have X₀ : Stand p l e room_1 s m #[Value.ref b] below meth c s₁ [] 0 0 := Stand.of_body B
    have hh0 : s₁.heap = s.heap := by rw [B.state]; rfl
    have hsz : scr.slots.size = xs.length := by rw [← Array.length_toList, hlist, List.length_map]
    have hval : ∀ j : Nat, j < xs.length → scr.slots[j]? = some (.int (xs.getD j 0)) := fun j hj => by
      rw [← Array.getElem?_toList, hlist]
      simp [hj]
    have hbl : b < s.heap.size := (Array.getElem?_eq_some_iff.mp hcb).1
    have hX : va_X b xs.length (fun j => xs.getD j 0) s s.heap := ⟨scr, hcb, hof, hkn, hsz, hval⟩
    have K : W p l e room_1 s m #[Value.ref b] below meth c s₁.heap [] 0 0 (lw_Z below #[Value.ref b] s) (entryFrame m ([Value.ref b] : List Value).toArray 4) := by
      rw [hh0]
      exact whole_start l hflags hbd ⟨B.exec, B.bytes, B.returns, hml, hown, hts, hX, hbl, B.notSynchronized, hgv⟩
    obtain ⟨t, a1, o, b1, b2, b3⟩ := K s₁ rfl X₀
    exact ⟨t, o, a1, b1, b2, b3⟩
theorem lw_pre_spec {args : Array Value} {s : State} (h : (Jvm.Cond.and given_1 narrow_1).before args s = true) (hr : rest_1_c.before args s = true) : ∃ (b : Addr) (xs : List Int32), lw_P b xs args s := by
  have hs := flat_of_before _ h
  have hq := flat_of_before _ hr
  have hc : (Cond.count 1).before args s = true := hs _ (by decide +kernel)
  have harr : (Cond.arrayOf (.arg 0) .int).before args s = true := hs _ (by decide +kernel)
  have hle : (Cond.le (.length (.arg 0)) (.int 3072)).before args s = true := hs _ (by decide +kernel)
  have hlen : (Cond.isInt (.length (.arg 0))).before args s = true := hq _ (by decide +kernel)
  have hall : (Cond.all (.arg 0) (.isInt (.elem (.arg 0) (.index 0)))).before args s = true := hq _ (by decide +kernel)
  obtain ⟨b, xs, hb, hx⟩ := State.ints_of_pre rfl harr hlen hall
  have hsm : xs.length < 2 ^ 31 := hx.choose_spec.2.2.2
  have hev : (Term.length (.arg 0)).eval args s none [] s = some (.int xs.length.toInt32) := hx.length_eval hb
  have hv := Cond.le_ints hev (show (Term.int 3072).eval args s none [] s = some (.int 3072) from rfl)
  have hd : xs.length.toInt32 ≤ 3072 := by
    simpa [Cond.before, Cond.holds, hv] using hle
  have hN : xs.length ≤ 3072 := (Int32.ofNat_le_ofNat hsm (by decide)).mp (show Int32.ofNat xs.length ≤ Int32.ofNat 3072 from hd)
  exact ⟨b, xs, Cond.one_arg hc (show args[0]? = some (.ref b) from hb), hx, hN, h⟩
theorem lw_comes (l : Launch) (hflags : l.flags = flags0) : Comes l x (Jvm.Cond.code x code maxLocals ret :: tables_1) room_1 (fun tb e args s => Calls_1 tb e args s ∧ rest_1 tb e args s ∧ Pre_1 tb e args s)
    (fun _ _ args s o t => lw_Q args s o t) := by
  intro p e ha hc hk s m args below hf hfit hheap happ hpre
  obtain ⟨b, xs, hP⟩ := lw_pre_spec hpre.2.2 hpre.2.1
  obtain ⟨k, o, h1, h2, h3, hQ⟩ := lw_walk l hflags b xs p e ha hc hk s m args below hf ((Spec.applies_iff_loose hf).mp happ).1 hP trivial
  exact ⟨k, o, h1, h2, h3, hQ⟩
theorem lw_frame {s t : State} {o : Outcome} {args : Array Value} (h : Framed s o t [] 600000 7302250) :
    Framed s o t (fieldLocs frame_1_writes args s ++ arrayLocs frame_1_arrays args s ++ staticLocs frame_1_statics s) 600000 7302250 := h
theorem lw_limb (L : Cond) (hL : ∀ (args : Array Value) (s t : State), L.after args s (.returned (some (.int 1))) t = true) :
    ArmFor flags0 classFile x code maxLocals ret World_1 tables_1 room_1 Calls_1 rest_1 Pre_1
      (fun tb e a s o t => postC L tb e a s o t ∧ Framed s o t (fieldLocs frame_1_writes a s ++ arrayLocs frame_1_arrays a s ++ staticLocs frame_1_statics s) 600000 7302250) := by
  intro l hflags _ _ p e ha hc hk s m args below hf hfit hheap happ hpre
  obtain ⟨k, o, h1, h2, h3, rfl, hF⟩ := lw_comes l hflags p e ha hc hk s m args below hf hfit hheap happ hpre
  exact ⟨k, _, h1, h2, h3, hL args s _, lw_frame hF⟩
theorem i_vc : Claimed_1_1 ∧ Claimed_1_2 := ⟨lw_limb limb_1_1 (fun args s t => by simp [limb_1_1, Cond.after, Cond.holds, Cond.value]), lw_limb limb_1_2 (fun args s t => Cond.after_iff.mpr (by
  first | (rw [show limb_1_2 = Cond.eq .result (.int 1) from rfl, Cond.eq_ints (x := 1) (y := 1) rfl rfl]; simp; done) | (simp [limb_1_2, Cond.value, Term.eval]; done)))⟩
