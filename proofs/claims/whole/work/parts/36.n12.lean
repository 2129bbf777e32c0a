/-! the class: tapes -/
theorem is5_f1 {x : Int32} (h : x < 0) : inR x 0 5 = false := by rw [inR, decide_eq_false (Int32.not_le.mpr h)]; rfl
theorem is5_f2 {x : Int32} (h : 6 ≤ x) : inR x 0 5 = false := by
  rw [inR_f]
  rintro ⟨-, q⟩
  rw [i_le] at h q
  have e5 : (5 : Int32).toInt = 5 := rfl
  have e6 : (6 : Int32).toInt = 6 := rfl
  omega
theorem is5_t {x : Int32} (h : ¬ x < 0) (h2 : ¬ 6 ≤ x) : inR x 0 5 = true := by
  rw [inR_t]
  rw [i_lt] at h
  rw [i_le] at h2
  rw [i_le, i_le]
  have e0 : (0 : Int32).toInt = 0 := rfl
  have e5 : (5 : Int32).toInt = 5 := rfl
  have e6 : (6 : Int32).toInt = 6 := rfl
  omega
theorem cmp_ge {x y : Int64} : 0 ≤ lg_cmp x y ↔ ¬ x < y := by
  rw [← cmp_lt]
  exact ⟨fun h q => absurd q (Int32.not_lt.mpr h), fun h => Int32.not_lt.mp h⟩
theorem betw_60 {n : Nat} (h : n ≤ 60) : imax 0 (imin 60 (nI n)) = nI n := by
  have e : imin 60 (nI n) = nI n := by
    unfold imin
    split
    · rfl
    · rename_i q
      have := nI_lt0 (a := n) (b := 60) rfl rfl (by omega) (by omega) q
      rw [show n = 60 by omega]; rfl
  rw [e]
  unfold imax
  split
  · rfl
  · rename_i q
    have := nI_lt0 (a := 0) (b := n) rfl rfl (by omega) (by omega) q
    rw [show n = 0 by omega]; rfl
def plS (z : Int32) (x : Int64) : Bool := decide (0 ≤ x) && decide (x < z.toInt64)
def stS (z i n : Int32) : Bool := decide (0 ≤ i) && decide (0 ≤ n) && !outS z i n
theorem l_0 {i : Int32} : (0 : Int64) ≤ i.toInt64 ↔ 0 ≤ i := by
  rw [Int64.le_iff_toInt_le, i_le, Int32.toInt_toInt64]
  rfl
theorem l_lt {i z : Int32} : i.toInt64 < z.toInt64 ↔ i < z := by
  rw [Int64.lt_iff_toInt_lt, i_lt, Int32.toInt_toInt64, Int32.toInt_toInt64]
theorem pl_isP {z i : Int32} : plS z i.toInt64 = isP z i := by
  rw [plS, isP]
  congr 1
  · exact decide_eq_decide.mpr l_0
  · exact decide_eq_decide.mpr l_lt
theorem TIv_emp {ts sz : Nat → Int32} (h : TIv ts sz) {t : Nat} (ht : t < 6) : ts t < 0 ↔ ts t = -1 := by
  rcases h t ht with ⟨e, -⟩ | ⟨s, z, hs, -, e, -⟩
  · rw [e]; decide
  · rw [e]
    constructor
    · intro q; exact absurd q (nI_pos (by omega))
    · intro q
      have := congrArg Int32.toInt q
      rw [nI_toInt (by omega)] at this
      have e1 : (-1 : Int32).toInt = -1 := rfl
      omega
theorem TIv_sort {ts sz : Nat → Int32} (h : TIv ts sz) {t : Nat} (ht : t < 6) (hn : ¬ ts t = -1) : ∃ s z, s ≤ 4 ∧ z ≤ 60 ∧ ts t = nI s ∧ sz t = nI z := by
  rcases h t ht with ⟨e, -⟩ | q
  · exact absurd e hn
  · exact q
theorem TIv_place {ts sz : Nat → Int32} (h : TIv ts sz) {t : Nat} (ht : t < 6) {i : Int32} (hp : isP (sz t) i = true) : ¬ ts t = -1 ∧ ∃ z k, z ≤ 60 ∧ sz t = nI z ∧ i = nI k ∧ k < z ∧ i.toNatClampNeg = k := by
  obtain ⟨z, hz, e⟩ := sz_nat h ht
  rw [e] at hp
  obtain ⟨k, ek, hk, ec⟩ := isP_nat (by omega) hp
  refine ⟨fun q => ?_, z, k, hz, e, ek, hk, ec⟩
  rcases h t ht with ⟨-, e2⟩ | ⟨s, z', hs, -, e1, -⟩
  · rw [e] at e2
    have := nI_inj (b := 0) (by omega) (by omega) e2
    omega
  · rw [e1] at q
    have := congrArg Int32.toInt q
    rw [nI_toInt (by omega)] at this
    have e3 : (-1 : Int32).toInt = -1 := rfl
    omega
theorem st_nat {ts sz : Nat → Int32} (h : TIv ts sz) {t : Nat} (ht : t < 6) {i n : Int32} (hp : stS (sz t) i n = true) : ∃ a m, i = nI a ∧ n = nI m ∧ a + m ≤ 60 ∧ i.toNatClampNeg = a ∧ n.toNatClampNeg = m := by
  obtain ⟨z, hz, e⟩ := sz_nat h ht
  simp only [stS, Bool.and_eq_true, decide_eq_true_eq, Bool.not_eq_true', outS, decide_eq_false_iff_not] at hp
  obtain ⟨⟨h1, h2⟩, h3⟩ := hp
  rw [i_le] at h1 h2
  obtain ⟨a, ea, ha, ha2⟩ := i_nat h1
  obtain ⟨m, em, hm, hm2⟩ := i_nat h2
  have h4 : ¬ z < a + m := fun q => h3 ((out_nat e ea em (by omega) ha2 hm2).mpr q)
  exact ⟨a, m, ea, em, by omega, by rw [ea]; exact nI_clamp ha2, by rw [em]; exact nI_clamp hm2⟩
theorem tape_n1 {s n : Int32} (h1 : ¬ s = -1) (h : inR s 0 4 = false) : (inR s (-1) 4 && (decide (s < 0) || decide (n ≤ 60))) = false ∧ (inR s (-1) 4 && (decide (s < 0) || (decide (0 ≤ n) && decide (n ≤ 60)))) = false := by
  have e : inR s (-1) 4 = false := by
    rw [inR_f] at h ⊢
    rintro ⟨a, b⟩
    refine h ⟨?_, b⟩
    rw [i_le] at a ⊢
    rw [i_eq] at h1
    have e1 : (-1 : Int32).toInt = -1 := rfl
    have e0 : (0 : Int32).toInt = 0 := rfl
    omega
  rw [e]; exact ⟨rfl, rfl⟩
theorem tape_ng {s : Int32} (h : inR s 0 4 = true) : ¬ s < 0 := Int32.not_lt.mpr (inR_t.mp h).1
theorem tape_in {s : Int32} (h : inR s 0 4 = true) : inR s (-1) 4 = true := by
  obtain ⟨a, b⟩ := inR_t.mp h
  refine inR_t.mpr ⟨?_, b⟩
  rw [i_le] at a ⊢
  have e1 : (-1 : Int32).toInt = -1 := rfl
  have e0 : (0 : Int32).toInt = 0 := rfl
  omega
theorem tape_n2 {s n : Int32} (h : inR s 0 4 = true) (hn : ¬ n ≤ 60) : (inR s (-1) 4 && (decide (s < 0) || decide (n ≤ 60))) = false ∧ (inR s (-1) 4 && (decide (s < 0) || (decide (0 ≤ n) && decide (n ≤ 60)))) = false := by
  rw [decide_eq_false hn, decide_eq_false (tape_ng h)]
  simp
theorem tape_y {s n : Int32} (h : inR s 0 4 = true) (hn : n ≤ 60) : (inR s (-1) 4 && (decide (s < 0) || decide (n ≤ 60))) = true ∧ decide (0 ≤ s) = true := by
  rw [tape_in h, decide_eq_true hn]
  exact ⟨by simp, decide_eq_true (inR_t.mp h).1⟩
theorem tape_z {s n : Int32} (h : inR s 0 4 = true) (hn : n < 0) : ¬ s < 0 ∧ ¬ 0 ≤ n := ⟨tape_ng h, Int32.not_le.mpr hn⟩
theorem tape_k {s n : Int32} (h : inR s 0 4 = true) (hn : n ≤ 60) (h0 : 0 ≤ n) : (true && inR s (-1) 4 && (decide (s < 0) || (decide (0 ≤ n) && decide (n ≤ 60)))) = true := by
  rw [tape_in h, decide_eq_true hn, decide_eq_true h0]
  simp
theorem tape_nn {n : Int32} (hn : n ≤ 60) (h0 : 0 ≤ n) : ∃ k, n = nI k ∧ k ≤ 60 ∧ n.toNatClampNeg = k := by
  rw [i_le] at hn h0
  obtain ⟨k, e, hk, hk2⟩ := i_nat (x := n) h0
  have e6 : (60 : Int32).toInt = 60 := rfl
  exact ⟨k, e, by omega, by rw [e]; exact nI_clamp hk2⟩
set_option maxRecDepth 100000 in
set_option maxHeartbeats 1000000 in
theorem c_X4_isTape (gl : Launch) (Z : PL) (v : VV) (w : WV) (x0 : Int32) : CT gl yX4_isTape cX4_isTape 2 (some .boolean) 0 0 Z [.ref (zg Z 112), .int x0] v w (Qi Z (fun r u => r = bI (inR x0 0 5) ∧ (v, w) = u)) := by
  refine g_met (by decide) (Nat.le_of_ble_eq_true rfl) ?_
  intro gp ge gs gm ga gb gh gc X h ls hl
  have hx := X.1
  have hb := X.2.1
  have hl : lv_has ls 2 [(0, .ref (zg Z 112)), (1, .int x0)] := hl
  refine lv_iload_n hx hb dX4_isTape_0 rfl (lv_at hl 1 rfl) ?_
  refine lv_if_lt (tgt := 14) hx hb dX4_isTape_1 (by decide) (fun c_1 => ?_) (fun c_1 => ?_)
  · skip
    refine lv_iconst (v := 0) hx hb dX4_isTape_14 (by decide) ?_
    exact g_nret X h dX4_isTape_15 rfl ⟨by rw [is5_f1 c_1]; rfl, rfl⟩
  · skip
    refine lv_iload_n hx hb dX4_isTape_4 rfl (lv_at hl 1 rfl) ?_
    refine lv_bipush (v := 6) hx hb dX4_isTape_5 (by decide) ?_
    refine lv_icmp_ge (tgt := 14) hx hb dX4_isTape_7 (by decide) (fun c_7 => ?_) (fun c_7 => ?_)
    · skip
      refine lv_iconst (v := 0) hx hb dX4_isTape_14 (by decide) ?_
      exact g_nret X h dX4_isTape_15 rfl ⟨by rw [is5_f2 c_7]; rfl, rfl⟩
    · skip
      refine lv_iconst (v := 1) hx hb dX4_isTape_10 (by decide) ?_
      refine lv_goto (tgt := 15) hx hb dX4_isTape_11 (by decide) ?_
      exact g_nret X h dX4_isTape_15 rfl ⟨by rw [is5_t c_1 c_7]; rfl, rfl⟩

set_option maxRecDepth 100000 in
set_option maxHeartbeats 1000000 in
theorem c_X4_isEmpty (gl : Launch) (Z : PL) (v : VV) (w : WV) (x0 : Int32) (t : Nat) (ht : x0 = nI t) (ht6 : t < 6) : CT gl yX4_isEmpty cX4_isEmpty 2 (some .boolean) 0 0 Z [.ref (zg Z 112), .int x0] v w (Qi Z (fun r u => r = bI (decide (v 113 t = -1)) ∧ (v, w) = u)) := by
  refine g_met (by decide) (Nat.le_of_ble_eq_true rfl) ?_
  intro gp ge gs gm ga gb gh gc X h ls hl
  have hx := X.1
  have hb := X.2.1
  have hl : lv_has ls 2 [(0, .ref (zg Z 112)), (1, .int x0)] := hl
  refine lv_aload_n hx hb dX4_isEmpty_0 rfl (lv_at hl 0 rfl) ?_
  refine g_getr X h (k := 0) (t := 113) (cc_112) fr_RX4_9 rfl (by decide) (by decide) (by decide) dX4_isEmpty_1 ?_
  refine lv_iload_n hx hb dX4_isEmpty_4 rfl (lv_at hl 1 rfl) ?_
  refine g_iald X h (k := t) (cc_113) ht (by omega) (by decide) dX4_isEmpty_5 ?_
  refine lv_iconst (v := (-1)) hx hb dX4_isEmpty_6 (by decide) ?_
  refine lv_icmp_ne (tgt := 14) hx hb dX4_isEmpty_7 (by decide) (fun c_7 => ?_) (fun c_7 => ?_)
  · skip
    refine lv_iconst (v := 0) hx hb dX4_isEmpty_14 (by decide) ?_
    exact g_nret X h dX4_isEmpty_15 rfl ⟨by rw [decide_eq_false c_7]; rfl, rfl⟩
  · skip
    refine lv_iconst (v := 1) hx hb dX4_isEmpty_10 (by decide) ?_
    refine lv_goto (tgt := 15) hx hb dX4_isEmpty_11 (by decide) ?_
    exact g_nret X h dX4_isEmpty_15 rfl ⟨by rw [decide_eq_true c_7]; rfl, rfl⟩

set_option maxRecDepth 100000 in
set_option maxHeartbeats 1000000 in
theorem c_X4_isOf (gl : Launch) (Z : PL) (v : VV) (w : WV) (x0 : Int32) (t : Nat) (ht : x0 = nI t) (x1 : Int32) (ht6 : t < 6) : CT gl yX4_isOf cX4_isOf 3 (some .boolean) 0 0 Z [.ref (zg Z 112), .int x0, .int x1] v w (Qi Z (fun r u => r = bI (decide (v 113 t = x1)) ∧ (v, w) = u)) := by
  refine g_met (by decide) (Nat.le_of_ble_eq_true rfl) ?_
  intro gp ge gs gm ga gb gh gc X h ls hl
  have hx := X.1
  have hb := X.2.1
  have hl : lv_has ls 3 [(0, .ref (zg Z 112)), (1, .int x0), (2, .int x1)] := hl
  refine lv_aload_n hx hb dX4_isOf_0 rfl (lv_at hl 0 rfl) ?_
  refine g_getr X h (k := 0) (t := 113) (cc_112) fr_RX4_9 rfl (by decide) (by decide) (by decide) dX4_isOf_1 ?_
  refine lv_iload_n hx hb dX4_isOf_4 rfl (lv_at hl 1 rfl) ?_
  refine g_iald X h (k := t) (cc_113) ht (by omega) (by decide) dX4_isOf_5 ?_
  refine lv_iload_n hx hb dX4_isOf_6 rfl (lv_at hl 2 rfl) ?_
  refine lv_icmp_ne (tgt := 14) hx hb dX4_isOf_7 (by decide) (fun c_7 => ?_) (fun c_7 => ?_)
  · skip
    refine lv_iconst (v := 0) hx hb dX4_isOf_14 (by decide) ?_
    exact g_nret X h dX4_isOf_15 rfl ⟨by rw [decide_eq_false c_7]; rfl, rfl⟩
  · skip
    refine lv_iconst (v := 1) hx hb dX4_isOf_10 (by decide) ?_
    refine lv_goto (tgt := 15) hx hb dX4_isOf_11 (by decide) ?_
    exact g_nret X h dX4_isOf_15 rfl ⟨by rw [decide_eq_true c_7]; rfl, rfl⟩

set_option maxRecDepth 100000 in
set_option maxHeartbeats 1000000 in
theorem c_X4_isPlace (gl : Launch) (Z : PL) (v : VV) (w : WV) (x0 : Int32) (t : Nat) (ht : x0 = nI t) (x1 : Int64) (ht6 : t < 6) : CT gl yX4_isPlace cX4_isPlace 4 (some .boolean) 0 0 Z [.ref (zg Z 112), .int x0, .long x1] v w (Qi Z (fun r u => r = bI (plS (v 114 t) x1) ∧ (v, w) = u)) := by
  refine g_met (by decide) (Nat.le_of_ble_eq_true rfl) ?_
  intro gp ge gs gm ga gb gh gc X h ls hl
  have hx := X.1
  have hb := X.2.1
  have hl : lv_has ls 4 [(0, .ref (zg Z 112)), (1, .int x0), (2, .long x1)] := hl
  refine lv_lload_n hx hb dX4_isPlace_0 rfl (lv_at hl 2 rfl) ?_
  refine lv_lconst (v := 0) hx hb dX4_isPlace_1 (by decide) ?_
  refine W.lcmp hx hb dX4_isPlace_2 ?_
  refine lv_if_lt (tgt := 22) hx hb dX4_isPlace_3 (by decide) (fun c_3 => ?_) (fun c_3 => ?_)
  · skip
    refine lv_iconst (v := 0) hx hb dX4_isPlace_22 (by decide) ?_
    exact g_nret X h dX4_isPlace_23 rfl ⟨by rw [plS, decide_eq_false (Int64.not_le.mpr (cmp_lt.mp c_3))]; rfl, rfl⟩
  · skip
    refine lv_lload_n hx hb dX4_isPlace_6 rfl (lv_at hl 2 rfl) ?_
    refine lv_aload_n hx hb dX4_isPlace_7 rfl (lv_at hl 0 rfl) ?_
    refine g_getr X h (k := 1) (t := 114) (cc_112) fr_RX4_13 rfl (by decide) (by decide) (by decide) dX4_isPlace_8 ?_
    refine lv_iload_n hx hb dX4_isPlace_11 rfl (lv_at hl 1 rfl) ?_
    refine g_iald X h (k := t) (cc_114) ht (by omega) (by decide) dX4_isPlace_12 ?_
    refine lv_i2l hx hb dX4_isPlace_13 rfl ?_
    refine W.lcmp hx hb dX4_isPlace_14 ?_
    refine lv_if_ge (tgt := 22) hx hb dX4_isPlace_15 (by decide) (fun c_15 => ?_) (fun c_15 => ?_)
    · skip
      refine lv_iconst (v := 0) hx hb dX4_isPlace_22 (by decide) ?_
      exact g_nret X h dX4_isPlace_23 rfl ⟨by rw [plS, decide_eq_false (cmp_ge.mp c_15), Bool.and_false]; rfl, rfl⟩
    · skip
      refine lv_iconst (v := 1) hx hb dX4_isPlace_18 (by decide) ?_
      refine lv_goto (tgt := 23) hx hb dX4_isPlace_19 (by decide) ?_
      exact g_nret X h dX4_isPlace_23 rfl ⟨by rw [plS, decide_eq_true (Int64.not_lt.mp (fun q => c_3 (cmp_lt.mpr q))), decide_eq_true (Classical.not_not.mp (fun q => c_15 (cmp_ge.mpr q)))]; rfl, rfl⟩

set_option maxRecDepth 100000 in
set_option maxHeartbeats 1000000 in
theorem c_X4_isStretch (gl : Launch) (Z : PL) (v : VV) (w : WV) (x0 : Int32) (t : Nat) (ht : x0 = nI t) (x1 : Int32) (x2 : Int32) (ht6 : t < 6) : CT gl yX4_isStretch cX4_isStretch 4 (some .boolean) 0 0 Z [.ref (zg Z 112), .int x0, .int x1, .int x2] v w (Qi Z (fun r u => r = bI (stS (v 114 t) x1 x2) ∧ (v, w) = u)) := by
  refine g_met (by decide) (Nat.le_of_ble_eq_true rfl) ?_
  intro gp ge gs gm ga gb gh gc X h ls hl
  have hx := X.1
  have hb := X.2.1
  have hl : lv_has ls 4 [(0, .ref (zg Z 112)), (1, .int x0), (2, .int x1), (3, .int x2)] := hl
  refine lv_iload_n hx hb dX4_isStretch_0 rfl (lv_at hl 2 rfl) ?_
  refine lv_if_lt (tgt := 28) hx hb dX4_isStretch_1 (by decide) (fun c_1 => ?_) (fun c_1 => ?_)
  · skip
    refine lv_iconst (v := 0) hx hb dX4_isStretch_28 (by decide) ?_
    exact g_nret X h dX4_isStretch_29 rfl ⟨by rw [stS, decide_eq_false (Int32.not_le.mpr c_1)]; rfl, rfl⟩
  · skip
    refine lv_iload_n hx hb dX4_isStretch_4 rfl (lv_at hl 3 rfl) ?_
    refine lv_if_lt (tgt := 28) hx hb dX4_isStretch_5 (by decide) (fun c_5 => ?_) (fun c_5 => ?_)
    · skip
      refine lv_iconst (v := 0) hx hb dX4_isStretch_28 (by decide) ?_
      exact g_nret X h dX4_isStretch_29 rfl ⟨by rw [stS, decide_eq_false (Int32.not_le.mpr c_5), Bool.and_false]; rfl, rfl⟩
    · skip
      refine lv_iload_n hx hb dX4_isStretch_8 rfl (lv_at hl 2 rfl) ?_
      refine lv_i2l hx hb dX4_isStretch_9 rfl ?_
      refine lv_iload_n hx hb dX4_isStretch_10 rfl (lv_at hl 3 rfl) ?_
      refine lv_i2l hx hb dX4_isStretch_11 rfl ?_
      refine lv_ladd hx hb dX4_isStretch_12 ?_
      refine lv_aload_n hx hb dX4_isStretch_13 rfl (lv_at hl 0 rfl) ?_
      refine g_getr X h (k := 1) (t := 114) (cc_112) fr_RX4_13 rfl (by decide) (by decide) (by decide) dX4_isStretch_14 ?_
      refine lv_iload_n hx hb dX4_isStretch_17 rfl (lv_at hl 1 rfl) ?_
      refine g_iald X h (k := t) (cc_114) ht (by omega) (by decide) dX4_isStretch_18 ?_
      refine lv_i2l hx hb dX4_isStretch_19 rfl ?_
      refine W.lcmp hx hb dX4_isStretch_20 ?_
      refine lv_if_gt (tgt := 28) hx hb dX4_isStretch_21 (by decide) (fun c_21 => ?_) (fun c_21 => ?_)
      · skip
        refine lv_iconst (v := 0) hx hb dX4_isStretch_28 (by decide) ?_
        exact g_nret X h dX4_isStretch_29 rfl ⟨by rw [stS, decide_eq_true (Int32.not_lt.mp c_1), decide_eq_true (Int32.not_lt.mp c_5), outS, decide_eq_true (cmp_gt.mp c_21)]; rfl, rfl⟩
      · skip
        refine lv_iconst (v := 1) hx hb dX4_isStretch_24 (by decide) ?_
        refine lv_goto (tgt := 29) hx hb dX4_isStretch_25 (by decide) ?_
        exact g_nret X h dX4_isStretch_29 rfl ⟨by rw [stS, decide_eq_true (Int32.not_lt.mp c_1), decide_eq_true (Int32.not_lt.mp c_5), outS, decide_eq_false (fun q => c_21 (cmp_gt.mpr q))]; rfl, rfl⟩

set_option maxRecDepth 100000 in
set_option maxHeartbeats 1000000 in
theorem c_X4_drop (gl : Launch) (Z : PL) (v : VV) (w : WV) (x0 : Int32) (t : Nat) (ht : x0 = nI t) (ht6 : t < 6) : CT gl yX4_drop cX4_drop 2 none 0 0 Z [.ref (zg Z 112), .int x0] v w (Qv Z (fun u => (up2 (up2 v 113 t (-1)) 114 t 0, w) = u)) := by
  refine g_met (by decide) (Nat.le_of_ble_eq_true rfl) ?_
  intro gp ge gs gm ga gb gh gc X h ls hl
  have hx := X.1
  have hb := X.2.1
  have hl : lv_has ls 2 [(0, .ref (zg Z 112)), (1, .int x0)] := hl
  refine lv_aload_n hx hb dX4_drop_0 rfl (lv_at hl 0 rfl) ?_
  refine g_getr X h (k := 0) (t := 113) (cc_112) fr_RX4_9 rfl (by decide) (by decide) (by decide) dX4_drop_1 ?_
  refine lv_iload_n hx hb dX4_drop_4 rfl (lv_at hl 1 rfl) ?_
  refine lv_iconst (v := (-1)) hx hb dX4_drop_5 (by decide) ?_
  refine g_iast X h (k := t) (cc_113) ht (by omega) (by decide) dX4_drop_6 (fun v6 H locs ev6 h => ?_)
  refine lv_aload_n hx hb dX4_drop_7 rfl (lv_at hl 0 rfl) ?_
  refine g_getr X h (k := 1) (t := 114) (cc_112) fr_RX4_13 rfl (by decide) (by decide) (by decide) dX4_drop_8 ?_
  refine lv_iload_n hx hb dX4_drop_11 rfl (lv_at hl 1 rfl) ?_
  refine lv_iconst (v := 0) hx hb dX4_drop_12 (by decide) ?_
  refine g_iast X h (k := t) (cc_114) ht (by omega) (by decide) dX4_drop_13 (fun v13 H locs ev13 h => ?_)
  exact g_vret X h dX4_drop_14 (by rw [ev13, ev6])

set_option maxRecDepth 100000 in
set_option maxHeartbeats 1000000 in
theorem c_X4_lay (gl : Launch) (Z : PL) (v : VV) (w : WV) (x0 : Int32) (t : Nat) (ht : x0 = nI t) (x1 : Int32) (x2 : Int32) (n : Nat) (hn : x2 = nI n) (hn60 : n ≤ 60) (ht6 : t < 6) : CT gl yX4_lay cX4_lay 5 none 2 43 Z [.ref (zg Z 112), .int x0, .int x1, .int x2] v w (Qv Z (fun u => (up2 (up2 v 113 t x1) 114 t x2, upcL w 115 (zrL (w 115) (60 * t) n)) = u)) := by
  refine g_met (by decide) (Nat.le_of_ble_eq_true rfl) ?_
  intro gp ge gs gm ga gb gh gc X h ls hl
  have hx := X.1
  have hb := X.2.1
  have hl : lv_has ls 5 [(0, .ref (zg Z 112)), (1, .int x0), (2, .int x1), (3, .int x2)] := hl
  refine lv_aload_n hx hb dX4_lay_0 rfl (lv_at hl 0 rfl) ?_
  refine g_getr X h (k := 0) (t := 113) (cc_112) fr_RX4_9 rfl (by decide) (by decide) (by decide) dX4_lay_1 ?_
  refine lv_iload_n hx hb dX4_lay_4 rfl (lv_at hl 1 rfl) ?_
  refine lv_iload_n hx hb dX4_lay_5 rfl (lv_at hl 2 rfl) ?_
  refine g_iast X h (k := t) (cc_113) ht (by omega) (by decide) dX4_lay_6 (fun v6 H locs ev6 h => ?_)
  refine lv_aload_n hx hb dX4_lay_7 rfl (lv_at hl 0 rfl) ?_
  refine g_getr X h (k := 1) (t := 114) (cc_112) fr_RX4_13 rfl (by decide) (by decide) (by decide) dX4_lay_8 ?_
  refine lv_iload_n hx hb dX4_lay_11 rfl (lv_at hl 1 rfl) ?_
  refine lv_iload_n hx hb dX4_lay_12 rfl (lv_at hl 3 rfl) ?_
  refine lv_iconst (v := 0) hx hb dX4_lay_13 (by decide) ?_
  refine lv_bipush (v := 60) hx hb dX4_lay_14 (by decide) ?_
  refine g_ki h (g_runSN X h (As := [.int x2, .int 0, .int 60]) (rest := [.int x0, .ref (zg Z 114)]) (c_X7_between gl Z v6 w x2 0 60) ms_X7_between (List.mem_of_getElem? (i := 3) rfl) ⟨Nat.le_of_ble_eq_true rfl, Nat.le_of_ble_eq_true rfl⟩ rfl hl.1 rfl (Nat.le_of_ble_eq_true rfl) dX4_lay_16) (fun r16 v16 w16 H locs hp16 h => ?_)
  obtain ⟨hr16, hu16⟩ := hp16; obtain ⟨rfl, rfl⟩ := Prod.mk.inj hu16
  refine g_iast X h (k := t) (cc_114) ht (by omega) (by decide) dX4_lay_19 (fun v19 H locs ev19 h => ?_)
  have hr16n : r16 = nI n := by rw [hr16, hn]; exact betw_60 hn60
  refine lv_iconst (v := 0) hx hb dX4_lay_20 (by decide) ?_
  refine lv_istore (lv' := [(4, .int 0), (0, .ref (zg Z 112)), (1, .int x0), (2, .int x1), (3, .int x2)]) hx hb dX4_lay_21 hl (by decide) rfl (fun ls hl => ?_)
  have L23 : ∀ (n23 : Nat) (i : Nat) (x4 : Int32) (wa : WV), (x4 = nI i) → (i ≤ n) → (wa = upcL w 115 (zrL (w 115) (60 * t) i)) → n - i < n23 → ∀ (H : Heap) (locs : List Loc), HS Z gs v19 wa H locs → ∀ ls : Array Slot, lv_has ls 5 [(0, .ref (zg Z 112)), (1, .int x0), (2, .int x1), (3, .int x2), (4, .int x4)] → W gp gl ge (rmm 2 43) gs gm ga gb gh gc H locs 0 0 (MQ gb (Qv Z (fun u => (up2 (up2 v 113 t x1) 114 t x2, upcL w 115 (zrL (w 115) (60 * t) n)) = u)) ga gs 0 0 (zA Z)) (F0 gm 23 ls []) := by
    intro n23
    induction n23 with
    | zero => intro i x4 wa hx4 hi hwa hmu; exact absurd hmu (Nat.not_lt_zero _)
    | succ n23 ih23 =>
      intro i x4 wa hx4 hi hwa hmu23 H locs h ls hl
      refine lv_iload hx hb dX4_lay_23 (lv_at hl 4 rfl) ?_
      refine lv_aload_n hx hb dX4_lay_25 rfl (lv_at hl 0 rfl) ?_
      refine g_getr X h (k := 1) (t := 114) (cc_112) fr_RX4_13 rfl (by decide) (by decide) (by decide) dX4_lay_26 ?_
      refine lv_iload_n hx hb dX4_lay_29 rfl (lv_at hl 1 rfl) ?_
      refine g_iald X h (k := t) (cc_114) ht (by omega) (by decide) dX4_lay_30 ?_
      refine g_tr (y := r16) (by rw [ev19, up2_same]) ?_
      refine lv_icmp_ge (tgt := 53) hx hb dX4_lay_31 (by decide) (fun c_31 => ?_) (fun c_31 => ?_)
      · skip
        have hin := nI_le1 (a := n) (b := i) hr16n hx4 (by omega) (by omega) c_31
        exact g_vret X h dX4_lay_53 (by rw [hwa, show i = n by omega, ev19, ev6, hr16, hn, betw_60 hn60])
      · skip
        have hin := nI_le0 (a := n) (b := i) hr16n hx4 (by omega) (by omega) c_31
        refine lv_aload_n hx hb dX4_lay_34 rfl (lv_at hl 0 rfl) ?_
        refine g_getr X h (k := 2) (t := 115) (cc_112) fr_RX4_16 rfl (by decide) (by decide) (by decide) dX4_lay_35 ?_
        refine lv_iload_n hx hb dX4_lay_38 rfl (lv_at hl 1 rfl) ?_
        refine lv_bipush (v := 60) hx hb dX4_lay_39 (by decide) ?_
        refine lv_imul hx hb dX4_lay_41 ?_
        refine lv_iload hx hb dX4_lay_42 (lv_at hl 4 rfl) ?_
        refine lv_iadd hx hb dX4_lay_44 ?_
        refine lv_lconst (v := 0) hx hb dX4_lay_45 (by decide) ?_
        refine g_last X h (k := (60 * t + i)) (cc_115) (by rw [ht, hx4]; exact (congrArg (fun z => z + nI i) ((Int32.mul_comm _ _).trans (pk_mul 60 t))).trans (nI_add _ _)) (by omega) (by decide) dX4_lay_46 (fun w46 H locs ew46 h => ?_)
        refine lv_iinc (v := (x4 + 1)) (lv' := [(4, .int (x4 + 1)), (0, .ref (zg Z 112)), (1, .int x0), (2, .int x1), (3, .int x2)]) hx hb dX4_lay_47 hl (k := 4) rfl rfl (by decide) rfl (fun ls hl => ?_)
        refine lv_goto (tgt := 23) hx hb dX4_lay_50 (by decide) ?_
        exact ih23 (i + 1) (x4 + 1) w46 (by rw [hx4]; exact nI_1 _) (by omega) (by rw [ew46, hwa, up2L_upcL, zrL_succ]) (by omega) _ _ h ls (lv_sub hl [1, 2, 3, 4, 0] rfl)
  exact L23 (n - 0 + 1) 0 0 w rfl (Nat.zero_le _) (by rw [zrL_0, upcL_self]) (Nat.lt_succ_self _) _ _ h ls (lv_sub hl [1, 2, 3, 4, 0] rfl)

set_option maxRecDepth 100000 in
set_option maxHeartbeats 1000000 in
theorem c_X4_cut (gl : Launch) (Z : PL) (v : VV) (w : WV) (x0 : Int32) (s : Nat) (hs : x0 = nI s) (x1 : Int64) (hs4 : s ≤ 4) : CT gl yX4_cut cX4_cut 3 (some .long) 0 0 Z [.int x0, .long x1] v w (Ql Z (fun r u => r = keptS x0 x1 ∧ (v, w) = u)) := by
  refine g_met (by decide) (Nat.le_of_ble_eq_true rfl) ?_
  intro gp ge gs gm ga gb gh gc X h ls hl
  have hx := X.1
  have hb := X.2.1
  have hl : lv_has ls 3 [(0, .int x0), (1, .long x1)] := hl
  refine lv_iload_n hx hb dX4_cut_0 rfl (lv_at hl 0 rfl) ?_
  by_cases t1_0 : x0 = 0
  · refine lv_tableIn (off := 35) (tgt := 36) hx hb dX4_cut_1 (by rw [t1_0]; decide) (by rw [t1_0]; decide) (by rw [t1_0]; rfl) (by decide) ?_
    refine lv_lload_n hx hb dX4_cut_36 rfl (lv_at hl 1 rfl) ?_
    refine lv_l2i hx hb dX4_cut_37 rfl ?_
    refine lv_i2b hx hb dX4_cut_38 rfl ?_
    refine lv_i2l hx hb dX4_cut_39 rfl ?_
    exact g_lret X h dX4_cut_40 ⟨by rw [keptS, if_pos t1_0], rfl⟩
  · skip
    by_cases t1_1 : x0 = 1
    · refine lv_tableIn (off := 40) (tgt := 41) hx hb dX4_cut_1 (by rw [t1_1]; decide) (by rw [t1_1]; decide) (by rw [t1_1]; rfl) (by decide) ?_
      refine lv_lload_n hx hb dX4_cut_41 rfl (lv_at hl 1 rfl) ?_
      refine lv_l2i hx hb dX4_cut_42 rfl ?_
      refine lv_i2s hx hb dX4_cut_43 rfl ?_
      refine lv_i2l hx hb dX4_cut_44 rfl ?_
      exact g_lret X h dX4_cut_45 ⟨by rw [keptS, if_neg t1_0, if_pos t1_1], rfl⟩
    · skip
      by_cases t1_2 : x0 = 2
      · refine lv_tableIn (off := 45) (tgt := 46) hx hb dX4_cut_1 (by rw [t1_2]; decide) (by rw [t1_2]; decide) (by rw [t1_2]; rfl) (by decide) ?_
        refine lv_lload_n hx hb dX4_cut_46 rfl (lv_at hl 1 rfl) ?_
        refine lv_l2i hx hb dX4_cut_47 rfl ?_
        refine lv_i2l hx hb dX4_cut_48 rfl ?_
        exact g_lret X h dX4_cut_49 ⟨by rw [keptS, if_neg t1_0, if_neg t1_1, if_pos t1_2], rfl⟩
      · skip
        by_cases t1_3 : x0 = 3
        · refine lv_tableIn (off := 61) (tgt := 62) hx hb dX4_cut_1 (by rw [t1_3]; decide) (by rw [t1_3]; decide) (by rw [t1_3]; rfl) (by decide) ?_
          refine lv_lload_n hx hb dX4_cut_62 rfl (lv_at hl 1 rfl) ?_
          exact g_lret X h dX4_cut_63 ⟨by rw [keptS, if_neg t1_0, if_neg t1_1, if_neg t1_2, if_pos t1_3], rfl⟩
        · skip
          by_cases t1_4 : x0 = 4
          · refine lv_tableIn (off := 49) (tgt := 50) hx hb dX4_cut_1 (by rw [t1_4]; decide) (by rw [t1_4]; decide) (by rw [t1_4]; rfl) (by decide) ?_
            refine lv_lload_n hx hb dX4_cut_50 rfl (lv_at hl 1 rfl) ?_
            refine lv_lconst (v := 0) hx hb dX4_cut_51 (by decide) ?_
            refine W.lcmp hx hb dX4_cut_52 ?_
            refine lv_if_eq (tgt := 60) hx hb dX4_cut_53 (by decide) (fun c_53 => ?_) (fun c_53 => ?_)
            · skip
              refine lv_lconst (v := 0) hx hb dX4_cut_60 (by decide) ?_
              exact g_lret X h dX4_cut_61 ⟨by rw [keptS, if_neg t1_0, if_neg t1_1, if_neg t1_2, if_neg t1_3, if_pos (cmp_eq.mp c_53)], rfl⟩
            · skip
              refine lv_lconst (v := 1) hx hb dX4_cut_56 (by decide) ?_
              refine lv_goto (tgt := 61) hx hb dX4_cut_57 (by decide) ?_
              exact g_lret X h dX4_cut_61 ⟨by rw [keptS, if_neg t1_0, if_neg t1_1, if_neg t1_2, if_neg t1_3, if_neg (fun q => c_53 (cmp_eq.mpr q))], rfl⟩
          · skip
            have e0 := nI_eq0 (b := 0) hs rfl t1_0
            have e1 := nI_eq0 (b := 1) hs rfl t1_1
            have e2 := nI_eq0 (b := 2) hs rfl t1_2
            have e3 := nI_eq0 (b := 3) hs rfl t1_3
            have e4 := nI_eq0 (b := 4) hs rfl t1_4
            exact absurd hs4 (by omega)

set_option maxRecDepth 100000 in
set_option maxHeartbeats 1000000 in
theorem c_X4_valueAt (gl : Launch) (Z : PL) (v : VV) (w : WV) (x0 : Int32) (t : Nat) (ht : x0 = nI t) (x1 : Int32) (k : Nat) (hk : x1 = nI k) (hk60 : k < 60) (ht6 : t < 6) : CT gl yX4_valueAt cX4_valueAt 3 (some .long) 0 0 Z [.ref (zg Z 112), .int x0, .int x1] v w (Ql Z (fun r u => r = w 115 (60 * t + k) ∧ (v, w) = u)) := by
  refine g_met (by decide) (Nat.le_of_ble_eq_true rfl) ?_
  intro gp ge gs gm ga gb gh gc X h ls hl
  have hx := X.1
  have hb := X.2.1
  have hl : lv_has ls 3 [(0, .ref (zg Z 112)), (1, .int x0), (2, .int x1)] := hl
  refine lv_aload_n hx hb dX4_valueAt_0 rfl (lv_at hl 0 rfl) ?_
  refine g_getr X h (k := 2) (t := 115) (cc_112) fr_RX4_16 rfl (by decide) (by decide) (by decide) dX4_valueAt_1 ?_
  refine lv_iload_n hx hb dX4_valueAt_4 rfl (lv_at hl 1 rfl) ?_
  refine lv_bipush (v := 60) hx hb dX4_valueAt_5 (by decide) ?_
  refine lv_imul hx hb dX4_valueAt_7 ?_
  refine lv_iload_n hx hb dX4_valueAt_8 rfl (lv_at hl 2 rfl) ?_
  refine lv_iadd hx hb dX4_valueAt_9 ?_
  refine g_lald X h (k := (60 * t + k)) (cc_115) (by rw [ht, hk]; exact (congrArg (fun z => z + nI k) ((Int32.mul_comm _ _).trans (pk_mul 60 t))).trans (nI_add _ _)) (by omega) (by decide) dX4_valueAt_10 ?_
  exact g_lret X h dX4_valueAt_11 ⟨rfl, rfl⟩

set_option maxRecDepth 100000 in
set_option maxHeartbeats 1000000 in
theorem c_X4_put (gl : Launch) (Z : PL) (v : VV) (w : WV) (x0 : Int32) (t : Nat) (ht : x0 = nI t) (x1 : Int32) (k : Nat) (hk : x1 = nI k) (x2 : Int64) (s : Nat) (hs : v 113 t = nI s) (hs4 : s ≤ 4) (hk60 : k < 60) (ht6 : t < 6) : CT gl yX4_put cX4_put 5 none 1 22 Z [.ref (zg Z 112), .int x0, .int x1, .long x2] v w (Qv Z (fun u => (v, up2L w 115 (60 * t + k) (keptS (v 113 t) x2)) = u)) := by
  refine g_met (by decide) (Nat.le_of_ble_eq_true rfl) ?_
  intro gp ge gs gm ga gb gh gc X h ls hl
  have hx := X.1
  have hb := X.2.1
  have hl : lv_has ls 5 [(0, .ref (zg Z 112)), (1, .int x0), (2, .int x1), (3, .long x2)] := hl
  refine lv_aload_n hx hb dX4_put_0 rfl (lv_at hl 0 rfl) ?_
  refine g_getr X h (k := 2) (t := 115) (cc_112) fr_RX4_16 rfl (by decide) (by decide) (by decide) dX4_put_1 ?_
  refine lv_iload_n hx hb dX4_put_4 rfl (lv_at hl 1 rfl) ?_
  refine lv_bipush (v := 60) hx hb dX4_put_5 (by decide) ?_
  refine lv_imul hx hb dX4_put_7 ?_
  refine lv_iload_n hx hb dX4_put_8 rfl (lv_at hl 2 rfl) ?_
  refine lv_iadd hx hb dX4_put_9 ?_
  refine lv_aload_n hx hb dX4_put_10 rfl (lv_at hl 0 rfl) ?_
  refine g_getr X h (k := 0) (t := 113) (cc_112) fr_RX4_9 rfl (by decide) (by decide) (by decide) dX4_put_11 ?_
  refine lv_iload_n hx hb dX4_put_14 rfl (lv_at hl 1 rfl) ?_
  refine g_iald X h (k := t) (cc_113) ht (by omega) (by decide) dX4_put_15 ?_
  refine lv_lload_n hx hb dX4_put_16 rfl (lv_at hl 3 rfl) ?_
  refine g_kl h (g_runS X h (As := [.int (v 113 t), .long x2]) (rest := [.int ((x0 * 60) + x1), .ref (zg Z 115)]) (c_X4_cut gl Z v w (v 113 t) s hs x2 hs4) ms_X4_cut ml_RX4_26 ⟨Nat.le_of_ble_eq_true rfl, Nat.le_of_ble_eq_true rfl⟩ rfl hl.1 rfl (Nat.le_of_ble_eq_true rfl) dX4_put_17) (fun r17 v17 w17 H locs hp17 h => ?_)
  obtain ⟨hr17, hu17⟩ := hp17; obtain ⟨rfl, rfl⟩ := Prod.mk.inj hu17
  refine g_last X h (k := (60 * t + k)) (cc_115) (by rw [ht, hk]; exact (congrArg (fun z => z + nI k) ((Int32.mul_comm _ _).trans (pk_mul 60 t))).trans (nI_add _ _)) (by omega) (by decide) dX4_put_20 (fun w20 H locs ew20 h => ?_)
  exact g_vret X h dX4_put_21 (by rw [ew20, hr17])

set_option maxRecDepth 100000 in
set_option maxHeartbeats 1000000 in
theorem c_X4_move (gl : Launch) (Z : PL) (v : VV) (w : WV) (x0 : Int32) (t : Nat) (ht : x0 = nI t) (x1 : Int32) (i : Nat) (hi : x1 = nI i) (x2 : Int32) (o : Nat) (ho : x2 = nI o) (x3 : Int32) (j : Nat) (hj : x3 = nI j) (x4 : Int32) (n : Nat) (hn : x4 = nI n) (ho6 : o < 6) (hin : i + n ≤ 60) (hjn : j + n ≤ 60) (ht6 : t < 6) : CT gl yX4_move cX4_move 6 none 1 60 Z [.ref (zg Z 112), .int x0, .int x1, .int x2, .int x3, .int x4] v w (Qv Z (fun u => (v, upcL w 115 (va_cpy (w 115) (w 115) (60 * t + i) (60 * o + j) n)) = u)) := by
  refine g_met (by decide) (Nat.le_of_ble_eq_true rfl) ?_
  intro gp ge gs gm ga gb gh gc X h ls hl
  have hx := X.1
  have hb := X.2.1
  have hl : lv_has ls 6 [(0, .ref (zg Z 112)), (1, .int x0), (2, .int x1), (3, .int x2), (4, .int x3), (5, .int x4)] := hl
  refine lv_aload_n hx hb dX4_move_0 rfl (lv_at hl 0 rfl) ?_
  refine g_getr X h (k := 2) (t := 115) (cc_112) fr_RX4_16 rfl (by decide) (by decide) (by decide) dX4_move_1 ?_
  refine lv_iload_n hx hb dX4_move_4 rfl (lv_at hl 1 rfl) ?_
  refine lv_bipush (v := 60) hx hb dX4_move_5 (by decide) ?_
  refine lv_imul hx hb dX4_move_7 ?_
  refine lv_iload_n hx hb dX4_move_8 rfl (lv_at hl 2 rfl) ?_
  refine lv_iadd hx hb dX4_move_9 ?_
  refine lv_aload_n hx hb dX4_move_10 rfl (lv_at hl 0 rfl) ?_
  refine g_getr X h (k := 2) (t := 115) (cc_112) fr_RX4_16 rfl (by decide) (by decide) (by decide) dX4_move_11 ?_
  refine lv_iload_n hx hb dX4_move_14 rfl (lv_at hl 3 rfl) ?_
  refine lv_bipush (v := 60) hx hb dX4_move_15 (by decide) ?_
  refine lv_imul hx hb dX4_move_17 ?_
  refine lv_iload hx hb dX4_move_18 (lv_at hl 4 rfl) ?_
  refine lv_iadd hx hb dX4_move_20 ?_
  refine lv_iload hx hb dX4_move_21 (lv_at hl 5 rfl) ?_
  refine g_copyl X h hl.1 ml_RX4_30 (a := (60 * t + i)) (b := (60 * o + j)) (n := n) (cc_115) (cc_115) (by rw [ht, hi]; exact (congrArg (fun z => z + nI i) ((Int32.mul_comm _ _).trans (pk_mul 60 t))).trans (nI_add _ _)) (by rw [ho, hj]; exact (congrArg (fun z => z + nI j) ((Int32.mul_comm _ _).trans (pk_mul 60 o))).trans (nI_add _ _)) hn (by omega) (by omega) (by omega) (by omega) ⟨Nat.le_of_ble_eq_true rfl, Nat.le_of_ble_eq_true rfl⟩ (Nat.le_of_ble_eq_true rfl) dX4_move_23 (fun w23 H locs ew23 h => ?_)
  exact g_vret X h dX4_move_26 (by rw [ew23])

set_option maxRecDepth 100000 in
set_option maxHeartbeats 1000000 in
theorem c_X7_tape (gl : Launch) (Z : PL) (v : VV) (w : WV) (x0 : Int32) (x1 : Int32) (x2 : Int32) : CT gl yX7_tape cX7_tape 4 (some .int) 3 67 Z [.ref (zg Z 0), .int x0, .int x1, .int x2] v w (Qi Z (fun r u => r = sTape x0 x1 x2 ∧ (if okTape x0 x1 x2 then (up2 (up2 v 113 x0.toNatClampNeg x1) 114 x0.toNatClampNeg (if x1 < 0 then 0 else x2), if x1 < 0 then w else upcL w 115 (zrL (w 115) (60 * x0.toNatClampNeg) x2.toNatClampNeg)) else (v, w)) = u)) := by
  refine g_met (by decide) (Nat.le_of_ble_eq_true rfl) ?_
  intro gp ge gs gm ga gb gh gc X h ls hl
  have hx := X.1
  have hb := X.2.1
  have hl : lv_has ls 4 [(0, .ref (zg Z 0)), (1, .int x0), (2, .int x1), (3, .int x2)] := hl
  refine lv_aload_n hx hb dX7_tape_0 rfl (lv_at hl 0 rfl) ?_
  refine g_getr X h (k := 9) (t := 112) (cc_0) fr_RX7_54 rfl (by decide) (by decide) (by decide) dX7_tape_1 ?_
  refine lv_iload_n hx hb dX7_tape_4 rfl (lv_at hl 1 rfl) ?_
  refine g_ki h (g_runV X h (As := [.int x0]) (rest := []) (c_X4_isTape gl Z v w x0) mi_X4_isTape ml_RX7_219 (cc_112) (by decide) kl4 rfl ⟨Nat.le_of_ble_eq_true rfl, Nat.le_of_ble_eq_true rfl⟩ rfl hl.1 rfl (Nat.le_of_ble_eq_true rfl) dX7_tape_5) (fun r5 v5 w5 H locs hp5 h => ?_)
  obtain ⟨hr5, hu5⟩ := hp5; obtain ⟨rfl, rfl⟩ := Prod.mk.inj hu5
  refine lv_if_ne (tgt := 13) hx hb dX7_tape_8 (by decide) (fun c_8 => ?_) (fun c_8 => ?_)
  · skip
    rw [hr5, bI_n] at c_8
    obtain ⟨t, ht, htl, htn, htc⟩ := inR_nat (a := 0) (b := 5) rfl rfl (by decide) c_8
    refine lv_iload_n hx hb dX7_tape_13 rfl (lv_at hl 2 rfl) ?_
    refine lv_iconst (v := (-1)) hx hb dX7_tape_14 (by decide) ?_
    refine lv_icmp_ne (tgt := 28) hx hb dX7_tape_15 (by decide) (fun c_15 => ?_) (fun c_15 => ?_)
    · skip
      refine lv_iload_n hx hb dX7_tape_28 rfl (lv_at hl 2 rfl) ?_
      refine lv_iconst (v := 0) hx hb dX7_tape_29 (by decide) ?_
      refine lv_iconst (v := 4) hx hb dX7_tape_30 (by decide) ?_
      refine g_ki h (g_runS X h (As := [.int x1, .int 0, .int 4]) (rest := []) (c_X7_isWithin gl Z v w x1 0 4) ms_X7_isWithin ml_RX7_58 ⟨Nat.le_of_ble_eq_true rfl, Nat.le_of_ble_eq_true rfl⟩ rfl hl.1 rfl (Nat.le_of_ble_eq_true rfl) dX7_tape_31) (fun r31 v31 w31 H locs hp31 h => ?_)
      obtain ⟨hr31, hu31⟩ := hp31; obtain ⟨rfl, rfl⟩ := Prod.mk.inj hu31
      refine lv_if_eq (tgt := 43) hx hb dX7_tape_34 (by decide) (fun c_34 => ?_) (fun c_34 => ?_)
      · skip
        rw [hr31, bI_0] at c_34
        refine lv_bipush (v := (-2)) hx hb dX7_tape_43 (by decide) ?_
        exact g_iret X h dX7_tape_45 ⟨by rw [sTape, if_pos c_8, if_neg (by rw [(tape_n1 c_15 c_34).1]; simp)], by rw [if_neg (by rw [okTape, c_8, Bool.true_and, (tape_n1 c_15 c_34).2]; simp)]⟩
      · skip
        rw [hr31, bI_n] at c_34
        refine lv_iload_n hx hb dX7_tape_37 rfl (lv_at hl 3 rfl) ?_
        refine lv_bipush (v := 60) hx hb dX7_tape_38 (by decide) ?_
        refine lv_icmp_le (tgt := 46) hx hb dX7_tape_40 (by decide) (fun c_40 => ?_) (fun c_40 => ?_)
        · skip
          refine lv_iload_n hx hb dX7_tape_46 rfl (lv_at hl 3 rfl) ?_
          refine lv_if_ge (tgt := 53) hx hb dX7_tape_47 (by decide) (fun c_47 => ?_) (fun c_47 => ?_)
          · skip
            obtain ⟨nn, hnn, hnn60, hnnc⟩ := tape_nn c_40 c_47
            refine lv_aload_n hx hb dX7_tape_53 rfl (lv_at hl 0 rfl) ?_
            refine g_getr X h (k := 9) (t := 112) (cc_0) fr_RX7_54 rfl (by decide) (by decide) (by decide) dX7_tape_54 ?_
            refine lv_iload_n hx hb dX7_tape_57 rfl (lv_at hl 1 rfl) ?_
            refine lv_iload_n hx hb dX7_tape_58 rfl (lv_at hl 2 rfl) ?_
            refine lv_iload_n hx hb dX7_tape_59 rfl (lv_at hl 3 rfl) ?_
            refine g_kv h (g_runV X h (As := [.int x0, .int x1, .int x2]) (rest := []) (c_X4_lay gl Z v w x0 t ht x1 x2 nn hnn hnn60 (by omega)) mi_X4_lay ml_RX7_266 (cc_112) (by decide) kl4 rfl ⟨Nat.le_of_ble_eq_true rfl, Nat.le_of_ble_eq_true rfl⟩ rfl hl.1 rfl (Nat.le_of_ble_eq_true rfl) dX7_tape_60) (fun v60 w60 H locs hp60 h => ?_)
            obtain ⟨ev60, ew60⟩ := Prod.mk.inj hp60
            replace ev60 := ev60.symm
            replace ew60 := ew60.symm
            refine lv_iconst (v := 1) hx hb dX7_tape_63 (by decide) ?_
            exact g_iret X h dX7_tape_64 ⟨by rw [sTape, if_pos c_8, if_pos (tape_y c_34 c_40).1, if_neg (by rw [(tape_y c_34 c_40).2, decide_eq_false (Int32.not_lt.mpr c_47)]; simp)], by rw [if_pos (by rw [okTape, c_8]; exact tape_k c_34 c_40 c_47), htc, if_neg (tape_ng c_34), if_neg (tape_ng c_34), ev60, ew60, hnnc]⟩
          · skip
            refine lv_bipush (v := (-14)) hx hb dX7_tape_50 (by decide) ?_
            exact g_iret X h dX7_tape_52 ⟨by rw [sTape, if_pos c_8, if_pos (tape_y c_34 c_40).1, if_pos (by rw [(tape_y c_34 c_40).2, decide_eq_true (Int32.not_le.mp c_47)]; rfl)], by rw [if_neg (by rw [okTape, c_8]; simp [tape_z c_34 (Int32.not_le.mp c_47)])]⟩
        · skip
          refine lv_bipush (v := (-2)) hx hb dX7_tape_43 (by decide) ?_
          exact g_iret X h dX7_tape_45 ⟨by rw [sTape, if_pos c_8, if_neg (by rw [(tape_n2 c_34 c_40).1]; simp)], by rw [if_neg (by rw [okTape, c_8, Bool.true_and, (tape_n2 c_34 c_40).2]; simp)]⟩
    · skip
      refine lv_aload_n hx hb dX7_tape_18 rfl (lv_at hl 0 rfl) ?_
      refine g_getr X h (k := 9) (t := 112) (cc_0) fr_RX7_54 rfl (by decide) (by decide) (by decide) dX7_tape_19 ?_
      refine lv_iload_n hx hb dX7_tape_22 rfl (lv_at hl 1 rfl) ?_
      refine g_kv h (g_runV X h (As := [.int x0]) (rest := []) (c_X4_drop gl Z v w x0 t ht (by omega)) mi_X4_drop ml_RX7_263 (cc_112) (by decide) kl4 rfl ⟨Nat.le_of_ble_eq_true rfl, Nat.le_of_ble_eq_true rfl⟩ rfl hl.1 rfl (Nat.le_of_ble_eq_true rfl) dX7_tape_23) (fun v23 w23 H locs hp23 h => ?_)
      obtain ⟨ev23, rfl⟩ := Prod.mk.inj hp23
      replace ev23 := ev23.symm
      refine lv_iconst (v := 1) hx hb dX7_tape_26 (by decide) ?_
      exact g_iret X h dX7_tape_27 ⟨by rw [sTape, if_pos c_8, c_15]; rfl, by rw [if_pos (by rw [okTape, c_8, c_15]; rfl), htc, ev23, c_15, if_pos (by decide), if_pos (by decide)]⟩
  · skip
    rw [hr5, bI_0] at c_8
    refine lv_iconst (v := (-1)) hx hb dX7_tape_11 (by decide) ?_
    exact g_iret X h dX7_tape_12 ⟨by simp [sTape, c_8], by rw [if_neg (by simp [okTape, c_8])]⟩

set_option maxRecDepth 100000 in
set_option maxHeartbeats 1000000 in
theorem c_X7_item (gl : Launch) (Z : PL) (v : VV) (w : WV) (x0 : Int32) (x1 : Int32) (x2 : Int64) (hti : TIv (v 113) (v 114)) : CT gl yX7_item cX7_item 5 (some .int) 2 46 Z [.ref (zg Z 0), .int x0, .int x1, .long x2] v w (Qi Z (fun r u => r = sItem (v 113) (v 114) x0 x1 ∧ (v, if okItem (v 113) (v 114) x0 x1 then up2L w 115 (60 * x0.toNatClampNeg + x1.toNatClampNeg) (keptS (v 113 x0.toNatClampNeg) x2) else w) = u)) := by
  refine g_met (by decide) (Nat.le_of_ble_eq_true rfl) ?_
  intro gp ge gs gm ga gb gh gc X h ls hl
  have hx := X.1
  have hb := X.2.1
  have hl : lv_has ls 5 [(0, .ref (zg Z 0)), (1, .int x0), (2, .int x1), (3, .long x2)] := hl
  refine lv_aload_n hx hb dX7_item_0 rfl (lv_at hl 0 rfl) ?_
  refine g_getr X h (k := 9) (t := 112) (cc_0) fr_RX7_54 rfl (by decide) (by decide) (by decide) dX7_item_1 ?_
  refine lv_iload_n hx hb dX7_item_4 rfl (lv_at hl 1 rfl) ?_
  refine g_ki h (g_runV X h (As := [.int x0]) (rest := []) (c_X4_isTape gl Z v w x0) mi_X4_isTape ml_RX7_219 (cc_112) (by decide) kl4 rfl ⟨Nat.le_of_ble_eq_true rfl, Nat.le_of_ble_eq_true rfl⟩ rfl hl.1 rfl (Nat.le_of_ble_eq_true rfl) dX7_item_5) (fun r5 v5 w5 H locs hp5 h => ?_)
  obtain ⟨hr5, hu5⟩ := hp5; obtain ⟨rfl, rfl⟩ := Prod.mk.inj hu5
  refine lv_if_ne (tgt := 13) hx hb dX7_item_8 (by decide) (fun c_8 => ?_) (fun c_8 => ?_)
  · skip
    rw [hr5, bI_n] at c_8
    obtain ⟨t, ht, htl, htn, htc⟩ := inR_nat (a := 0) (b := 5) rfl rfl (by decide) c_8
    refine lv_aload_n hx hb dX7_item_13 rfl (lv_at hl 0 rfl) ?_
    refine g_getr X h (k := 9) (t := 112) (cc_0) fr_RX7_54 rfl (by decide) (by decide) (by decide) dX7_item_14 ?_
    refine lv_iload_n hx hb dX7_item_17 rfl (lv_at hl 1 rfl) ?_
    refine g_ki h (g_runV X h (As := [.int x0]) (rest := []) (c_X4_isEmpty gl Z v w x0 t ht (by omega)) mi_X4_isEmpty ml_RX7_222 (cc_112) (by decide) kl4 rfl ⟨Nat.le_of_ble_eq_true rfl, Nat.le_of_ble_eq_true rfl⟩ rfl hl.1 rfl (Nat.le_of_ble_eq_true rfl) dX7_item_18) (fun r18 v18 w18 H locs hp18 h => ?_)
    obtain ⟨hr18, hu18⟩ := hp18; obtain ⟨rfl, rfl⟩ := Prod.mk.inj hu18
    refine lv_if_eq (tgt := 27) hx hb dX7_item_21 (by decide) (fun c_21 => ?_) (fun c_21 => ?_)
    · skip
      rw [hr18, bI_0] at c_21
      refine lv_aload_n hx hb dX7_item_27 rfl (lv_at hl 0 rfl) ?_
      refine g_getr X h (k := 9) (t := 112) (cc_0) fr_RX7_54 rfl (by decide) (by decide) (by decide) dX7_item_28 ?_
      refine lv_iload_n hx hb dX7_item_31 rfl (lv_at hl 1 rfl) ?_
      refine lv_iload_n hx hb dX7_item_32 rfl (lv_at hl 2 rfl) ?_
      refine lv_i2l hx hb dX7_item_33 rfl ?_
      refine g_ki h (g_runV X h (As := [.int x0, .long (x1 : Int32).toInt64]) (rest := []) (c_X4_isPlace gl Z v w x0 t ht ((x1 : Int32).toInt64) (by omega)) mi_X4_isPlace ml_RX7_228 (cc_112) (by decide) kl4 rfl ⟨Nat.le_of_ble_eq_true rfl, Nat.le_of_ble_eq_true rfl⟩ rfl hl.1 rfl (Nat.le_of_ble_eq_true rfl) dX7_item_34) (fun r34 v34 w34 H locs hp34 h => ?_)
      obtain ⟨hr34, hu34⟩ := hp34; obtain ⟨rfl, rfl⟩ := Prod.mk.inj hu34
      rw [pl_isP] at hr34
      refine lv_if_ne (tgt := 43) hx hb dX7_item_37 (by decide) (fun c_37 => ?_) (fun c_37 => ?_)
      · skip
        rw [hr34, bI_n] at c_37
        obtain ⟨hne, z, k, hz60, hz, hk, hkz, hkc⟩ := TIv_place hti (show t < 6 by omega) c_37
        obtain ⟨s, -, hs4, -, hs, -⟩ := TIv_sort hti (show t < 6 by omega) hne
        refine lv_aload_n hx hb dX7_item_43 rfl (lv_at hl 0 rfl) ?_
        refine g_getr X h (k := 9) (t := 112) (cc_0) fr_RX7_54 rfl (by decide) (by decide) (by decide) dX7_item_44 ?_
        refine lv_iload_n hx hb dX7_item_47 rfl (lv_at hl 1 rfl) ?_
        refine lv_iload_n hx hb dX7_item_48 rfl (lv_at hl 2 rfl) ?_
        refine lv_lload_n hx hb dX7_item_49 rfl (lv_at hl 3 rfl) ?_
        refine g_kv h (g_runV X h (As := [.int x0, .int x1, .long x2]) (rest := []) (c_X4_put gl Z v w x0 t ht x1 k hk x2 s hs hs4 (by omega) (by omega)) mi_X4_put ml_RX7_270 (cc_112) (by decide) kl4 rfl ⟨Nat.le_of_ble_eq_true rfl, Nat.le_of_ble_eq_true rfl⟩ rfl hl.1 rfl (Nat.le_of_ble_eq_true rfl) dX7_item_50) (fun v50 w50 H locs hp50 h => ?_)
        obtain ⟨ev50, ew50⟩ := Prod.mk.inj hp50
        replace ev50 := ev50.symm
        replace ew50 := ew50.symm
        refine lv_iconst (v := 1) hx hb dX7_item_53 (by decide) ?_
        exact g_iret X h dX7_item_54 ⟨by rw [sItem, if_pos c_8, htc, if_neg (show ¬ v 113 t < 0 from fun q => of_decide_eq_false c_21 ((TIv_emp hti (by omega)).mp q)), if_pos c_37], by rw [if_pos (by rw [okItem, c_8, htc, c_37, decide_eq_true (show ¬ v 113 t < 0 from fun q => of_decide_eq_false c_21 ((TIv_emp hti (by omega)).mp q))]; rfl), htc, hkc, ev50, ew50]⟩
      · skip
        rw [hr34, bI_0] at c_37
        refine lv_bipush (v := (-13)) hx hb dX7_item_40 (by decide) ?_
        exact g_iret X h dX7_item_42 ⟨by rw [sItem, if_pos c_8, htc, if_neg (show ¬ v 113 t < 0 from fun q => of_decide_eq_false c_21 ((TIv_emp hti (by omega)).mp q)), if_neg (by rw [c_37]; simp)], by rw [if_neg (by simp [okItem, htc, c_37])]⟩
    · skip
      rw [hr18, bI_n] at c_21
      refine lv_bipush (v := (-11)) hx hb dX7_item_24 (by decide) ?_
      exact g_iret X h dX7_item_26 ⟨by rw [sItem, if_pos c_8, htc, if_pos ((TIv_emp hti (by omega)).mpr (of_decide_eq_true c_21))], by rw [if_neg (by simp [okItem, htc, (TIv_emp hti (show t < 6 by omega)).mpr (of_decide_eq_true c_21)])]⟩
  · skip
    rw [hr5, bI_0] at c_8
    refine lv_iconst (v := (-1)) hx hb dX7_item_11 (by decide) ?_
    exact g_iret X h dX7_item_12 ⟨by simp [sItem, c_8], by rw [if_neg (by simp [okItem, c_8])]⟩

set_option maxRecDepth 100000 in
set_option maxHeartbeats 1000000 in
theorem c_X7_read (gl : Launch) (Z : PL) (v : VV) (w : WV) (x0 : Int32) (x1 : Int32) (hti : TIv (v 113) (v 114)) : CT gl yX7_read cX7_read 3 (some .long) 1 23 Z [.ref (zg Z 0), .int x0, .int x1] v w (Ql Z (fun r u => r = sRead (v 113) (v 114) (w 115) x0 x1 ∧ (v, w) = u)) := by
  refine g_met (by decide) (Nat.le_of_ble_eq_true rfl) ?_
  intro gp ge gs gm ga gb gh gc X h ls hl
  have hx := X.1
  have hb := X.2.1
  have hl : lv_has ls 3 [(0, .ref (zg Z 0)), (1, .int x0), (2, .int x1)] := hl
  refine lv_aload_n hx hb dX7_read_0 rfl (lv_at hl 0 rfl) ?_
  refine g_getr X h (k := 9) (t := 112) (cc_0) fr_RX7_54 rfl (by decide) (by decide) (by decide) dX7_read_1 ?_
  refine lv_iload_n hx hb dX7_read_4 rfl (lv_at hl 1 rfl) ?_
  refine g_ki h (g_runV X h (As := [.int x0]) (rest := []) (c_X4_isTape gl Z v w x0) mi_X4_isTape ml_RX7_219 (cc_112) (by decide) kl4 rfl ⟨Nat.le_of_ble_eq_true rfl, Nat.le_of_ble_eq_true rfl⟩ rfl hl.1 rfl (Nat.le_of_ble_eq_true rfl) dX7_read_5) (fun r5 v5 w5 H locs hp5 h => ?_)
  obtain ⟨hr5, hu5⟩ := hp5; obtain ⟨rfl, rfl⟩ := Prod.mk.inj hu5
  refine lv_if_eq (tgt := 36) hx hb dX7_read_8 (by decide) (fun c_8 => ?_) (fun c_8 => ?_)
  · skip
    rw [hr5, bI_0] at c_8
    refine lv_ldc2 hx hb X.ow (X.ts _ cl_RX7_196) dX7_read_36 ?_
    exact g_lret X h dX7_read_39 ⟨by rw [sRead, if_neg (by simp [okRead, c_8])]; rfl, rfl⟩
  · skip
    rw [hr5, bI_n] at c_8
    obtain ⟨t, ht, htl, htn, htc⟩ := inR_nat (a := 0) (b := 5) rfl rfl (by decide) c_8
    refine lv_aload_n hx hb dX7_read_11 rfl (lv_at hl 0 rfl) ?_
    refine g_getr X h (k := 9) (t := 112) (cc_0) fr_RX7_54 rfl (by decide) (by decide) (by decide) dX7_read_12 ?_
    refine lv_iload_n hx hb dX7_read_15 rfl (lv_at hl 1 rfl) ?_
    refine lv_iload_n hx hb dX7_read_16 rfl (lv_at hl 2 rfl) ?_
    refine lv_i2l hx hb dX7_read_17 rfl ?_
    refine g_ki h (g_runV X h (As := [.int x0, .long (x1 : Int32).toInt64]) (rest := []) (c_X4_isPlace gl Z v w x0 t ht ((x1 : Int32).toInt64) (by omega)) mi_X4_isPlace ml_RX7_228 (cc_112) (by decide) kl4 rfl ⟨Nat.le_of_ble_eq_true rfl, Nat.le_of_ble_eq_true rfl⟩ rfl hl.1 rfl (Nat.le_of_ble_eq_true rfl) dX7_read_18) (fun r18 v18 w18 H locs hp18 h => ?_)
    obtain ⟨hr18, hu18⟩ := hp18; obtain ⟨rfl, rfl⟩ := Prod.mk.inj hu18
    rw [pl_isP] at hr18
    refine lv_if_eq (tgt := 36) hx hb dX7_read_21 (by decide) (fun c_21 => ?_) (fun c_21 => ?_)
    · skip
      rw [hr18, bI_0] at c_21
      refine lv_ldc2 hx hb X.ow (X.ts _ cl_RX7_196) dX7_read_36 ?_
      exact g_lret X h dX7_read_39 ⟨by rw [sRead, if_neg (by simp [okRead, htc, c_21])]; rfl, rfl⟩
    · skip
      rw [hr18, bI_n] at c_21
      obtain ⟨hne, z, k, hz60, hz, hk, hkz, hkc⟩ := TIv_place hti (show t < 6 by omega) c_21
      obtain ⟨s, -, hs4, -, hs, -⟩ := TIv_sort hti (show t < 6 by omega) hne
      refine lv_aload_n hx hb dX7_read_24 rfl (lv_at hl 0 rfl) ?_
      refine g_getr X h (k := 9) (t := 112) (cc_0) fr_RX7_54 rfl (by decide) (by decide) (by decide) dX7_read_25 ?_
      refine lv_iload_n hx hb dX7_read_28 rfl (lv_at hl 1 rfl) ?_
      refine lv_iload_n hx hb dX7_read_29 rfl (lv_at hl 2 rfl) ?_
      refine g_kl h (g_runV X h (As := [.int x0, .int x1]) (rest := []) (c_X4_valueAt gl Z v w x0 t ht x1 k hk (by omega) (by omega)) mi_X4_valueAt ml_RX7_232 (cc_112) (by decide) kl4 rfl ⟨Nat.le_of_ble_eq_true rfl, Nat.le_of_ble_eq_true rfl⟩ rfl hl.1 rfl (Nat.le_of_ble_eq_true rfl) dX7_read_30) (fun r30 v30 w30 H locs hp30 h => ?_)
      obtain ⟨hr30, hu30⟩ := hp30; obtain ⟨rfl, rfl⟩ := Prod.mk.inj hu30
      refine lv_goto (tgt := 39) hx hb dX7_read_33 (by decide) ?_
      exact g_lret X h dX7_read_39 ⟨by rw [sRead, if_pos (by rw [okRead, c_8, htc, c_21, decide_eq_true (show ¬ v 113 t < 0 from fun q => hne ((TIv_emp hti (by omega)).mp q))]; rfl), htc, hkc]; exact hr30, rfl⟩
