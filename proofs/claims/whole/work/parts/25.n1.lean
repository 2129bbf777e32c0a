/-! the class: leaves -/
set_option maxRecDepth 100000 in
set_option maxHeartbeats 1000000 in
theorem c_X7_isWithin (gl : Launch) (Z : PL) (v : VV) (w : WV) (x0 : Int32) (x1 : Int32) (x2 : Int32) : CT gl yX7_isWithin cX7_isWithin 3 (some .boolean) 0 0 Z [.int x0, .int x1, .int x2] v w (Qi Z (fun r u => r = bI (inR x0 x1 x2) ∧ (v, w) = u)) := by
  refine g_met (by decide) (Nat.le_of_ble_eq_true rfl) ?_
  intro gp ge gs gm ga gb gh gc X h ls hl
  have hx := X.1
  have hb := X.2.1
  have hl : lv_has ls 3 [(0, .int x0), (1, .int x1), (2, .int x2)] := hl
  refine lv_iload_n hx hb dX7_isWithin_0 rfl (lv_at hl 0 rfl) ?_
  refine lv_iload_n hx hb dX7_isWithin_1 rfl (lv_at hl 1 rfl) ?_
  refine lv_icmp_lt (tgt := 14) hx hb dX7_isWithin_2 (by decide) (fun c_2 => ?_) (fun c_2 => ?_)
  · skip
    refine lv_iconst (v := 0) hx hb dX7_isWithin_14 (by decide) ?_
    exact g_nret X h dX7_isWithin_15 rfl (by simp only [i_lt, i_le] at c_2; refine ⟨?_, rfl⟩; simp only [bI, inR, isP, Bool.and_eq_true, decide_eq_true_eq, i_le, i_lt]; split <;> first | rfl | omega)
  · skip
    refine lv_iload_n hx hb dX7_isWithin_5 rfl (lv_at hl 0 rfl) ?_
    refine lv_iload_n hx hb dX7_isWithin_6 rfl (lv_at hl 2 rfl) ?_
    refine lv_icmp_gt (tgt := 14) hx hb dX7_isWithin_7 (by decide) (fun c_7 => ?_) (fun c_7 => ?_)
    · skip
      refine lv_iconst (v := 0) hx hb dX7_isWithin_14 (by decide) ?_
      exact g_nret X h dX7_isWithin_15 rfl (by simp only [i_lt, i_le] at c_2 c_7; refine ⟨?_, rfl⟩; simp only [bI, inR, isP, Bool.and_eq_true, decide_eq_true_eq, i_le, i_lt]; split <;> first | rfl | omega)
    · skip
      refine lv_iconst (v := 1) hx hb dX7_isWithin_10 (by decide) ?_
      refine lv_goto (tgt := 15) hx hb dX7_isWithin_11 (by decide) ?_
      exact g_nret X h dX7_isWithin_15 rfl (by simp only [i_lt, i_le] at c_2 c_7; refine ⟨?_, rfl⟩; simp only [bI, inR, isP, Bool.and_eq_true, decide_eq_true_eq, i_le, i_lt]; split <;> first | rfl | omega)

set_option maxRecDepth 100000 in
set_option maxHeartbeats 1000000 in
theorem c_X2_isFull (gl : Launch) (Z : PL) (v : VV) (w : WV) (b : Nat) (cap : Nat) (hQ : isQ b cap) (q : Nat) (hq : v b 2 = nI q) (hqc : q ≤ cap) (hc9 : cap ≤ 20) : CT gl yX2_isFull cX2_isFull 1 (some .boolean) 0 0 Z [.ref (zg Z b)] v w (Qi Z (fun r u => r = bI (decide (cap ≤ q)) ∧ (v, w) = u)) := by
  refine g_met (by decide) (Nat.le_of_ble_eq_true rfl) ?_
  intro gp ge gs gm ga gb gh gc X h ls hl
  have hx := X.1
  have hb := X.2.1
  have hl : lv_has ls 1 [(0, .ref (zg Z b))] := hl
  refine lv_aload_n hx hb dX2_isFull_0 rfl (lv_at hl 0 rfl) ?_
  refine g_geti X h (k := 2) (cQ_0 hQ) fr_RX2_24 rfl (by decide) dX2_isFull_1 ?_
  refine lv_aload_n hx hb dX2_isFull_4 rfl (lv_at hl 0 rfl) ?_
  refine g_getr X h (k := 0) (t := (b + 1)) (cQ_0 hQ) fr_RX2_15 rfl (by decide) (by decide) (by decide) dX2_isFull_5 ?_
  refine g_alen X h (cQ_1 hQ) (by decide) (by decide) dX2_isFull_8 ?_
  refine lv_icmp_lt (tgt := 16) hx hb dX2_isFull_9 (by decide) (fun c_9 => ?_) (fun c_9 => ?_)
  · skip
    have hlt := nI_lt1 (a := q) (b := cap) hq rfl (by omega) (by omega) c_9
    refine lv_iconst (v := 0) hx hb dX2_isFull_16 (by decide) ?_
    exact g_nret X h dX2_isFull_17 rfl ⟨by rw [decide_eq_false (by omega)]; rfl, rfl⟩
  · skip
    have hlt := nI_lt0 (a := q) (b := cap) hq rfl (by omega) (by omega) c_9
    refine lv_iconst (v := 1) hx hb dX2_isFull_12 (by decide) ?_
    refine lv_goto (tgt := 17) hx hb dX2_isFull_13 (by decide) ?_
    exact g_nret X h dX2_isFull_17 rfl ⟨by rw [decide_eq_true (by omega)]; rfl, rfl⟩

set_option maxRecDepth 100000 in
set_option maxHeartbeats 1000000 in
theorem c_X2_empty (gl : Launch) (Z : PL) (v : VV) (w : WV) (b : Nat) (cap : Nat) (hQ : isQ b cap) : CT gl yX2_empty cX2_empty 1 none 0 0 Z [.ref (zg Z b)] v w (Qv Z (fun u => (up2 v b 2 0, w) = u)) := by
  refine g_met (by decide) (Nat.le_of_ble_eq_true rfl) ?_
  intro gp ge gs gm ga gb gh gc X h ls hl
  have hx := X.1
  have hb := X.2.1
  have hl : lv_has ls 1 [(0, .ref (zg Z b))] := hl
  refine lv_aload_n hx hb dX2_empty_0 rfl (lv_at hl 0 rfl) ?_
  refine lv_iconst (v := 0) hx hb dX2_empty_1 (by decide) ?_
  refine g_puti X h (k := 2) (cQ_0 hQ) fp_RX2_24 rfl (by decide) dX2_empty_2 (fun v2 H locs ev2 h => ?_)
  exact g_vret X h dX2_empty_5 (by rw [ev2])

set_option maxRecDepth 100000 in
set_option maxHeartbeats 1000000 in
theorem c_X2_put (gl : Launch) (Z : PL) (v : VV) (w : WV) (x0 : Int32) (x1 : Int32) (b : Nat) (cap : Nat) (hQ : isQ b cap) (q : Nat) (hq : v b 2 = nI q) (hqc : q ≤ cap) (hc9 : cap ≤ 20) : CT gl yX2_put cX2_put 3 (some .int) 1 20 Z [.ref (zg Z b), .int x0, .int x1] v w (Qi Z (fun r u => r = (if cap ≤ q then -4 else nI (q + 1)) ∧ (if cap ≤ q then v else up2 (up2 (up2 v (b + 1) q x0) (b + 2) q x1) b 2 (nI (q + 1)), w) = u)) := by
  refine g_met (by decide) (Nat.le_of_ble_eq_true rfl) ?_
  intro gp ge gs gm ga gb gh gc X h ls hl
  have hx := X.1
  have hb := X.2.1
  have hl : lv_has ls 3 [(0, .ref (zg Z b)), (1, .int x0), (2, .int x1)] := hl
  refine lv_aload_n hx hb dX2_put_0 rfl (lv_at hl 0 rfl) ?_
  refine g_ki h (g_runV X h (As := []) (rest := []) (c_X2_isFull gl Z v w b cap hQ q hq hqc (by omega)) mi_X2_isFull ml_RX2_28 (cQ_0 hQ) (by decide) kl2 rfl ⟨Nat.le_of_ble_eq_true rfl, Nat.le_of_ble_eq_true rfl⟩ rfl hl.1 rfl (Nat.le_of_ble_eq_true rfl) dX2_put_1) (fun r1 v1 w1 H locs hp1 h => ?_)
  obtain ⟨hr1, hu1⟩ := hp1; obtain ⟨rfl, rfl⟩ := Prod.mk.inj hu1
  refine lv_if_eq (tgt := 10) hx hb dX2_put_4 (by decide) (fun c_4 => ?_) (fun c_4 => ?_)
  · skip
    rw [hr1, bI_0] at c_4
    have hlt : ¬ cap ≤ q := of_decide_eq_false c_4
    refine lv_aload_n hx hb dX2_put_10 rfl (lv_at hl 0 rfl) ?_
    refine g_getr X h (k := 0) (t := (b + 1)) (cQ_0 hQ) fr_RX2_15 rfl (by decide) (by decide) (by decide) dX2_put_11 ?_
    refine lv_aload_n hx hb dX2_put_14 rfl (lv_at hl 0 rfl) ?_
    refine g_geti X h (k := 2) (cQ_0 hQ) fr_RX2_24 rfl (by decide) dX2_put_15 ?_
    refine lv_iload_n hx hb dX2_put_18 rfl (lv_at hl 1 rfl) ?_
    refine g_iast X h (k := q) (cQ_1 hQ) hq (by omega) (by omega) dX2_put_19 (fun v19 H locs ev19 h => ?_)
    refine lv_aload_n hx hb dX2_put_20 rfl (lv_at hl 0 rfl) ?_
    refine g_getr X h (k := 1) (t := (b + 2)) (cQ_0 hQ) fr_RX2_21 rfl (by decide) (by decide) (by decide) dX2_put_21 ?_
    refine lv_aload_n hx hb dX2_put_24 rfl (lv_at hl 0 rfl) ?_
    refine g_geti X h (k := 2) (cQ_0 hQ) fr_RX2_24 rfl (by decide) dX2_put_25 ?_
    refine g_tr (y := (v b 2)) (by simp [ev19, up2, upc]) ?_
    refine lv_iload_n hx hb dX2_put_28 rfl (lv_at hl 2 rfl) ?_
    refine g_iast X h (k := q) (cQ_2 hQ) hq (by omega) (by omega) dX2_put_29 (fun v29 H locs ev29 h => ?_)
    refine lv_aload_n hx hb dX2_put_30 rfl (lv_at hl 0 rfl) ?_
    refine lv_dup hx hb dX2_put_31 rfl ?_
    refine g_geti X h (k := 2) (cQ_0 hQ) fr_RX2_24 rfl (by decide) dX2_put_32 ?_
    refine g_tr (y := (v b 2)) (by simp [ev29, ev19, up2, upc]) ?_
    refine lv_iconst (v := 1) hx hb dX2_put_35 (by decide) ?_
    refine lv_iadd hx hb dX2_put_36 ?_
    refine g_puti X h (k := 2) (cQ_0 hQ) fp_RX2_24 rfl (by decide) dX2_put_37 (fun v37 H locs ev37 h => ?_)
    refine lv_aload_n hx hb dX2_put_40 rfl (lv_at hl 0 rfl) ?_
    refine g_geti X h (k := 2) (cQ_0 hQ) fr_RX2_24 rfl (by decide) dX2_put_41 ?_
    refine g_tr (y := ((v b 2) + 1)) (by simp [ev37, up2, upc]) ?_
    exact g_iret X h dX2_put_44 ⟨by rw [if_neg hlt, hq, nI_1], by rw [if_neg hlt, ev37, ev29, ev19, hq, nI_1]⟩
  · skip
    rw [hr1, bI_n] at c_4
    have hlt : cap ≤ q := of_decide_eq_true c_4
    refine lv_bipush (v := (-4)) hx hb dX2_put_7 (by decide) ?_
    exact g_iret X h dX2_put_9 ⟨by rw [if_pos hlt], by rw [if_pos hlt]⟩
