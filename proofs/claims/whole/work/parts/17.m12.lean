/-! the reader of a land -/
def isAt (t : Nat → Int32) (z a : Nat) (x : Int32) : Bool := decide (a < z) && decide (t a = x)
def dig (t : Nat → Int32) (z a : Nat) : Bool := decide (a < z) && inR (t a) 48 57
def dg (t : Nat → Int32) (a : Nat) : Nat := (t a - 48).toNatClampNeg
def nmC (t : Nat → Int32) (z a : Nat) : Nat := if dig t z a then (if dig t z (a + 1) then 2 else 1) else 0
def nmV (t : Nat → Int32) (a : Nat) : Nat → Nat
  | 0 => 0
  | k + 1 => 10 * nmV t a k + dg t (a + k)
theorem isAt_f1 {t : Nat → Int32} {z a : Nat} {x : Int32} (h : a = z) : isAt t z a x = false := by simp [isAt, h]
theorem isAt_f2 {t : Nat → Int32} {z a : Nat} {x : Int32} (h : ¬ t a = x) : isAt t z a x = false := by simp [isAt, h]
theorem isAt_t {t : Nat → Int32} {z a : Nat} {x : Int32} (h : a < z) (h2 : t a = x) : isAt t z a x = true := by simp [isAt, h, h2]
theorem isAt_lt {t : Nat → Int32} {z a : Nat} {x : Int32} (h : isAt t z a x = true) : a < z := by simp [isAt] at h; exact h.1
theorem dig_lt {t : Nat → Int32} {z a : Nat} (h : dig t z a = true) : a < z := by simp [dig] at h; exact h.1
theorem dig_v {t : Nat → Int32} {z a : Nat} (h : dig t z a = true) : t a = nI (48 + dg t a) ∧ dg t a ≤ 9 := by
  have h2 : inR (t a) 48 57 = true := by simp [dig] at h; exact h.2
  obtain ⟨h3, h4⟩ := inR_t.mp h2
  rw [i_le] at h3 h4
  have e48 : (48 : Int32).toInt = 48 := rfl
  have e57 : (57 : Int32).toInt = 57 := rfl
  obtain ⟨k, e, hk, -⟩ := i_nat (x := t a) (by omega)
  obtain ⟨d, rfl⟩ : ∃ d, k = 48 + d := ⟨k - 48, by omega⟩
  have e2 : dg t a = d := by
    unfold dg
    rw [e, show (48 : Int32) = nI 48 from rfl, pk_sub (by omega), nI_clamp (by omega)]
    omega
  rw [e2]
  exact ⟨e, by omega⟩
theorem rd_e {t : Nat → Int32} {z a k : Nat} (h2 : k ≤ 2) (h : ∀ j, j < k → dig t z (a + j) = true) (he : k = 2 ∨ dig t z (a + k) = false) : nmC t z a = k := by
  unfold nmC
  rcases (show k = 0 ∨ k = 1 ∨ k = 2 by omega) with rfl | rfl | rfl
  · rcases he with he | he
    · omega
    · rw [show dig t z a = false from he]; rfl
  · rcases he with he | he
    · omega
    · rw [show dig t z a = true from h 0 (by omega), he]; rfl
  · rw [show dig t z a = true from h 0 (by omega), h 1 (by omega)]; rfl
theorem nmV_le {t : Nat → Int32} {z a k : Nat} (h2 : k ≤ 2) (h : ∀ j, j < k → dig t z (a + j) = true) : nmV t a k ≤ 99 := by
  rcases (show k = 0 ∨ k = 1 ∨ k = 2 by omega) with rfl | rfl | rfl
  · exact Nat.zero_le _
  · have := (dig_v (h 0 (by omega))).2
    show 10 * 0 + dg t (a + 0) ≤ 99
    omega
  · have h0 := (dig_v (h 0 (by omega))).2
    have h1 := (dig_v (h 1 (by omega))).2
    show 10 * (10 * 0 + dg t (a + 0)) + dg t (a + 1) ≤ 99
    omega
theorem rd_s {t : Nat → Int32} {z a k : Nat} (h : dig t z (a + k) = true) (hv : nmV t a k ≤ 99) : nI (10 * nmV t a k) + t (a + k) - 48 = nI (nmV t a (k + 1)) := by
  obtain ⟨e, h9⟩ := dig_v h
  rw [e, nI_add, show (48 : Int32) = nI 48 from rfl, pk_sub (by omega), show 10 * nmV t a k + (48 + dg t (a + k)) - 48 = nmV t a (k + 1) by show _ = 10 * nmV t a k + dg t (a + k); omega]
def numU (v : VV) (t : Nat → Int32) (a k : Nat) : VV := up2 (up2 (up2 v 116 25 (nI (nmV t a k))) 116 26 (nI k)) 116 23 (nI (a + k))
theorem numU_0 {v : VV} {t : Nat → Int32} {a : Nat} (h : v 116 23 = nI a) : up2 (up2 v 116 25 0) 116 26 0 = numU v t a 0 := by
  funext i k
  show _ = if i = 116 ∧ k = 23 then nI (a + 0) else up2 (up2 v 116 25 0) 116 26 0 i k
  split
  · rename_i q; rw [q.1, q.2]; simp [up2, h]
  · rfl
theorem numU_s {v : VV} {t : Nat → Int32} {a k : Nat} {x : Int32} (h : x = nI (nmV t a (k + 1))) : up2 (up2 (up2 (numU v t a k) 116 25 x) 116 23 (nI (a + k + 1))) 116 26 (nI (k + 1)) = numU v t a (k + 1) := by
  subst h
  funext i j
  simp only [numU, up2, Nat.add_assoc]
  grind
theorem numU_23 {v : VV} {t : Nat → Int32} {a k : Nat} : numU v t a k 116 23 = nI (a + k) := by simp [numU, up2]
theorem numU_25 {v : VV} {t : Nat → Int32} {a k : Nat} : numU v t a k 116 25 = nI (nmV t a k) := by simp [numU, up2]
theorem numU_26 {v : VV} {t : Nat → Int32} {a k : Nat} : numU v t a k 116 26 = nI k := by simp [numU, up2]
theorem numU_i {v : VV} {t : Nat → Int32} {a k i : Nat} (h : i ≠ 116) : numU v t a k i = v i := by
  unfold numU
  rw [up2_ne h, up2_ne h, up2_ne h]
theorem numU_k {v : VV} {t : Nat → Int32} {a k j : Nat} (h : j ≠ 23 ∧ j ≠ 25 ∧ j ≠ 26) : numU v t a k 116 j = v 116 j := by simp [numU, up2, h.1, h.2.1, h.2.2]
set_option maxRecDepth 100000 in
set_option maxHeartbeats 1000000 in
theorem c_X8_is (gl : Launch) (Z : PL) (v : VV) (w : WV) (x0 : Int32) (a : Nat) (z : Nat) (ha : v 116 23 = nI a) (hz : v 116 12 = nI z) (haz : a ≤ z) (hz1 : z ≤ 100) : CT gl yX8_is cX8_is 2 (some .boolean) 0 0 Z [.ref (zg Z 116), .int x0] v w (Qi Z (fun r u => r = bI (isAt (v 124) z a x0) ∧ (if isAt (v 124) z a x0 then up2 v 116 23 (nI (a + 1)) else v, w) = u)) := by
  refine g_met (by decide) (Nat.le_of_ble_eq_true rfl) ?_
  intro gp ge gs gm ga gb gh gc X h ls hl
  have hx := X.1
  have hb := X.2.1
  have hl : lv_has ls 2 [(0, .ref (zg Z 116)), (1, .int x0)] := hl
  refine lv_aload_n hx hb dX8_is_0 rfl (lv_at hl 0 rfl) ?_
  refine g_geti X h (k := 23) (cc_116) fr_RX8_145 rfl (by decide) dX8_is_1 ?_
  refine lv_aload_n hx hb dX8_is_4 rfl (lv_at hl 0 rfl) ?_
  refine g_geti X h (k := 12) (cc_116) fr_RX8_142 rfl (by decide) dX8_is_5 ?_
  refine lv_icmp_eq (tgt := 24) hx hb dX8_is_8 (by decide) (fun c_8 => ?_) (fun c_8 => ?_)
  · skip
    have hq := nI_eq1 (a := a) (b := z) ha hz (by omega) (by omega) c_8
    refine lv_iconst (v := 0) hx hb dX8_is_24 (by decide) ?_
    exact g_nret X h dX8_is_25 rfl (by rw [isAt_f1 hq]; exact ⟨rfl, rfl⟩)
  · skip
    have hq := nI_eq0 (a := a) (b := z) ha hz c_8
    refine lv_aload_n hx hb dX8_is_11 rfl (lv_at hl 0 rfl) ?_
    refine g_getr X h (k := 13) (t := 124) (cc_116) fr_RX8_33 rfl (by decide) (by decide) (by decide) dX8_is_12 ?_
    refine lv_aload_n hx hb dX8_is_15 rfl (lv_at hl 0 rfl) ?_
    refine g_geti X h (k := 23) (cc_116) fr_RX8_145 rfl (by decide) dX8_is_16 ?_
    refine g_iald X h (k := a) (cc_124) ha (by omega) (by decide) dX8_is_19 ?_
    refine lv_iload_n hx hb dX8_is_20 rfl (lv_at hl 1 rfl) ?_
    refine lv_icmp_eq (tgt := 26) hx hb dX8_is_21 (by decide) (fun c_21 => ?_) (fun c_21 => ?_)
    · skip
      refine lv_aload_n hx hb dX8_is_26 rfl (lv_at hl 0 rfl) ?_
      refine lv_dup hx hb dX8_is_27 rfl ?_
      refine g_geti X h (k := 23) (cc_116) fr_RX8_145 rfl (by decide) dX8_is_28 ?_
      refine lv_iconst (v := 1) hx hb dX8_is_31 (by decide) ?_
      refine lv_iadd hx hb dX8_is_32 ?_
      refine g_puti X h (k := 23) (cc_116) fp_RX8_145 rfl (by decide) dX8_is_33 (fun v33 H locs ev33 h => ?_)
      refine lv_iconst (v := 1) hx hb dX8_is_36 (by decide) ?_
      exact g_nret X h dX8_is_37 rfl (by rw [isAt_t (by omega) c_21]; exact ⟨rfl, by rw [if_pos rfl, ev33, ha, nI_1]⟩)
    · skip
      refine lv_iconst (v := 0) hx hb dX8_is_24 (by decide) ?_
      exact g_nret X h dX8_is_25 rfl (by rw [isAt_f2 c_21]; exact ⟨rfl, rfl⟩)

set_option maxRecDepth 100000 in
set_option maxHeartbeats 1000000 in
theorem c_X8_isDigit (gl : Launch) (Z : PL) (v : VV) (w : WV) (a : Nat) (z : Nat) (ha : v 116 23 = nI a) (hz : v 116 12 = nI z) (haz : a ≤ z) (hz1 : z ≤ 100) : CT gl yX8_isDigit cX8_isDigit 1 (some .boolean) 0 0 Z [.ref (zg Z 116)] v w (Qi Z (fun r u => r = bI (dig (v 124) z a) ∧ (v, w) = u)) := by
  refine g_met (by decide) (Nat.le_of_ble_eq_true rfl) ?_
  intro gp ge gs gm ga gb gh gc X h ls hl
  have hx := X.1
  have hb := X.2.1
  have hl : lv_has ls 1 [(0, .ref (zg Z 116))] := hl
  refine lv_aload_n hx hb dX8_isDigit_0 rfl (lv_at hl 0 rfl) ?_
  refine g_geti X h (k := 23) (cc_116) fr_RX8_145 rfl (by decide) dX8_isDigit_1 ?_
  refine lv_aload_n hx hb dX8_isDigit_4 rfl (lv_at hl 0 rfl) ?_
  refine g_geti X h (k := 12) (cc_116) fr_RX8_142 rfl (by decide) dX8_isDigit_5 ?_
  refine lv_icmp_ge (tgt := 43) hx hb dX8_isDigit_8 (by decide) (fun c_8 => ?_) (fun c_8 => ?_)
  · skip
    have hq := nI_le1 (a := z) (b := a) hz ha (by omega) (by omega) c_8
    refine lv_iconst (v := 0) hx hb dX8_isDigit_43 (by decide) ?_
    exact g_nret X h dX8_isDigit_44 rfl (by simp [dig, show ¬ a < z by omega]; rfl)
  · skip
    have hq := nI_le0 (a := z) (b := a) hz ha (by omega) (by omega) c_8
    refine lv_aload_n hx hb dX8_isDigit_11 rfl (lv_at hl 0 rfl) ?_
    refine g_getr X h (k := 13) (t := 124) (cc_116) fr_RX8_33 rfl (by decide) (by decide) (by decide) dX8_isDigit_12 ?_
    refine lv_aload_n hx hb dX8_isDigit_15 rfl (lv_at hl 0 rfl) ?_
    refine g_geti X h (k := 23) (cc_116) fr_RX8_145 rfl (by decide) dX8_isDigit_16 ?_
    refine g_iald X h (k := a) (cc_124) ha (by omega) (by decide) dX8_isDigit_19 ?_
    refine lv_bipush (v := 48) hx hb dX8_isDigit_20 (by decide) ?_
    refine lv_icmp_lt (tgt := 43) hx hb dX8_isDigit_22 (by decide) (fun c_22 => ?_) (fun c_22 => ?_)
    · skip
      refine lv_iconst (v := 0) hx hb dX8_isDigit_43 (by decide) ?_
      exact g_nret X h dX8_isDigit_44 rfl (by simp only [i_lt, i_le] at c_8 c_22; refine ⟨?_, rfl⟩; simp only [bI, dig, inR, hq, decide_true, Bool.true_and, Bool.and_eq_true, decide_eq_true_eq, i_le, i_lt]; split <;> first | rfl | omega)
    · skip
      refine lv_aload_n hx hb dX8_isDigit_25 rfl (lv_at hl 0 rfl) ?_
      refine g_getr X h (k := 13) (t := 124) (cc_116) fr_RX8_33 rfl (by decide) (by decide) (by decide) dX8_isDigit_26 ?_
      refine lv_aload_n hx hb dX8_isDigit_29 rfl (lv_at hl 0 rfl) ?_
      refine g_geti X h (k := 23) (cc_116) fr_RX8_145 rfl (by decide) dX8_isDigit_30 ?_
      refine g_iald X h (k := a) (cc_124) ha (by omega) (by decide) dX8_isDigit_33 ?_
      refine lv_bipush (v := 57) hx hb dX8_isDigit_34 (by decide) ?_
      refine lv_icmp_gt (tgt := 43) hx hb dX8_isDigit_36 (by decide) (fun c_36 => ?_) (fun c_36 => ?_)
      · skip
        refine lv_iconst (v := 0) hx hb dX8_isDigit_43 (by decide) ?_
        exact g_nret X h dX8_isDigit_44 rfl (by simp only [i_lt, i_le] at c_8 c_22 c_36; refine ⟨?_, rfl⟩; simp only [bI, dig, inR, hq, decide_true, Bool.true_and, Bool.and_eq_true, decide_eq_true_eq, i_le, i_lt]; split <;> first | rfl | omega)
      · skip
        refine lv_iconst (v := 1) hx hb dX8_isDigit_39 (by decide) ?_
        refine lv_goto (tgt := 44) hx hb dX8_isDigit_40 (by decide) ?_
        exact g_nret X h dX8_isDigit_44 rfl (by simp only [i_lt, i_le] at c_8 c_22 c_36; refine ⟨?_, rfl⟩; simp only [bI, dig, inR, hq, decide_true, Bool.true_and, Bool.and_eq_true, decide_eq_true_eq, i_le, i_lt]; split <;> first | rfl | omega)

set_option maxRecDepth 100000 in
set_option maxHeartbeats 1000000 in
theorem c_X8_codes (gl : Launch) (Z : PL) (v : VV) (w : WV) (x0 : Int32) (c : Nat) (hc : v 116 22 = nI c) (hc1 : c < 1000) : CT gl yX8_codes cX8_codes 2 (some .boolean) 0 0 Z [.ref (zg Z 116), .int x0] v w (Qi Z (fun r u => r = 1 ∧ (up2 (up2 v 116 22 (nI (c + 1))) 130 c x0, w) = u)) := by
  refine g_met (by decide) (Nat.le_of_ble_eq_true rfl) ?_
  intro gp ge gs gm ga gb gh gc X h ls hl
  have hx := X.1
  have hb := X.2.1
  have hl : lv_has ls 2 [(0, .ref (zg Z 116)), (1, .int x0)] := hl
  refine lv_aload_n hx hb dX8_codes_0 rfl (lv_at hl 0 rfl) ?_
  refine g_getr X h (k := 21) (t := 130) (cc_116) fr_RX8_51 rfl (by decide) (by decide) (by decide) dX8_codes_1 ?_
  refine lv_aload_n hx hb dX8_codes_4 rfl (lv_at hl 0 rfl) ?_
  refine lv_dup hx hb dX8_codes_5 rfl ?_
  refine g_geti X h (k := 22) (cc_116) fr_RX8_170 rfl (by decide) dX8_codes_6 ?_
  refine lv_dup_x1 hx hb dX8_codes_9 rfl rfl ?_
  refine lv_iconst (v := 1) hx hb dX8_codes_10 (by decide) ?_
  refine lv_iadd hx hb dX8_codes_11 ?_
  refine g_puti X h (k := 22) (cc_116) fp_RX8_170 rfl (by decide) dX8_codes_12 (fun v12 H locs ev12 h => ?_)
  refine lv_iload_n hx hb dX8_codes_15 rfl (lv_at hl 1 rfl) ?_
  refine g_iast X h (k := c) (cc_130) hc (by omega) (by decide) dX8_codes_16 (fun v16 H locs ev16 h => ?_)
  refine lv_iconst (v := 1) hx hb dX8_codes_17 (by decide) ?_
  exact g_nret X h dX8_codes_18 rfl ⟨rfl, by rw [ev16, ev12, hc, nI_1]⟩

set_option maxRecDepth 100000 in
set_option maxHeartbeats 1000000 in
theorem c_X8_isNumber (gl : Launch) (Z : PL) (v : VV) (w : WV) (a : Nat) (z : Nat) (ha : v 116 23 = nI a) (hz : v 116 12 = nI z) (haz : a ≤ z) (hz1 : z ≤ 100) : CT gl yX8_isNumber cX8_isNumber 1 (some .boolean) 1 20 Z [.ref (zg Z 116)] v w (Qi Z (fun r u => r = bI (decide (0 < nmC (v 124) z a)) ∧ (numU v (v 124) a (nmC (v 124) z a), w) = u)) := by
  refine g_met (by decide) (Nat.le_of_ble_eq_true rfl) ?_
  intro gp ge gs gm ga gb gh gc X h ls hl
  have hx := X.1
  have hb := X.2.1
  have hl : lv_has ls 1 [(0, .ref (zg Z 116))] := hl
  refine lv_aload_n hx hb dX8_isNumber_0 rfl (lv_at hl 0 rfl) ?_
  refine lv_iconst (v := 0) hx hb dX8_isNumber_1 (by decide) ?_
  refine g_puti X h (k := 25) (cc_116) fp_RX8_148 rfl (by decide) dX8_isNumber_2 (fun v2 H locs ev2 h => ?_)
  refine lv_aload_n hx hb dX8_isNumber_5 rfl (lv_at hl 0 rfl) ?_
  refine lv_iconst (v := 0) hx hb dX8_isNumber_6 (by decide) ?_
  refine g_puti X h (k := 26) (cc_116) fp_RX8_151 rfl (by decide) dX8_isNumber_7 (fun v7 H locs ev7 h => ?_)
  have L10 : ∀ (n10 : Nat) (k : Nat) (va : VV), (va = numU v (v 124) a k) → (k ≤ 2) → (∀ j, j < k → dig (v 124) z (a + j) = true) → 2 - k < n10 → ∀ (H : Heap) (locs : List Loc), HS Z gs va w H locs → ∀ ls : Array Slot, lv_has ls 1 [(0, .ref (zg Z 116))] → W gp gl ge (rmm 1 20) gs gm ga gb gh gc H locs 0 0 (MQ gb (Qi Z (fun r u => r = bI (decide (0 < nmC (v 124) z a)) ∧ (numU v (v 124) a (nmC (v 124) z a), w) = u)) ga gs 0 0 (zA Z)) (F0 gm 10 ls []) := by
    intro n10
    induction n10 with
    | zero => intro k va hva hk hkd hmu; exact absurd hmu (Nat.not_lt_zero _)
    | succ n10 ih10 =>
      intro k va hva hk hkd hmu10 H locs h ls hl
      have ha23 : va 116 23 = nI (a + k) := by rw [hva]; exact numU_23
      have h25 : va 116 25 = nI (nmV (v 124) a k) := by rw [hva]; exact numU_25
      have h26 : va 116 26 = nI k := by rw [hva]; exact numU_26
      have ht : va 124 = v 124 := by rw [hva]; exact numU_i (by decide)
      have hz2 : va 116 12 = nI z := by rw [hva, numU_k (by decide)]; exact hz
      have hak : a + k ≤ z := by
        rcases Nat.eq_zero_or_pos k with q | q
        · omega
        · have := dig_lt (hkd (k - 1) (by omega)); omega
      refine lv_aload_n hx hb dX8_isNumber_10 rfl (lv_at hl 0 rfl) ?_
      refine g_geti X h (k := 26) (cc_116) fr_RX8_151 rfl (by decide) dX8_isNumber_11 ?_
      refine lv_iconst (v := 2) hx hb dX8_isNumber_14 (by decide) ?_
      refine lv_icmp_ge (tgt := 72) hx hb dX8_isNumber_15 (by decide) (fun c_15 => ?_) (fun c_15 => ?_)
      · skip
        have hk2 := nI_le1 (a := 2) (b := k) rfl h26 (by omega) (by omega) c_15
        refine lv_aload_n hx hb dX8_isNumber_72 rfl (lv_at hl 0 rfl) ?_
        refine g_geti X h (k := 26) (cc_116) fr_RX8_151 rfl (by decide) dX8_isNumber_73 ?_
        refine lv_if_le (tgt := 83) hx hb dX8_isNumber_76 (by decide) (fun c_76 => ?_) (fun c_76 => ?_)
        · skip
          refine lv_iconst (v := 0) hx hb dX8_isNumber_83 (by decide) ?_
          exact g_nret X h dX8_isNumber_84 rfl (by have e : nmC (v 124) z a = k := rd_e hk hkd (Or.inl (by omega)); rw [e]; refine ⟨?_, by rw [hva]⟩; first | (have q := nI_le1 (a := k) (b := 0) h26 rfl (by omega) (by omega) c_76; rw [show k = 0 by omega]; rfl) | (have q := nI_le0 (a := k) (b := 0) h26 rfl (by omega) (by omega) c_76; simp [q]; rfl))
        · skip
          refine lv_iconst (v := 1) hx hb dX8_isNumber_79 (by decide) ?_
          refine lv_goto (tgt := 84) hx hb dX8_isNumber_80 (by decide) ?_
          exact g_nret X h dX8_isNumber_84 rfl (by have e : nmC (v 124) z a = k := rd_e hk hkd (Or.inl (by omega)); rw [e]; refine ⟨?_, by rw [hva]⟩; first | (have q := nI_le1 (a := k) (b := 0) h26 rfl (by omega) (by omega) c_76; rw [show k = 0 by omega]; rfl) | (have q := nI_le0 (a := k) (b := 0) h26 rfl (by omega) (by omega) c_76; simp [q]; rfl))
      · skip
        have hk2 := nI_le0 (a := 2) (b := k) rfl h26 (by omega) (by omega) c_15
        refine lv_aload_n hx hb dX8_isNumber_18 rfl (lv_at hl 0 rfl) ?_
        refine g_ki h (g_runV X h (As := []) (rest := []) (c_X8_isDigit gl Z va w (a + k) z ha23 hz2 hak hz1) mi_X8_isDigit ml_RX8_154 (cc_116) (by decide) kl8 rfl ⟨Nat.le_of_ble_eq_true rfl, Nat.le_of_ble_eq_true rfl⟩ rfl hl.1 rfl (Nat.le_of_ble_eq_true rfl) dX8_isNumber_19) (fun r19 v19 w19 H locs hp19 h => ?_)
        obtain ⟨hr19, hu19⟩ := hp19; obtain ⟨rfl, rfl⟩ := Prod.mk.inj hu19
        refine lv_if_eq (tgt := 72) hx hb dX8_isNumber_22 (by decide) (fun c_22 => ?_) (fun c_22 => ?_)
        · skip
          rw [hr19, bI_0] at c_22
          refine lv_aload_n hx hb dX8_isNumber_72 rfl (lv_at hl 0 rfl) ?_
          refine g_geti X h (k := 26) (cc_116) fr_RX8_151 rfl (by decide) dX8_isNumber_73 ?_
          refine lv_if_le (tgt := 83) hx hb dX8_isNumber_76 (by decide) (fun c_76 => ?_) (fun c_76 => ?_)
          · skip
            refine lv_iconst (v := 0) hx hb dX8_isNumber_83 (by decide) ?_
            exact g_nret X h dX8_isNumber_84 rfl (by have e : nmC (v 124) z a = k := rd_e hk hkd (Or.inr (by rw [← ht]; exact c_22)); rw [e]; refine ⟨?_, by rw [hva]⟩; first | (have q := nI_le1 (a := k) (b := 0) h26 rfl (by omega) (by omega) c_76; rw [show k = 0 by omega]; rfl) | (have q := nI_le0 (a := k) (b := 0) h26 rfl (by omega) (by omega) c_76; simp [q]; rfl))
          · skip
            refine lv_iconst (v := 1) hx hb dX8_isNumber_79 (by decide) ?_
            refine lv_goto (tgt := 84) hx hb dX8_isNumber_80 (by decide) ?_
            exact g_nret X h dX8_isNumber_84 rfl (by have e : nmC (v 124) z a = k := rd_e hk hkd (Or.inr (by rw [← ht]; exact c_22)); rw [e]; refine ⟨?_, by rw [hva]⟩; first | (have q := nI_le1 (a := k) (b := 0) h26 rfl (by omega) (by omega) c_76; rw [show k = 0 by omega]; rfl) | (have q := nI_le0 (a := k) (b := 0) h26 rfl (by omega) (by omega) c_76; simp [q]; rfl))
        · skip
          rw [hr19, bI_n] at c_22
          rw [ht] at c_22
          have hlt := dig_lt c_22
          refine lv_aload_n hx hb dX8_isNumber_25 rfl (lv_at hl 0 rfl) ?_
          refine lv_bipush (v := 10) hx hb dX8_isNumber_26 (by decide) ?_
          refine lv_aload_n hx hb dX8_isNumber_28 rfl (lv_at hl 0 rfl) ?_
          refine g_geti X h (k := 25) (cc_116) fr_RX8_148 rfl (by decide) dX8_isNumber_29 ?_
          refine lv_imul hx hb dX8_isNumber_32 ?_
          refine lv_aload_n hx hb dX8_isNumber_33 rfl (lv_at hl 0 rfl) ?_
          refine g_getr X h (k := 13) (t := 124) (cc_116) fr_RX8_33 rfl (by decide) (by decide) (by decide) dX8_isNumber_34 ?_
          refine lv_aload_n hx hb dX8_isNumber_37 rfl (lv_at hl 0 rfl) ?_
          refine g_geti X h (k := 23) (cc_116) fr_RX8_145 rfl (by decide) dX8_isNumber_38 ?_
          refine g_iald X h (k := (a + k)) (cc_124) ha23 (by omega) (by decide) dX8_isNumber_41 ?_
          refine lv_iadd hx hb dX8_isNumber_42 ?_
          refine lv_bipush (v := 48) hx hb dX8_isNumber_43 (by decide) ?_
          refine lv_isub hx hb dX8_isNumber_45 ?_
          refine g_puti X h (k := 25) (cc_116) fp_RX8_148 rfl (by decide) dX8_isNumber_46 (fun v46 H locs ev46 h => ?_)
          refine lv_aload_n hx hb dX8_isNumber_49 rfl (lv_at hl 0 rfl) ?_
          refine lv_dup hx hb dX8_isNumber_50 rfl ?_
          refine g_geti X h (k := 23) (cc_116) fr_RX8_145 rfl (by decide) dX8_isNumber_51 ?_
          refine g_tr (y := (va 116 23)) (by simp [ev46, up2, upc]) ?_
          refine lv_iconst (v := 1) hx hb dX8_isNumber_54 (by decide) ?_
          refine lv_iadd hx hb dX8_isNumber_55 ?_
          refine g_puti X h (k := 23) (cc_116) fp_RX8_145 rfl (by decide) dX8_isNumber_56 (fun v56 H locs ev56 h => ?_)
          refine lv_aload_n hx hb dX8_isNumber_59 rfl (lv_at hl 0 rfl) ?_
          refine lv_dup hx hb dX8_isNumber_60 rfl ?_
          refine g_geti X h (k := 26) (cc_116) fr_RX8_151 rfl (by decide) dX8_isNumber_61 ?_
          refine g_tr (y := (va 116 26)) (by simp [ev56, ev46, up2, upc]) ?_
          refine lv_iconst (v := 1) hx hb dX8_isNumber_64 (by decide) ?_
          refine lv_iadd hx hb dX8_isNumber_65 ?_
          refine g_puti X h (k := 26) (cc_116) fp_RX8_151 rfl (by decide) dX8_isNumber_66 (fun v66 H locs ev66 h => ?_)
          refine lv_goto (tgt := 10) hx hb dX8_isNumber_69 (by decide) ?_
          exact ih10 (k + 1) v66 (by rw [ev66, ev56, ev46, h25, ht, ha23, h26, hva, nI_1, nI_1, show (10 : Int32) = nI 10 from rfl, pk_mul]; exact numU_s (rd_s c_22 (nmV_le hk hkd))) (by omega) (fun j hj => by rcases Nat.lt_or_ge j k with q | q; exact hkd j q; rw [show j = k by omega]; exact c_22) (by omega) _ _ h ls (lv_sub hl [0] rfl)
  exact L10 (2 - 0 + 1) 0 v7 (by rw [ev7, ev2]; exact numU_0 ha) (Nat.zero_le _) (fun j hj => absurd hj (Nat.not_lt_zero _)) (Nat.lt_succ_self _) _ _ h ls (lv_sub hl [0] rfl)

set_option maxRecDepth 100000 in
set_option maxHeartbeats 1000000 in
theorem c_X8_opens (gl : Launch) (Z : PL) (v : VV) (w : WV) (x0 : Int32) (o : Nat) (ho : v 116 24 = nI o) (ho4 : o ≤ 4) (a : Nat) (z : Nat) (ha : v 116 23 = nI a) (hz : v 116 12 = nI z) (haz : a ≤ z) (hz1 : z ≤ 100) : CT gl yX8_opens cX8_opens 2 (some .boolean) 1 21 Z [.ref (zg Z 116), .int x0] v w (Qi Z (fun r u => r = bI (decide (o < 4) && isAt (v 124) z a x0) ∧ (if decide (o < 4) && isAt (v 124) z a x0 then up2 (up2 v 116 23 (nI (a + 1))) 116 24 (nI (o + 1)) else v, w) = u)) := by
  refine g_met (by decide) (Nat.le_of_ble_eq_true rfl) ?_
  intro gp ge gs gm ga gb gh gc X h ls hl
  have hx := X.1
  have hb := X.2.1
  have hl : lv_has ls 2 [(0, .ref (zg Z 116)), (1, .int x0)] := hl
  refine lv_aload_n hx hb dX8_opens_0 rfl (lv_at hl 0 rfl) ?_
  refine g_geti X h (k := 24) (cc_116) fr_RX8_186 rfl (by decide) dX8_opens_1 ?_
  refine lv_iconst (v := 4) hx hb dX8_opens_4 (by decide) ?_
  refine lv_icmp_eq (tgt := 16) hx hb dX8_opens_5 (by decide) (fun c_5 => ?_) (fun c_5 => ?_)
  · skip
    have hq := nI_eq1 (a := o) (b := 4) ho rfl (by omega) (by omega) c_5
    refine lv_iconst (v := 0) hx hb dX8_opens_16 (by decide) ?_
    exact g_nret X h dX8_opens_17 rfl (by simp [hq]; rfl)
  · skip
    have hq := nI_eq0 (a := o) (b := 4) ho rfl c_5
    refine lv_aload_n hx hb dX8_opens_8 rfl (lv_at hl 0 rfl) ?_
    refine lv_iload_n hx hb dX8_opens_9 rfl (lv_at hl 1 rfl) ?_
    refine g_ki h (g_runV X h (As := [.int x0]) (rest := []) (c_X8_is gl Z v w x0 a z ha hz haz hz1) mi_X8_is ml_RX8_167 (cc_116) (by decide) kl8 rfl ⟨Nat.le_of_ble_eq_true rfl, Nat.le_of_ble_eq_true rfl⟩ rfl hl.1 rfl (Nat.le_of_ble_eq_true rfl) dX8_opens_10) (fun r10 v10 w10 H locs hp10 h => ?_)
    obtain ⟨hr10, hu10⟩ := hp10
    obtain ⟨hv10, rfl⟩ := Prod.mk.inj hu10
    refine lv_if_ne (tgt := 18) hx hb dX8_opens_13 (by decide) (fun c_13 => ?_) (fun c_13 => ?_)
    · skip
      rw [hr10, bI_n] at c_13
      rw [if_pos c_13] at hv10
      have ho2 : v10 116 24 = nI o := by rw [← hv10]; exact ho
      refine lv_aload_n hx hb dX8_opens_18 rfl (lv_at hl 0 rfl) ?_
      refine lv_dup hx hb dX8_opens_19 rfl ?_
      refine g_geti X h (k := 24) (cc_116) fr_RX8_186 rfl (by decide) dX8_opens_20 ?_
      refine lv_iconst (v := 1) hx hb dX8_opens_23 (by decide) ?_
      refine lv_iadd hx hb dX8_opens_24 ?_
      refine g_puti X h (k := 24) (cc_116) fp_RX8_186 rfl (by decide) dX8_opens_25 (fun v25 H locs ev25 h => ?_)
      refine lv_iconst (v := 1) hx hb dX8_opens_28 (by decide) ?_
      exact g_nret X h dX8_opens_29 rfl (by rw [c_13, decide_eq_true (show o < 4 by omega)]; exact ⟨rfl, by rw [if_pos (by decide), ev25, ho2, ← hv10, nI_1]⟩)
    · skip
      rw [hr10, bI_0] at c_13
      rw [if_neg (by rw [c_13]; decide)] at hv10
      refine lv_iconst (v := 0) hx hb dX8_opens_16 (by decide) ?_
      exact g_nret X h dX8_opens_17 rfl (by rw [c_13, Bool.and_false]; exact ⟨rfl, by rw [if_neg (by decide), hv10]⟩)
