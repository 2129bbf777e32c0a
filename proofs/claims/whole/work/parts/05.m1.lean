theorem inR_isP {n : Nat} {x : Int32} (h : n ≤ 6) : inR x 0 (nI n - 1) = isP (nI n) x := by
  have e : (nI n - 1).toInt = (n : Int) - 1 := by
    rcases (show n = 0 ∨ n = 1 ∨ n = 2 ∨ n = 3 ∨ n = 4 ∨ n = 5 ∨ n = 6 by omega) with rfl | rfl | rfl | rfl | rfl | rfl | rfl <;> decide
  have e2 : (nI n).toInt = n := nI_toInt (by omega)
  unfold inR isP
  congr 1
  simp only [decide_eq_decide, i_le, i_lt, e, e2]
  omega
theorem inR_nat {a b : Nat} {lo hi x : Int32} (ha : lo = nI a) (hb : hi = nI b) (hbb : a < 2 ^ 31 ∧ b < 2 ^ 31) (h : inR x lo hi = true) : ∃ k : Nat, x = nI k ∧ a ≤ k ∧ k ≤ b ∧ x.toNatClampNeg = k := by
  obtain ⟨h1, h2⟩ := inR_t.mp h
  subst ha
  subst hb
  rw [i_le, nI_toInt hbb.2] at h2
  rw [i_le, nI_toInt hbb.1] at h1
  obtain ⟨k, e, hk, -⟩ := i_nat (x := x) (by omega)
  exact ⟨k, e, by omega, by omega, by rw [e]; exact nI_clamp (by omega)⟩
def sThanks (n : Int32) (a : Nat → Int32) (x y : Int32) : Int32 := if isP n x then (if inR y 0 999 then a x.toNatClampNeg else -2) else -1
def okRow (n : Int32) (kd : Nat → Int32) (x y z : Int32) : Bool := isP n x && inR y 0 3 && inR z 0 9 && decide (kd x.toNatClampNeg = 6)
def sRow (n : Int32) (kd rw : Nat → Int32) (x y z : Int32) : Int32 := if isP n x && inR y 0 3 then (if inR z 0 9 then (if kd x.toNatClampNeg = 6 then rw (4 * x.toNatClampNeg + y.toNatClampNeg) else -3) else -2) else -1
def okSoldier (x y : Int32) : Bool := inR x 0 1 && inR y 0 999
def sSoldier (he sm x y : Int32) : Int32 := if inR x 0 1 then (if inR y 0 999 then (if x = 0 then he else sm) else -2) else -1
def sRound (n : Int32) (q : Nat) (x : Int32) : Int32 := if x = -1 then 0 else if isP n x then (if q < 6 then nI (q + 1) else -4) else -1
def sFeed (z : Nat) (x : Int32) : Int32 := if inR x 0 127 then (if z < 100 then nI (z + 1) else -4) else -2
def okPerson (n : Nat) (a b c : Int32) : Bool := inR a 0 6 && inR b 0 9 && inR c 0 999 && decide (n < 6)
def sPerson (n : Nat) (a b c : Int32) : Int32 := if inR a 0 6 then (if inR b 0 9 && inR c 0 999 then (if n < 6 then nI n else -4) else -2) else -1
/-- k places from a on become 0 -/
def zr (f : Nat → Int32) (a k : Nat) : Nat → Int32 := fun j => if a ≤ j ∧ j < a + k then 0 else f j
theorem zr_0 (f : Nat → Int32) (a : Nat) : zr f a 0 = f := by funext j; simp [zr]; omega
theorem zr_succ (f : Nat → Int32) (a k : Nat) : upd (zr f a k) (a + k) 0 = zr f a (k + 1) := by
  funext j
  simp only [upd, zr]
  by_cases h : j = a + k
  · subst h; simp
  · rw [if_neg h]
    by_cases h2 : a ≤ j ∧ j < a + k
    · rw [if_pos h2, if_pos (by omega)]
    · rw [if_neg h2, if_neg (by omega)]
theorem upc_self (v : VV) (i : Nat) : upc v i (v i) = v := by funext j; by_cases h : j = i <;> simp [upc, h]
theorem up2_upc (v : VV) (i k : Nat) (f : Nat → Int32) (x : Int32) : up2 (upc v i f) i k x = upc v i (upd f k x) := by
  funext j a
  by_cases h : j = i <;> simp [upc, up2, upd, h]
theorem upc_upc (v : VV) (i : Nat) (f g : Nat → Int32) : upc (upc v i f) i g = upc v i g := by
  funext j
  by_cases h : j = i <;> simp [upc, h]
theorem up2_row_ne (v : VV) {i j k : Nat} {x : Int32} (h : j ≠ i) : up2 v i k x j = v j := up2_ne h
set_option maxRecDepth 100000 in
set_option maxHeartbeats 1000000 in
theorem c_X8_within (gl : Launch) (Z : PL) (v : VV) (w : WV) (x0 : Int32) (x1 : Int32) (x2 : Int32) : CT gl yX8_within cX8_within 3 (some .boolean) 0 0 Z [.int x0, .int x1, .int x2] v w (Qi Z (fun r u => r = bI (inR x0 x1 x2) ∧ (v, w) = u)) := by
  refine g_met (by decide) (Nat.le_of_ble_eq_true rfl) ?_
  intro gp ge gs gm ga gb gh gc X h ls hl
  have hx := X.1
  have hb := X.2.1
  have hl : lv_has ls 3 [(0, .int x0), (1, .int x1), (2, .int x2)] := hl
  refine lv_iload_n hx hb dX8_within_0 rfl (lv_at hl 0 rfl) ?_
  refine lv_iload_n hx hb dX8_within_1 rfl (lv_at hl 1 rfl) ?_
  refine lv_icmp_lt (tgt := 14) hx hb dX8_within_2 (by decide) (fun c_2 => ?_) (fun c_2 => ?_)
  · skip
    refine lv_iconst (v := 0) hx hb dX8_within_14 (by decide) ?_
    exact g_nret X h dX8_within_15 rfl (by simp only [i_lt, i_le] at c_2; refine ⟨?_, rfl⟩; simp only [bI, inR, isP, Bool.and_eq_true, decide_eq_true_eq, i_le, i_lt]; split <;> first | rfl | omega)
  · skip
    refine lv_iload_n hx hb dX8_within_5 rfl (lv_at hl 0 rfl) ?_
    refine lv_iload_n hx hb dX8_within_6 rfl (lv_at hl 2 rfl) ?_
    refine lv_icmp_gt (tgt := 14) hx hb dX8_within_7 (by decide) (fun c_7 => ?_) (fun c_7 => ?_)
    · skip
      refine lv_iconst (v := 0) hx hb dX8_within_14 (by decide) ?_
      exact g_nret X h dX8_within_15 rfl (by simp only [i_lt, i_le] at c_2 c_7; refine ⟨?_, rfl⟩; simp only [bI, inR, isP, Bool.and_eq_true, decide_eq_true_eq, i_le, i_lt]; split <;> first | rfl | omega)
    · skip
      refine lv_iconst (v := 1) hx hb dX8_within_10 (by decide) ?_
      refine lv_goto (tgt := 15) hx hb dX8_within_11 (by decide) ?_
      exact g_nret X h dX8_within_15 rfl (by simp only [i_lt, i_le] at c_2 c_7; refine ⟨?_, rfl⟩; simp only [bI, inR, isP, Bool.and_eq_true, decide_eq_true_eq, i_le, i_lt]; split <;> first | rfl | omega)

set_option maxRecDepth 100000 in
set_option maxHeartbeats 1000000 in
theorem c_X8_isOne (gl : Launch) (Z : PL) (v : VV) (w : WV) (x0 : Int32) (n : Nat) (hn : v 116 0 = nI n) (h6 : n ≤ 6) : CT gl yX8_isOne cX8_isOne 2 (some .boolean) 1 22 Z [.ref (zg Z 116), .int x0] v w (Qi Z (fun r u => r = bI (isP (nI n) x0) ∧ (v, w) = u)) := by
  refine g_met (by decide) (Nat.le_of_ble_eq_true rfl) ?_
  intro gp ge gs gm ga gb gh gc X h ls hl
  have hx := X.1
  have hb := X.2.1
  have hl : lv_has ls 2 [(0, .ref (zg Z 116)), (1, .int x0)] := hl
  refine lv_iload_n hx hb dX8_isOne_0 rfl (lv_at hl 1 rfl) ?_
  refine lv_iconst (v := 0) hx hb dX8_isOne_1 (by decide) ?_
  refine lv_aload_n hx hb dX8_isOne_2 rfl (lv_at hl 0 rfl) ?_
  refine g_geti X h (k := 0) (cc_116) fr_RX8_111 rfl (by decide) dX8_isOne_3 ?_
  refine lv_iconst (v := 1) hx hb dX8_isOne_6 (by decide) ?_
  refine lv_isub hx hb dX8_isOne_7 ?_
  refine g_ki h (g_runS X h (As := [.int x0, .int 0, .int ((v 116 0) - 1)]) (rest := []) (c_X8_within gl Z v w x0 0 ((v 116 0) - 1)) ms_X8_within ml_RX8_114 ⟨Nat.le_of_ble_eq_true rfl, Nat.le_of_ble_eq_true rfl⟩ rfl hl.1 rfl (Nat.le_of_ble_eq_true rfl) dX8_isOne_8) (fun r8 v8 w8 H locs hp8 h => ?_)
  obtain ⟨hr8, hu8⟩ := hp8; obtain ⟨rfl, rfl⟩ := Prod.mk.inj hu8
  exact g_nret X h dX8_isOne_11 (by rw [hr8]; exact nar_bI _) ⟨by rw [hr8, hn, inR_isP h6], rfl⟩

set_option maxRecDepth 100000 in
set_option maxHeartbeats 1000000 in
theorem c_X8_thanks (gl : Launch) (Z : PL) (v : VV) (w : WV) (x0 : Int32) (x1 : Int32) (n : Nat) (hn : v 116 0 = nI n) (h6 : n ≤ 6) : CT gl yX8_thanks cX8_thanks 4 (some .int) 2 43 Z [.ref (zg Z 116), .int x0, .int x1] v w (Qi Z (fun r u => r = sThanks (nI n) (v 119) x0 x1 ∧ (if isP (nI n) x0 && inR x1 0 999 then up2 v 119 x0.toNatClampNeg x1 else v, w) = u)) := by
  refine g_met (by decide) (Nat.le_of_ble_eq_true rfl) ?_
  intro gp ge gs gm ga gb gh gc X h ls hl
  have hx := X.1
  have hb := X.2.1
  have hl : lv_has ls 4 [(0, .ref (zg Z 116)), (1, .int x0), (2, .int x1)] := hl
  refine lv_aload_n hx hb dX8_thanks_0 rfl (lv_at hl 0 rfl) ?_
  refine lv_iload_n hx hb dX8_thanks_1 rfl (lv_at hl 1 rfl) ?_
  refine g_ki h (g_runV X h (As := [.int x0]) (rest := []) (c_X8_isOne gl Z v w x0 n hn h6) mi_X8_isOne ml_RX8_118 (cc_116) (by decide) kl8 rfl ⟨Nat.le_of_ble_eq_true rfl, Nat.le_of_ble_eq_true rfl⟩ rfl hl.1 rfl (Nat.le_of_ble_eq_true rfl) dX8_thanks_2) (fun r2 v2 w2 H locs hp2 h => ?_)
  obtain ⟨hr2, hu2⟩ := hp2; obtain ⟨rfl, rfl⟩ := Prod.mk.inj hu2
  refine lv_if_ne (tgt := 10) hx hb dX8_thanks_5 (by decide) (fun c_5 => ?_) (fun c_5 => ?_)
  · skip
    rw [hr2, bI_n] at c_5
    obtain ⟨k, hk, hkn, hkc⟩ := isP_nat (by omega) c_5
    refine lv_iload_n hx hb dX8_thanks_10 rfl (lv_at hl 2 rfl) ?_
    refine lv_iconst (v := 0) hx hb dX8_thanks_11 (by decide) ?_
    refine lv_sipush (v := 999) hx hb dX8_thanks_12 (by decide) ?_
    refine g_ki h (g_runS X h (As := [.int x1, .int 0, .int 999]) (rest := []) (c_X8_within gl Z v w x1 0 999) ms_X8_within ml_RX8_114 ⟨Nat.le_of_ble_eq_true rfl, Nat.le_of_ble_eq_true rfl⟩ rfl hl.1 rfl (Nat.le_of_ble_eq_true rfl) dX8_thanks_15) (fun r15 v15 w15 H locs hp15 h => ?_)
    obtain ⟨hr15, hu15⟩ := hp15; obtain ⟨rfl, rfl⟩ := Prod.mk.inj hu15
    refine lv_if_ne (tgt := 24) hx hb dX8_thanks_18 (by decide) (fun c_18 => ?_) (fun c_18 => ?_)
    · skip
      rw [hr15, bI_n] at c_18
      refine lv_aload_n hx hb dX8_thanks_24 rfl (lv_at hl 0 rfl) ?_
      refine g_getr X h (k := 3) (t := 119) (cc_116) fr_RX8_18 rfl (by decide) (by decide) (by decide) dX8_thanks_25 ?_
      refine lv_iload_n hx hb dX8_thanks_28 rfl (lv_at hl 1 rfl) ?_
      refine g_iald X h (k := k) (cc_119) hk (by omega) (by decide) dX8_thanks_29 ?_
      refine lv_topi (fun x3_30 ex3_30 => ?_)
      refine lv_istore_n (lv' := [(3, .int x3_30), (0, .ref (zg Z 116)), (1, .int x0), (2, .int x1)]) hx hb dX8_thanks_30 rfl hl (by decide) rfl (fun ls hl => ?_)
      refine lv_aload_n hx hb dX8_thanks_31 rfl (lv_at hl 1 rfl) ?_
      refine g_getr X h (k := 3) (t := 119) (cc_116) fr_RX8_18 rfl (by decide) (by decide) (by decide) dX8_thanks_32 ?_
      refine lv_iload_n hx hb dX8_thanks_35 rfl (lv_at hl 2 rfl) ?_
      refine lv_iload_n hx hb dX8_thanks_36 rfl (lv_at hl 3 rfl) ?_
      refine g_iast X h (k := k) (cc_119) hk (by omega) (by decide) dX8_thanks_37 (fun v37 H locs ev37 h => ?_)
      refine lv_iload_n hx hb dX8_thanks_38 rfl (lv_at hl 0 rfl) ?_
      exact g_iret X h dX8_thanks_39 (by simp [sThanks, c_5, c_18, hkc, ev37, ex3_30])
    · skip
      rw [hr15, bI_0] at c_18
      refine lv_bipush (v := (-2)) hx hb dX8_thanks_21 (by decide) ?_
      exact g_iret X h dX8_thanks_23 (by simp [sThanks, c_5, c_18])
  · skip
    rw [hr2, bI_0] at c_5
    refine lv_iconst (v := (-1)) hx hb dX8_thanks_8 (by decide) ?_
    exact g_iret X h dX8_thanks_9 (by simp [sThanks, c_5])

set_option maxRecDepth 100000 in
set_option maxHeartbeats 1000000 in
theorem c_X8_kill (gl : Launch) (Z : PL) (v : VV) (w : WV) (x0 : Int32) (x1 : Int32) (n : Nat) (hn : v 116 0 = nI n) (h6 : n ≤ 6) : CT gl yX8_kill cX8_kill 4 (some .int) 2 43 Z [.ref (zg Z 116), .int x0, .int x1] v w (Qi Z (fun r u => r = (if isP (nI n) x0 then v 121 x0.toNatClampNeg else -1) ∧ (if isP (nI n) x0 then up2 v 121 x0.toNatClampNeg (if x1 = 0 then 0 else 1) else v, w) = u)) := by
  refine g_met (by decide) (Nat.le_of_ble_eq_true rfl) ?_
  intro gp ge gs gm ga gb gh gc X h ls hl
  have hx := X.1
  have hb := X.2.1
  have hl : lv_has ls 4 [(0, .ref (zg Z 116)), (1, .int x0), (2, .int x1)] := hl
  refine lv_aload_n hx hb dX8_kill_0 rfl (lv_at hl 0 rfl) ?_
  refine lv_iload_n hx hb dX8_kill_1 rfl (lv_at hl 1 rfl) ?_
  refine g_ki h (g_runV X h (As := [.int x0]) (rest := []) (c_X8_isOne gl Z v w x0 n hn h6) mi_X8_isOne ml_RX8_118 (cc_116) (by decide) kl8 rfl ⟨Nat.le_of_ble_eq_true rfl, Nat.le_of_ble_eq_true rfl⟩ rfl hl.1 rfl (Nat.le_of_ble_eq_true rfl) dX8_kill_2) (fun r2 v2 w2 H locs hp2 h => ?_)
  obtain ⟨hr2, hu2⟩ := hp2; obtain ⟨rfl, rfl⟩ := Prod.mk.inj hu2
  refine lv_if_ne (tgt := 10) hx hb dX8_kill_5 (by decide) (fun c_5 => ?_) (fun c_5 => ?_)
  · skip
    rw [hr2, bI_n] at c_5
    obtain ⟨k, hk, hkn, hkc⟩ := isP_nat (by omega) c_5
    refine lv_aload_n hx hb dX8_kill_10 rfl (lv_at hl 0 rfl) ?_
    refine g_getr X h (k := 5) (t := 121) (cc_116) fr_RX8_24 rfl (by decide) (by decide) (by decide) dX8_kill_11 ?_
    refine lv_iload_n hx hb dX8_kill_14 rfl (lv_at hl 1 rfl) ?_
    refine g_iald X h (k := k) (cc_121) hk (by omega) (by decide) dX8_kill_15 ?_
    refine lv_topi (fun x3_16 ex3_16 => ?_)
    refine lv_istore_n (lv' := [(3, .int x3_16), (0, .ref (zg Z 116)), (1, .int x0), (2, .int x1)]) hx hb dX8_kill_16 rfl hl (by decide) rfl (fun ls hl => ?_)
    refine lv_aload_n hx hb dX8_kill_17 rfl (lv_at hl 1 rfl) ?_
    refine g_getr X h (k := 5) (t := 121) (cc_116) fr_RX8_24 rfl (by decide) (by decide) (by decide) dX8_kill_18 ?_
    refine lv_iload_n hx hb dX8_kill_21 rfl (lv_at hl 2 rfl) ?_
    refine lv_iload_n hx hb dX8_kill_22 rfl (lv_at hl 3 rfl) ?_
    refine lv_if_eq (tgt := 30) hx hb dX8_kill_23 (by decide) (fun c_23 => ?_) (fun c_23 => ?_)
    · skip
      refine lv_iconst (v := 0) hx hb dX8_kill_30 (by decide) ?_
      refine g_iast X h (k := k) (cc_121) hk (by omega) (by decide) dX8_kill_31 (fun v31 H locs ev31 h => ?_)
      refine lv_iload_n hx hb dX8_kill_32 rfl (lv_at hl 0 rfl) ?_
      exact g_iret X h dX8_kill_33 (by simp [c_5, c_23, hkc, ev31, ex3_16])
    · skip
      refine lv_iconst (v := 1) hx hb dX8_kill_26 (by decide) ?_
      refine lv_goto (tgt := 31) hx hb dX8_kill_27 (by decide) ?_
      refine g_iast X h (k := k) (cc_121) hk (by omega) (by decide) dX8_kill_31 (fun v31 H locs ev31 h => ?_)
      refine lv_iload_n hx hb dX8_kill_32 rfl (lv_at hl 0 rfl) ?_
      exact g_iret X h dX8_kill_33 (by simp [c_5, c_23, hkc, ev31, ex3_16])
  · skip
    rw [hr2, bI_0] at c_5
    refine lv_iconst (v := (-1)) hx hb dX8_kill_8 (by decide) ?_
    exact g_iret X h dX8_kill_9 (by simp [c_5])

set_option maxRecDepth 100000 in
set_option maxHeartbeats 1000000 in
theorem c_X8_row (gl : Launch) (Z : PL) (v : VV) (w : WV) (x0 : Int32) (x1 : Int32) (x2 : Int32) (n : Nat) (hn : v 116 0 = nI n) (h6 : n ≤ 6) : CT gl yX8_row cX8_row 5 (some .int) 2 43 Z [.ref (zg Z 116), .int x0, .int x1, .int x2] v w (Qi Z (fun r u => r = sRow (nI n) (v 117) (v 122) x0 x1 x2 ∧ (if okRow (nI n) (v 117) x0 x1 x2 then up2 v 122 (4 * x0.toNatClampNeg + x1.toNatClampNeg) x2 else v, w) = u)) := by
  refine g_met (by decide) (Nat.le_of_ble_eq_true rfl) ?_
  intro gp ge gs gm ga gb gh gc X h ls hl
  have hx := X.1
  have hb := X.2.1
  have hl : lv_has ls 5 [(0, .ref (zg Z 116)), (1, .int x0), (2, .int x1), (3, .int x2)] := hl
  refine lv_aload_n hx hb dX8_row_0 rfl (lv_at hl 0 rfl) ?_
  refine lv_iload_n hx hb dX8_row_1 rfl (lv_at hl 1 rfl) ?_
  refine g_ki h (g_runV X h (As := [.int x0]) (rest := []) (c_X8_isOne gl Z v w x0 n hn h6) mi_X8_isOne ml_RX8_118 (cc_116) (by decide) kl8 rfl ⟨Nat.le_of_ble_eq_true rfl, Nat.le_of_ble_eq_true rfl⟩ rfl hl.1 rfl (Nat.le_of_ble_eq_true rfl) dX8_row_2) (fun r2 v2 w2 H locs hp2 h => ?_)
  obtain ⟨hr2, hu2⟩ := hp2; obtain ⟨rfl, rfl⟩ := Prod.mk.inj hu2
  refine lv_if_eq (tgt := 17) hx hb dX8_row_5 (by decide) (fun c_5 => ?_) (fun c_5 => ?_)
  · skip
    rw [hr2, bI_0] at c_5
    refine lv_iconst (v := (-1)) hx hb dX8_row_17 (by decide) ?_
    exact g_iret X h dX8_row_18 (by simp [sRow, okRow, c_5])
  · skip
    rw [hr2, bI_n] at c_5
    obtain ⟨k, hk, hkn, hkc⟩ := isP_nat (by omega) c_5
    refine lv_iload_n hx hb dX8_row_8 rfl (lv_at hl 2 rfl) ?_
    refine lv_iconst (v := 0) hx hb dX8_row_9 (by decide) ?_
    refine lv_iconst (v := 3) hx hb dX8_row_10 (by decide) ?_
    refine g_ki h (g_runS X h (As := [.int x1, .int 0, .int 3]) (rest := []) (c_X8_within gl Z v w x1 0 3) ms_X8_within ml_RX8_114 ⟨Nat.le_of_ble_eq_true rfl, Nat.le_of_ble_eq_true rfl⟩ rfl hl.1 rfl (Nat.le_of_ble_eq_true rfl) dX8_row_11) (fun r11 v11 w11 H locs hp11 h => ?_)
    obtain ⟨hr11, hu11⟩ := hp11; obtain ⟨rfl, rfl⟩ := Prod.mk.inj hu11
    refine lv_if_ne (tgt := 19) hx hb dX8_row_14 (by decide) (fun c_14 => ?_) (fun c_14 => ?_)
    · skip
      rw [hr11, bI_n] at c_14
      obtain ⟨k1, hk1, hk1l, hk1n, hk1c⟩ := inR_nat (a := 0) (b := 3) rfl rfl (by decide) c_14
      refine lv_iload_n hx hb dX8_row_19 rfl (lv_at hl 3 rfl) ?_
      refine lv_iconst (v := 0) hx hb dX8_row_20 (by decide) ?_
      refine lv_bipush (v := 9) hx hb dX8_row_21 (by decide) ?_
      refine g_ki h (g_runS X h (As := [.int x2, .int 0, .int 9]) (rest := []) (c_X8_within gl Z v w x2 0 9) ms_X8_within ml_RX8_114 ⟨Nat.le_of_ble_eq_true rfl, Nat.le_of_ble_eq_true rfl⟩ rfl hl.1 rfl (Nat.le_of_ble_eq_true rfl) dX8_row_23) (fun r23 v23 w23 H locs hp23 h => ?_)
      obtain ⟨hr23, hu23⟩ := hp23; obtain ⟨rfl, rfl⟩ := Prod.mk.inj hu23
      refine lv_if_ne (tgt := 32) hx hb dX8_row_26 (by decide) (fun c_26 => ?_) (fun c_26 => ?_)
      · skip
        rw [hr23, bI_n] at c_26
        refine lv_aload_n hx hb dX8_row_32 rfl (lv_at hl 0 rfl) ?_
        refine g_getr X h (k := 1) (t := 117) (cc_116) fr_RX8_9 rfl (by decide) (by decide) (by decide) dX8_row_33 ?_
        refine lv_iload_n hx hb dX8_row_36 rfl (lv_at hl 1 rfl) ?_
        refine g_iald X h (k := k) (cc_117) hk (by omega) (by decide) dX8_row_37 ?_
        refine lv_bipush (v := 6) hx hb dX8_row_38 (by decide) ?_
        refine lv_icmp_eq (tgt := 46) hx hb dX8_row_40 (by decide) (fun c_40 => ?_) (fun c_40 => ?_)
        · skip
          refine lv_aload_n hx hb dX8_row_46 rfl (lv_at hl 0 rfl) ?_
          refine g_getr X h (k := 6) (t := 122) (cc_116) fr_RX8_27 rfl (by decide) (by decide) (by decide) dX8_row_47 ?_
          refine lv_iconst (v := 4) hx hb dX8_row_50 (by decide) ?_
          refine lv_iload_n hx hb dX8_row_51 rfl (lv_at hl 1 rfl) ?_
          refine lv_imul hx hb dX8_row_52 ?_
          refine lv_iload_n hx hb dX8_row_53 rfl (lv_at hl 2 rfl) ?_
          refine lv_iadd hx hb dX8_row_54 ?_
          refine g_iald X h (k := ((4 * k) + k1)) (cc_122) (by rw [show ((4 * x0)) = nI (4 * k) from (by rw [show (4) = nI 4 from rfl, show (x0) = nI k from hk, pk_mul]), show (x1) = nI k1 from hk1, nI_add]) (by omega) (by decide) dX8_row_55 ?_
          refine lv_topi (fun x4_56 ex4_56 => ?_)
          refine lv_istore (lv' := [(4, .int x4_56), (0, .ref (zg Z 116)), (1, .int x0), (2, .int x1), (3, .int x2)]) hx hb dX8_row_56 hl (by decide) rfl (fun ls hl => ?_)
          refine lv_aload_n hx hb dX8_row_58 rfl (lv_at hl 1 rfl) ?_
          refine g_getr X h (k := 6) (t := 122) (cc_116) fr_RX8_27 rfl (by decide) (by decide) (by decide) dX8_row_59 ?_
          refine lv_iconst (v := 4) hx hb dX8_row_62 (by decide) ?_
          refine lv_iload_n hx hb dX8_row_63 rfl (lv_at hl 2 rfl) ?_
          refine lv_imul hx hb dX8_row_64 ?_
          refine lv_iload_n hx hb dX8_row_65 rfl (lv_at hl 3 rfl) ?_
          refine lv_iadd hx hb dX8_row_66 ?_
          refine lv_iload_n hx hb dX8_row_67 rfl (lv_at hl 4 rfl) ?_
          refine g_iast X h (k := ((4 * k) + k1)) (cc_122) (by rw [show ((4 * x0)) = nI (4 * k) from (by rw [show (4) = nI 4 from rfl, show (x0) = nI k from hk, pk_mul]), show (x1) = nI k1 from hk1, nI_add]) (by omega) (by decide) dX8_row_68 (fun v68 H locs ev68 h => ?_)
          refine lv_iload hx hb dX8_row_69 (lv_at hl 0 rfl) ?_
          exact g_iret X h dX8_row_71 (by simp [sRow, okRow, c_5, c_14, c_26, c_40, hkc, hk1c, ev68, ex4_56])
        · skip
          refine lv_bipush (v := (-3)) hx hb dX8_row_43 (by decide) ?_
          exact g_iret X h dX8_row_45 (by simp [sRow, okRow, c_5, c_14, c_26, c_40, hkc])
      · skip
        rw [hr23, bI_0] at c_26
        refine lv_bipush (v := (-2)) hx hb dX8_row_29 (by decide) ?_
        exact g_iret X h dX8_row_31 (by simp [sRow, okRow, c_5, c_14, c_26])
    · skip
      rw [hr11, bI_0] at c_14
      refine lv_iconst (v := (-1)) hx hb dX8_row_17 (by decide) ?_
      exact g_iret X h dX8_row_18 (by simp [sRow, okRow, c_5, c_14])

set_option maxRecDepth 100000 in
set_option maxHeartbeats 1000000 in
theorem c_X8_soldier (gl : Launch) (Z : PL) (v : VV) (w : WV) (x0 : Int32) (x1 : Int32) : CT gl yX8_soldier cX8_soldier 4 (some .int) 1 22 Z [.ref (zg Z 116), .int x0, .int x1] v w (Qi Z (fun r u => r = sSoldier (v 116 7) (v 116 8) x0 x1 ∧ (if okSoldier x0 x1 then (if x0 = 0 then up2 v 116 7 x1 else up2 v 116 8 x1) else v, w) = u)) := by
  refine g_met (by decide) (Nat.le_of_ble_eq_true rfl) ?_
  intro gp ge gs gm ga gb gh gc X h ls hl
  have hx := X.1
  have hb := X.2.1
  have hl : lv_has ls 4 [(0, .ref (zg Z 116)), (1, .int x0), (2, .int x1)] := hl
  refine lv_iload_n hx hb dX8_soldier_0 rfl (lv_at hl 1 rfl) ?_
  refine lv_iconst (v := 0) hx hb dX8_soldier_1 (by decide) ?_
  refine lv_iconst (v := 1) hx hb dX8_soldier_2 (by decide) ?_
  refine g_ki h (g_runS X h (As := [.int x0, .int 0, .int 1]) (rest := []) (c_X8_within gl Z v w x0 0 1) ms_X8_within ml_RX8_114 ⟨Nat.le_of_ble_eq_true rfl, Nat.le_of_ble_eq_true rfl⟩ rfl hl.1 rfl (Nat.le_of_ble_eq_true rfl) dX8_soldier_3) (fun r3 v3 w3 H locs hp3 h => ?_)
  obtain ⟨hr3, hu3⟩ := hp3; obtain ⟨rfl, rfl⟩ := Prod.mk.inj hu3
  refine lv_if_ne (tgt := 11) hx hb dX8_soldier_6 (by decide) (fun c_6 => ?_) (fun c_6 => ?_)
  · skip
    rw [hr3, bI_n] at c_6
    refine lv_iload_n hx hb dX8_soldier_11 rfl (lv_at hl 2 rfl) ?_
    refine lv_iconst (v := 0) hx hb dX8_soldier_12 (by decide) ?_
    refine lv_sipush (v := 999) hx hb dX8_soldier_13 (by decide) ?_
    refine g_ki h (g_runS X h (As := [.int x1, .int 0, .int 999]) (rest := []) (c_X8_within gl Z v w x1 0 999) ms_X8_within ml_RX8_114 ⟨Nat.le_of_ble_eq_true rfl, Nat.le_of_ble_eq_true rfl⟩ rfl hl.1 rfl (Nat.le_of_ble_eq_true rfl) dX8_soldier_16) (fun r16 v16 w16 H locs hp16 h => ?_)
    obtain ⟨hr16, hu16⟩ := hp16; obtain ⟨rfl, rfl⟩ := Prod.mk.inj hu16
    refine lv_if_ne (tgt := 25) hx hb dX8_soldier_19 (by decide) (fun c_19 => ?_) (fun c_19 => ?_)
    · skip
      rw [hr16, bI_n] at c_19
      refine lv_iload_n hx hb dX8_soldier_25 rfl (lv_at hl 1 rfl) ?_
      refine lv_if_ne (tgt := 36) hx hb dX8_soldier_26 (by decide) (fun c_26 => ?_) (fun c_26 => ?_)
      · skip
        refine lv_aload_n hx hb dX8_soldier_36 rfl (lv_at hl 0 rfl) ?_
        refine g_geti X h (k := 8) (cc_116) fr_RX8_136 rfl (by decide) dX8_soldier_37 ?_
        refine lv_topi (fun x3_40 ex3_40 => ?_)
        refine lv_istore_n (lv' := [(3, .int x3_40), (0, .ref (zg Z 116)), (1, .int x0), (2, .int x1)]) hx hb dX8_soldier_40 rfl hl (by decide) rfl (fun ls hl => ?_)
        refine lv_iload_n hx hb dX8_soldier_41 rfl (lv_at hl 2 rfl) ?_
        refine lv_if_ne (tgt := 53) hx hb dX8_soldier_42 (by decide) (fun c_42 => ?_) (fun c_42 => ?_)
        · skip
          refine lv_aload_n hx hb dX8_soldier_53 rfl (lv_at hl 1 rfl) ?_
          refine lv_iload_n hx hb dX8_soldier_54 rfl (lv_at hl 3 rfl) ?_
          refine g_puti X h (k := 8) (cc_116) fp_RX8_136 rfl (by decide) dX8_soldier_55 (fun v55 H locs ev55 h => ?_)
          refine lv_iload_n hx hb dX8_soldier_58 rfl (lv_at hl 0 rfl) ?_
          exact g_iret X h dX8_soldier_59 (by first | exact absurd c_26 c_42 | exact absurd c_42 c_26 | (simp only [sSoldier, okSoldier, c_6, c_19, ex3_40, ev47]; simp [c_26]; done) | (simp only [sSoldier, okSoldier, c_6, c_19, ex3_40, ev55]; simp [c_26]; done))
        · skip
          refine lv_aload_n hx hb dX8_soldier_45 rfl (lv_at hl 1 rfl) ?_
          refine lv_iload_n hx hb dX8_soldier_46 rfl (lv_at hl 3 rfl) ?_
          refine g_puti X h (k := 7) (cc_116) fp_RX8_98 rfl (by decide) dX8_soldier_47 (fun v47 H locs ev47 h => ?_)
          refine lv_goto (tgt := 58) hx hb dX8_soldier_50 (by decide) ?_
          refine lv_iload_n hx hb dX8_soldier_58 rfl (lv_at hl 0 rfl) ?_
          exact g_iret X h dX8_soldier_59 (by first | exact absurd c_26 c_42 | exact absurd c_42 c_26 | (simp only [sSoldier, okSoldier, c_6, c_19, ex3_40, ev47]; simp [c_26]; done) | (simp only [sSoldier, okSoldier, c_6, c_19, ex3_40, ev55]; simp [c_26]; done))
      · skip
        refine lv_aload_n hx hb dX8_soldier_29 rfl (lv_at hl 0 rfl) ?_
        refine g_geti X h (k := 7) (cc_116) fr_RX8_98 rfl (by decide) dX8_soldier_30 ?_
        refine lv_goto (tgt := 40) hx hb dX8_soldier_33 (by decide) ?_
        refine lv_topi (fun x3_40 ex3_40 => ?_)
        refine lv_istore_n (lv' := [(3, .int x3_40), (0, .ref (zg Z 116)), (1, .int x0), (2, .int x1)]) hx hb dX8_soldier_40 rfl hl (by decide) rfl (fun ls hl => ?_)
        refine lv_iload_n hx hb dX8_soldier_41 rfl (lv_at hl 2 rfl) ?_
        refine lv_if_ne (tgt := 53) hx hb dX8_soldier_42 (by decide) (fun c_42 => ?_) (fun c_42 => ?_)
        · skip
          refine lv_aload_n hx hb dX8_soldier_53 rfl (lv_at hl 1 rfl) ?_
          refine lv_iload_n hx hb dX8_soldier_54 rfl (lv_at hl 3 rfl) ?_
          refine g_puti X h (k := 8) (cc_116) fp_RX8_136 rfl (by decide) dX8_soldier_55 (fun v55 H locs ev55 h => ?_)
          refine lv_iload_n hx hb dX8_soldier_58 rfl (lv_at hl 0 rfl) ?_
          exact g_iret X h dX8_soldier_59 (by first | exact absurd c_26 c_42 | exact absurd c_42 c_26 | (simp only [sSoldier, okSoldier, c_6, c_19, ex3_40, ev47]; simp [c_26]; done) | (simp only [sSoldier, okSoldier, c_6, c_19, ex3_40, ev55]; simp [c_26]; done))
        · skip
          refine lv_aload_n hx hb dX8_soldier_45 rfl (lv_at hl 1 rfl) ?_
          refine lv_iload_n hx hb dX8_soldier_46 rfl (lv_at hl 3 rfl) ?_
          refine g_puti X h (k := 7) (cc_116) fp_RX8_98 rfl (by decide) dX8_soldier_47 (fun v47 H locs ev47 h => ?_)
          refine lv_goto (tgt := 58) hx hb dX8_soldier_50 (by decide) ?_
          refine lv_iload_n hx hb dX8_soldier_58 rfl (lv_at hl 0 rfl) ?_
          exact g_iret X h dX8_soldier_59 (by first | exact absurd c_26 c_42 | exact absurd c_42 c_26 | (simp only [sSoldier, okSoldier, c_6, c_19, ex3_40, ev47]; simp [c_26]; done) | (simp only [sSoldier, okSoldier, c_6, c_19, ex3_40, ev55]; simp [c_26]; done))
    · skip
      rw [hr16, bI_0] at c_19
      refine lv_bipush (v := (-2)) hx hb dX8_soldier_22 (by decide) ?_
      exact g_iret X h dX8_soldier_24 (by simp [sSoldier, okSoldier, c_6, c_19])
  · skip
    rw [hr3, bI_0] at c_6
    refine lv_iconst (v := (-1)) hx hb dX8_soldier_9 (by decide) ?_
    exact g_iret X h dX8_soldier_10 (by simp [sSoldier, okSoldier, c_6])

set_option maxRecDepth 100000 in
set_option maxHeartbeats 1000000 in
theorem c_X8_round (gl : Launch) (Z : PL) (v : VV) (w : WV) (x0 : Int32) (n : Nat) (hn : v 116 0 = nI n) (h6 : n ≤ 6) (q : Nat) (hq : v 116 9 = nI q) (hq6 : q ≤ 6) : CT gl yX8_round cX8_round 2 (some .int) 2 43 Z [.ref (zg Z 116), .int x0] v w (Qi Z (fun r u => r = sRound (nI n) q x0 ∧ (if x0 = -1 then up2 v 116 9 0 else if isP (nI n) x0 && decide (q < 6) then up2 (up2 v 116 9 (nI (q + 1))) 123 q x0 else v, w) = u)) := by
  refine g_met (by decide) (Nat.le_of_ble_eq_true rfl) ?_
  intro gp ge gs gm ga gb gh gc X h ls hl
  have hx := X.1
  have hb := X.2.1
  have hl : lv_has ls 2 [(0, .ref (zg Z 116)), (1, .int x0)] := hl
  refine lv_iload_n hx hb dX8_round_0 rfl (lv_at hl 1 rfl) ?_
  refine lv_iconst (v := (-1)) hx hb dX8_round_1 (by decide) ?_
  refine lv_icmp_ne (tgt := 12) hx hb dX8_round_2 (by decide) (fun c_2 => ?_) (fun c_2 => ?_)
  · skip
    refine lv_aload_n hx hb dX8_round_12 rfl (lv_at hl 0 rfl) ?_
    refine lv_iload_n hx hb dX8_round_13 rfl (lv_at hl 1 rfl) ?_
    refine g_ki h (g_runV X h (As := [.int x0]) (rest := []) (c_X8_isOne gl Z v w x0 n hn h6) mi_X8_isOne ml_RX8_118 (cc_116) (by decide) kl8 rfl ⟨Nat.le_of_ble_eq_true rfl, Nat.le_of_ble_eq_true rfl⟩ rfl hl.1 rfl (Nat.le_of_ble_eq_true rfl) dX8_round_14) (fun r14 v14 w14 H locs hp14 h => ?_)
    obtain ⟨hr14, hu14⟩ := hp14; obtain ⟨rfl, rfl⟩ := Prod.mk.inj hu14
    refine lv_if_ne (tgt := 22) hx hb dX8_round_17 (by decide) (fun c_17 => ?_) (fun c_17 => ?_)
    · skip
      rw [hr14, bI_n] at c_17
      obtain ⟨k, hk, hkn, hkc⟩ := isP_nat (by omega) c_17
      refine lv_aload_n hx hb dX8_round_22 rfl (lv_at hl 0 rfl) ?_
      refine g_geti X h (k := 9) (cc_116) fr_RX8_139 rfl (by decide) dX8_round_23 ?_
      refine lv_bipush (v := 6) hx hb dX8_round_26 (by decide) ?_
      refine lv_icmp_ne (tgt := 34) hx hb dX8_round_28 (by decide) (fun c_28 => ?_) (fun c_28 => ?_)
      · skip
        have hq7 : q < 6 := by
          rcases Nat.lt_or_ge q 6 with z | z
          · exact z
          · exact absurd (by rw [hq, show q = 6 by omega]; rfl) c_28
        refine lv_aload_n hx hb dX8_round_34 rfl (lv_at hl 0 rfl) ?_
        refine g_getr X h (k := 10) (t := 123) (cc_116) fr_RX8_30 rfl (by decide) (by decide) (by decide) dX8_round_35 ?_
        refine lv_aload_n hx hb dX8_round_38 rfl (lv_at hl 0 rfl) ?_
        refine lv_dup hx hb dX8_round_39 rfl ?_
        refine g_geti X h (k := 9) (cc_116) fr_RX8_139 rfl (by decide) dX8_round_40 ?_
        refine lv_dup_x1 hx hb dX8_round_43 rfl rfl ?_
        refine lv_iconst (v := 1) hx hb dX8_round_44 (by decide) ?_
        refine lv_iadd hx hb dX8_round_45 ?_
        refine g_puti X h (k := 9) (cc_116) fp_RX8_139 rfl (by decide) dX8_round_46 (fun v46 H locs ev46 h => ?_)
        refine lv_iload_n hx hb dX8_round_49 rfl (lv_at hl 1 rfl) ?_
        refine g_iast X h (k := q) (cc_123) hq (by omega) (by decide) dX8_round_50 (fun v50 H locs ev50 h => ?_)
        refine lv_aload_n hx hb dX8_round_51 rfl (lv_at hl 0 rfl) ?_
        refine g_geti X h (k := 9) (cc_116) fr_RX8_139 rfl (by decide) dX8_round_52 ?_
        refine g_tr (y := ((v 116 9) + 1)) (by simp [ev50, ev46, up2, upc]) ?_
        exact g_iret X h dX8_round_55 (by simp [sRound, c_2, c_17, c_28, hq7, ev50, ev46, up2, hq, nI_1])
      · skip
        have hq7 : q = 6 := nI_inj (by omega) (by omega) (hq.symm.trans c_28)
        refine lv_bipush (v := (-4)) hx hb dX8_round_31 (by decide) ?_
        exact g_iret X h dX8_round_33 (by simp [sRound, c_2, c_17, c_28, hq7])
    · skip
      rw [hr14, bI_0] at c_17
      refine lv_iconst (v := (-1)) hx hb dX8_round_20 (by decide) ?_
      exact g_iret X h dX8_round_21 (by simp [sRound, c_2, c_17])
  · skip
    refine lv_aload_n hx hb dX8_round_5 rfl (lv_at hl 0 rfl) ?_
    refine lv_iconst (v := 0) hx hb dX8_round_6 (by decide) ?_
    refine g_puti X h (k := 9) (cc_116) fp_RX8_139 rfl (by decide) dX8_round_7 (fun v7 H locs ev7 h => ?_)
    refine lv_iconst (v := 0) hx hb dX8_round_10 (by decide) ?_
    exact g_iret X h dX8_round_11 (by simp [sRound, c_2, ev7])

set_option maxRecDepth 100000 in
set_option maxHeartbeats 1000000 in
theorem c_X8_feed (gl : Launch) (Z : PL) (v : VV) (w : WV) (x0 : Int32) (z : Nat) (hz : v 116 12 = nI z) (hz6 : z ≤ 100) : CT gl yX8_feed cX8_feed 2 (some .int) 1 22 Z [.ref (zg Z 116), .int x0] v w (Qi Z (fun r u => r = sFeed z x0 ∧ (if inR x0 0 127 && decide (z < 100) then up2 (up2 v 116 12 (nI (z + 1))) 124 z x0 else v, w) = u)) := by
  refine g_met (by decide) (Nat.le_of_ble_eq_true rfl) ?_
  intro gp ge gs gm ga gb gh gc X h ls hl
  have hx := X.1
  have hb := X.2.1
  have hl : lv_has ls 2 [(0, .ref (zg Z 116)), (1, .int x0)] := hl
  refine lv_iload_n hx hb dX8_feed_0 rfl (lv_at hl 1 rfl) ?_
  refine lv_iconst (v := 0) hx hb dX8_feed_1 (by decide) ?_
  refine lv_bipush (v := 127) hx hb dX8_feed_2 (by decide) ?_
  refine g_ki h (g_runS X h (As := [.int x0, .int 0, .int 127]) (rest := []) (c_X8_within gl Z v w x0 0 127) ms_X8_within ml_RX8_114 ⟨Nat.le_of_ble_eq_true rfl, Nat.le_of_ble_eq_true rfl⟩ rfl hl.1 rfl (Nat.le_of_ble_eq_true rfl) dX8_feed_4) (fun r4 v4 w4 H locs hp4 h => ?_)
  obtain ⟨hr4, hu4⟩ := hp4; obtain ⟨rfl, rfl⟩ := Prod.mk.inj hu4
  refine lv_if_ne (tgt := 13) hx hb dX8_feed_7 (by decide) (fun c_7 => ?_) (fun c_7 => ?_)
  · skip
    rw [hr4, bI_n] at c_7
    refine lv_aload_n hx hb dX8_feed_13 rfl (lv_at hl 0 rfl) ?_
    refine g_geti X h (k := 12) (cc_116) fr_RX8_142 rfl (by decide) dX8_feed_14 ?_
    refine lv_bipush (v := 100) hx hb dX8_feed_17 (by decide) ?_
    refine lv_icmp_ne (tgt := 25) hx hb dX8_feed_19 (by decide) (fun c_19 => ?_) (fun c_19 => ?_)
    · skip
      have hz7 : z < 100 := by
        rcases Nat.lt_or_ge z 100 with y | y
        · exact y
        · exact absurd (by rw [hz, show z = 100 by omega]; rfl) c_19
      refine lv_aload_n hx hb dX8_feed_25 rfl (lv_at hl 0 rfl) ?_
      refine g_getr X h (k := 13) (t := 124) (cc_116) fr_RX8_33 rfl (by decide) (by decide) (by decide) dX8_feed_26 ?_
      refine lv_aload_n hx hb dX8_feed_29 rfl (lv_at hl 0 rfl) ?_
      refine lv_dup hx hb dX8_feed_30 rfl ?_
      refine g_geti X h (k := 12) (cc_116) fr_RX8_142 rfl (by decide) dX8_feed_31 ?_
      refine lv_dup_x1 hx hb dX8_feed_34 rfl rfl ?_
      refine lv_iconst (v := 1) hx hb dX8_feed_35 (by decide) ?_
      refine lv_iadd hx hb dX8_feed_36 ?_
      refine g_puti X h (k := 12) (cc_116) fp_RX8_142 rfl (by decide) dX8_feed_37 (fun v37 H locs ev37 h => ?_)
      refine lv_iload_n hx hb dX8_feed_40 rfl (lv_at hl 1 rfl) ?_
      refine g_iast X h (k := z) (cc_124) hz (by omega) (by decide) dX8_feed_41 (fun v41 H locs ev41 h => ?_)
      refine lv_aload_n hx hb dX8_feed_42 rfl (lv_at hl 0 rfl) ?_
      refine g_geti X h (k := 12) (cc_116) fr_RX8_142 rfl (by decide) dX8_feed_43 ?_
      refine g_tr (y := ((v 116 12) + 1)) (by simp [ev41, ev37, up2, upc]) ?_
      exact g_iret X h dX8_feed_46 (by simp [sFeed, c_7, c_19, hz7, ev41, ev37, up2, hz, nI_1])
    · skip
      have hz7 : z = 100 := nI_inj (by omega) (by omega) (hz.symm.trans c_19)
      refine lv_bipush (v := (-4)) hx hb dX8_feed_22 (by decide) ?_
      exact g_iret X h dX8_feed_24 (by simp [sFeed, c_7, c_19, hz7])
  · skip
    rw [hr4, bI_0] at c_7
    refine lv_bipush (v := (-2)) hx hb dX8_feed_10 (by decide) ?_
    exact g_iret X h dX8_feed_12 (by simp [sFeed, c_7])

set_option maxRecDepth 100000 in
set_option maxHeartbeats 1000000 in
theorem c_X8_person (gl : Launch) (Z : PL) (v : VV) (w : WV) (x0 : Int32) (x1 : Int32) (x2 : Int32) (n : Nat) (hn : v 116 0 = nI n) (h6 : n ≤ 6) : CT gl yX8_person cX8_person 5 (some .int) 1 22 Z [.ref (zg Z 116), .int x0, .int x1, .int x2] v w (Qi Z (fun r u => r = sPerson n x0 x1 x2 ∧ (if okPerson n x0 x1 x2 then up2 (upc (up2 (up2 (up2 (up2 (up2 v 117 n x0) 118 n x1) 119 n x2) 120 n 0) 121 n 0) 122 (zr (v 122) (4 * n) 4)) 116 0 (nI (n + 1)) else v, w) = u)) := by
  refine g_met (by decide) (Nat.le_of_ble_eq_true rfl) ?_
  intro gp ge gs gm ga gb gh gc X h ls hl
  have hx := X.1
  have hb := X.2.1
  have hl : lv_has ls 5 [(0, .ref (zg Z 116)), (1, .int x0), (2, .int x1), (3, .int x2)] := hl
  refine lv_iload_n hx hb dX8_person_0 rfl (lv_at hl 1 rfl) ?_
  refine lv_iconst (v := 0) hx hb dX8_person_1 (by decide) ?_
  refine lv_bipush (v := 6) hx hb dX8_person_2 (by decide) ?_
  refine g_ki h (g_runS X h (As := [.int x0, .int 0, .int 6]) (rest := []) (c_X8_within gl Z v w x0 0 6) ms_X8_within ml_RX8_114 ⟨Nat.le_of_ble_eq_true rfl, Nat.le_of_ble_eq_true rfl⟩ rfl hl.1 rfl (Nat.le_of_ble_eq_true rfl) dX8_person_4) (fun r4 v4 w4 H locs hp4 h => ?_)
  obtain ⟨hr4, hu4⟩ := hp4; obtain ⟨rfl, rfl⟩ := Prod.mk.inj hu4
  refine lv_if_ne (tgt := 12) hx hb dX8_person_7 (by decide) (fun c_7 => ?_) (fun c_7 => ?_)
  · skip
    rw [hr4, bI_n] at c_7
    refine lv_iload_n hx hb dX8_person_12 rfl (lv_at hl 2 rfl) ?_
    refine lv_iconst (v := 0) hx hb dX8_person_13 (by decide) ?_
    refine lv_bipush (v := 9) hx hb dX8_person_14 (by decide) ?_
    refine g_ki h (g_runS X h (As := [.int x1, .int 0, .int 9]) (rest := []) (c_X8_within gl Z v w x1 0 9) ms_X8_within ml_RX8_114 ⟨Nat.le_of_ble_eq_true rfl, Nat.le_of_ble_eq_true rfl⟩ rfl hl.1 rfl (Nat.le_of_ble_eq_true rfl) dX8_person_16) (fun r16 v16 w16 H locs hp16 h => ?_)
    obtain ⟨hr16, hu16⟩ := hp16; obtain ⟨rfl, rfl⟩ := Prod.mk.inj hu16
    refine lv_if_eq (tgt := 33) hx hb dX8_person_19 (by decide) (fun c_19 => ?_) (fun c_19 => ?_)
    · skip
      rw [hr16, bI_0] at c_19
      refine lv_bipush (v := (-2)) hx hb dX8_person_33 (by decide) ?_
      exact g_iret X h dX8_person_35 (by simp [sPerson, okPerson, c_7, c_19])
    · skip
      rw [hr16, bI_n] at c_19
      refine lv_iload_n hx hb dX8_person_22 rfl (lv_at hl 3 rfl) ?_
      refine lv_iconst (v := 0) hx hb dX8_person_23 (by decide) ?_
      refine lv_sipush (v := 999) hx hb dX8_person_24 (by decide) ?_
      refine g_ki h (g_runS X h (As := [.int x2, .int 0, .int 999]) (rest := []) (c_X8_within gl Z v w x2 0 999) ms_X8_within ml_RX8_114 ⟨Nat.le_of_ble_eq_true rfl, Nat.le_of_ble_eq_true rfl⟩ rfl hl.1 rfl (Nat.le_of_ble_eq_true rfl) dX8_person_27) (fun r27 v27 w27 H locs hp27 h => ?_)
      obtain ⟨hr27, hu27⟩ := hp27; obtain ⟨rfl, rfl⟩ := Prod.mk.inj hu27
      refine lv_if_ne (tgt := 36) hx hb dX8_person_30 (by decide) (fun c_30 => ?_) (fun c_30 => ?_)
      · skip
        rw [hr27, bI_n] at c_30
        refine lv_aload_n hx hb dX8_person_36 rfl (lv_at hl 0 rfl) ?_
        refine g_geti X h (k := 0) (cc_116) fr_RX8_111 rfl (by decide) dX8_person_37 ?_
        refine lv_bipush (v := 6) hx hb dX8_person_40 (by decide) ?_
        refine lv_icmp_ne (tgt := 48) hx hb dX8_person_42 (by decide) (fun c_42 => ?_) (fun c_42 => ?_)
        · skip
          have hn7 : n < 6 := by
            rcases Nat.lt_or_ge n 6 with z | z
            · exact z
            · exact absurd (by rw [hn, show n = 6 by omega]; rfl) c_42
          refine lv_aload_n hx hb dX8_person_48 rfl (lv_at hl 0 rfl) ?_
          refine g_getr X h (k := 1) (t := 117) (cc_116) fr_RX8_9 rfl (by decide) (by decide) (by decide) dX8_person_49 ?_
          refine lv_aload_n hx hb dX8_person_52 rfl (lv_at hl 0 rfl) ?_
          refine g_geti X h (k := 0) (cc_116) fr_RX8_111 rfl (by decide) dX8_person_53 ?_
          refine lv_iload_n hx hb dX8_person_56 rfl (lv_at hl 1 rfl) ?_
          refine g_iast X h (k := n) (cc_117) hn (by omega) (by decide) dX8_person_57 (fun v57 H locs ev57 h => ?_)
          refine lv_aload_n hx hb dX8_person_58 rfl (lv_at hl 0 rfl) ?_
          refine g_getr X h (k := 2) (t := 118) (cc_116) fr_RX8_15 rfl (by decide) (by decide) (by decide) dX8_person_59 ?_
          refine lv_aload_n hx hb dX8_person_62 rfl (lv_at hl 0 rfl) ?_
          refine g_geti X h (k := 0) (cc_116) fr_RX8_111 rfl (by decide) dX8_person_63 ?_
          refine g_tr (y := (v 116 0)) (by simp [ev57, up2, upc]) ?_
          refine lv_iload_n hx hb dX8_person_66 rfl (lv_at hl 2 rfl) ?_
          refine g_iast X h (k := n) (cc_118) hn (by omega) (by decide) dX8_person_67 (fun v67 H locs ev67 h => ?_)
          refine lv_aload_n hx hb dX8_person_68 rfl (lv_at hl 0 rfl) ?_
          refine g_getr X h (k := 3) (t := 119) (cc_116) fr_RX8_18 rfl (by decide) (by decide) (by decide) dX8_person_69 ?_
          refine lv_aload_n hx hb dX8_person_72 rfl (lv_at hl 0 rfl) ?_
          refine g_geti X h (k := 0) (cc_116) fr_RX8_111 rfl (by decide) dX8_person_73 ?_
          refine g_tr (y := (v 116 0)) (by simp [ev67, ev57, up2, upc]) ?_
          refine lv_iload_n hx hb dX8_person_76 rfl (lv_at hl 3 rfl) ?_
          refine g_iast X h (k := n) (cc_119) hn (by omega) (by decide) dX8_person_77 (fun v77 H locs ev77 h => ?_)
          refine lv_aload_n hx hb dX8_person_78 rfl (lv_at hl 0 rfl) ?_
          refine g_getr X h (k := 4) (t := 120) (cc_116) fr_RX8_21 rfl (by decide) (by decide) (by decide) dX8_person_79 ?_
          refine lv_aload_n hx hb dX8_person_82 rfl (lv_at hl 0 rfl) ?_
          refine g_geti X h (k := 0) (cc_116) fr_RX8_111 rfl (by decide) dX8_person_83 ?_
          refine g_tr (y := (v 116 0)) (by simp [ev77, ev67, ev57, up2, upc]) ?_
          refine lv_iconst (v := 0) hx hb dX8_person_86 (by decide) ?_
          refine g_iast X h (k := n) (cc_120) hn (by omega) (by decide) dX8_person_87 (fun v87 H locs ev87 h => ?_)
          refine lv_aload_n hx hb dX8_person_88 rfl (lv_at hl 0 rfl) ?_
          refine g_getr X h (k := 5) (t := 121) (cc_116) fr_RX8_24 rfl (by decide) (by decide) (by decide) dX8_person_89 ?_
          refine lv_aload_n hx hb dX8_person_92 rfl (lv_at hl 0 rfl) ?_
          refine g_geti X h (k := 0) (cc_116) fr_RX8_111 rfl (by decide) dX8_person_93 ?_
          refine g_tr (y := (v 116 0)) (by simp [ev87, ev77, ev67, ev57, up2, upc]) ?_
          refine lv_iconst (v := 0) hx hb dX8_person_96 (by decide) ?_
          refine g_iast X h (k := n) (cc_121) hn (by omega) (by decide) dX8_person_97 (fun v97 H locs ev97 h => ?_)
          refine lv_iconst (v := 0) hx hb dX8_person_98 (by decide) ?_
          refine lv_istore (lv' := [(4, .int 0), (0, .ref (zg Z 116)), (1, .int x0), (2, .int x1), (3, .int x2)]) hx hb dX8_person_99 hl (by decide) rfl (fun ls hl => ?_)
          have L101 : ∀ (n101 : Nat) (i : Nat) (x4 : Int32) (va : VV), (x4 = nI i) → (i ≤ 4) → (va = upc v97 122 (zr (v97 122) (4 * n) i)) → 4 - i < n101 → ∀ (H : Heap) (locs : List Loc), HS Z gs va w H locs → ∀ ls : Array Slot, lv_has ls 5 [(0, .ref (zg Z 116)), (1, .int x0), (2, .int x1), (3, .int x2), (4, .int x4)] → W gp gl ge (rmm 1 22) gs gm ga gb gh gc H locs 0 0 (MQ gb (Qi Z (fun r u => r = sPerson n x0 x1 x2 ∧ (if okPerson n x0 x1 x2 then up2 (upc (up2 (up2 (up2 (up2 (up2 v 117 n x0) 118 n x1) 119 n x2) 120 n 0) 121 n 0) 122 (zr (v 122) (4 * n) 4)) 116 0 (nI (n + 1)) else v, w) = u)) ga gs 0 0 (zA Z)) (F0 gm 101 ls []) := by
            intro n101
            induction n101 with
            | zero => intro i x4 va hi hile hva hmu; exact absurd hmu (Nat.not_lt_zero _)
            | succ n101 ih101 =>
              intro i x4 va hi hile hva hmu101 H locs h ls hl
              refine lv_iload hx hb dX8_person_101 (lv_at hl 4 rfl) ?_
              refine lv_iconst (v := 4) hx hb dX8_person_103 (by decide) ?_
              refine lv_icmp_ge (tgt := 128) hx hb dX8_person_104 (by decide) (fun c_104 => ?_) (fun c_104 => ?_)
              · skip
                have hi4 : i = 4 := by
                  rcases Nat.lt_or_ge i 4 with z | z
                  · exact absurd c_104 (by rw [hi]; exact nI_ge (b := 4) z (by omega))
                  · omega
                refine lv_aload_n hx hb dX8_person_128 rfl (lv_at hl 0 rfl) ?_
                refine lv_dup hx hb dX8_person_129 rfl ?_
                refine g_geti X h (k := 0) (cc_116) fr_RX8_111 rfl (by decide) dX8_person_130 ?_
                refine g_tr (y := (v 116 0)) (by simp [hva, ev97, ev87, ev77, ev67, ev57, up2, upc]) ?_
                refine lv_dup_x1 hx hb dX8_person_133 rfl rfl ?_
                refine lv_iconst (v := 1) hx hb dX8_person_134 (by decide) ?_
                refine lv_iadd hx hb dX8_person_135 ?_
                refine g_puti X h (k := 0) (cc_116) fp_RX8_111 rfl (by decide) dX8_person_136 (fun v136 H locs ev136 h => ?_)
                exact g_iret X h dX8_person_139 (by simp [sPerson, okPerson, c_7, c_19, c_30, c_42, c_104, hn7, ev136, hva, ev97, ev87, ev77, ev67, ev57, hi4, hn, nI_1, up2_row_ne])
              · skip
                have hi4 : i < 4 := by
                  rcases Nat.lt_or_ge i 4 with z | z
                  · exact z
                  · exact absurd (by rw [hi]; exact nI_le (a := 4) z (by omega)) c_104
                refine lv_aload_n hx hb dX8_person_107 rfl (lv_at hl 0 rfl) ?_
                refine g_getr X h (k := 6) (t := 122) (cc_116) fr_RX8_27 rfl (by decide) (by decide) (by decide) dX8_person_108 ?_
                refine lv_iconst (v := 4) hx hb dX8_person_111 (by decide) ?_
                refine lv_aload_n hx hb dX8_person_112 rfl (lv_at hl 0 rfl) ?_
                refine g_geti X h (k := 0) (cc_116) fr_RX8_111 rfl (by decide) dX8_person_113 ?_
                refine g_tr (y := (v 116 0)) (by simp [hva, ev97, ev87, ev77, ev67, ev57, up2, upc]) ?_
                refine lv_imul hx hb dX8_person_116 ?_
                refine lv_iload hx hb dX8_person_117 (lv_at hl 4 rfl) ?_
                refine lv_iadd hx hb dX8_person_119 ?_
                refine lv_iconst (v := 0) hx hb dX8_person_120 (by decide) ?_
                refine g_iast X h (k := ((4 * n) + i)) (cc_122) (by rw [show ((4 * (v 116 0))) = nI (4 * n) from (by rw [show (4) = nI 4 from rfl, show ((v 116 0)) = nI n from hn, pk_mul]), show (x4) = nI i from hi, nI_add]) (by omega) (by decide) dX8_person_121 (fun v121 H locs ev121 h => ?_)
                refine lv_iinc (v := (x4 + 1)) (lv' := [(4, .int (x4 + 1)), (0, .ref (zg Z 116)), (1, .int x0), (2, .int x1), (3, .int x2)]) hx hb dX8_person_122 hl (k := 4) rfl rfl (by decide) rfl (fun ls hl => ?_)
                refine lv_goto (tgt := 101) hx hb dX8_person_125 (by decide) ?_
                exact ih101 (i + 1) (x4 + 1) v121 (by rw [hi]; exact nI_1 i) (by omega) (by rw [ev121, hva, up2_upc, zr_succ]) (by omega) _ _ h ls (lv_sub hl [1, 2, 3, 4, 0] rfl)
          exact L101 (4 - 0 + 1) 0 0 v97 rfl (by omega) (by rw [zr_0]; exact (upc_self _ _).symm) (Nat.lt_succ_self _) _ _ h ls (lv_sub hl [1, 2, 3, 4, 0] rfl)
        · skip
          have hn7 : n = 6 := nI_inj (by omega) (by omega) (hn.symm.trans c_42)
          refine lv_bipush (v := (-4)) hx hb dX8_person_45 (by decide) ?_
          exact g_iret X h dX8_person_47 (by simp [sPerson, okPerson, c_7, c_19, c_30, c_42, hn7])
      · skip
        rw [hr27, bI_0] at c_30
        refine lv_bipush (v := (-2)) hx hb dX8_person_33 (by decide) ?_
        exact g_iret X h dX8_person_35 (by simp [sPerson, okPerson, c_7, c_19, c_30])
  · skip
    rw [hr4, bI_0] at c_7
    refine lv_iconst (v := (-1)) hx hb dX8_person_10 (by decide) ?_
    exact g_iret X h dX8_person_11 (by simp [sPerson, okPerson, c_7])
