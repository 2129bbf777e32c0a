/-! bits (pasted: kit/laws BITS, Int32 by its bits) -/
def bt (x : Int32) (i : Nat) : Bool := x.toBitVec.getLsbD i
theorem b_ext {x y : Int32} (h : ∀ i, i < 32 → bt x i = bt y i) : x = y := Int32.toBitVec_inj.mp (BitVec.eq_of_getLsbD_eq (fun i hi => h i hi))
theorem b_or (x y : Int32) (i : Nat) : bt (x ||| y) i = (bt x i || bt y i) := by unfold bt; rw [Int32.toBitVec_or, BitVec.getLsbD_or]
theorem b_and (x y : Int32) (i : Nat) : bt (x &&& y) i = (bt x i && bt y i) := by unfold bt; rw [Int32.toBitVec_and, BitVec.getLsbD_and]
theorem b_xor (x y : Int32) (i : Nat) : bt (x ^^^ y) i = (bt x i ^^ bt y i) := by unfold bt; rw [Int32.toBitVec_xor, BitVec.getLsbD_xor]
theorem b_big {x : Int32} {i : Nat} (h : 32 ≤ i) : bt x i = false := BitVec.getLsbD_of_ge _ _ h
theorem b_255 (i : Nat) : bt 255 i = decide (i < 8) := by
  rcases Nat.lt_or_ge i 32 with h | h
  · exact (by decide +kernel : ∀ i, i < 32 → bt 255 i = decide (i < 8)) i h
  · rw [b_big h, decide_eq_false (by omega)]
theorem b_65535 (i : Nat) : bt 65535 i = decide (i < 16) := by
  rcases Nat.lt_or_ge i 32 with h | h
  · exact (by decide +kernel : ∀ i, i < 32 → bt 65535 i = decide (i < 16)) i h
  · rw [b_big h, decide_eq_false (by omega)]
theorem b_m1 : ∀ i, i < 32 → bt (-1) i = true := by decide +kernel
theorem b_0 (i : Nat) : bt 0 i = false := BitVec.getLsbD_zero
theorem s_l : ∀ n, n < 32 → ((nI n &&& 31).toBitVec.smod 32).toNat = n := by decide +kernel
theorem s_u : ∀ n, n < 32 → (((nI n).toUInt32 &&& Int32.toUInt32 31).toBitVec % 32).toNat = n := by decide +kernel
theorem b_shl (n : Nat) (hn : n < 32) (x : Int32) {i : Nat} (hi : i < 32) : bt (x <<< (nI n &&& 31)) i = (decide (n ≤ i) && bt x (i - n)) := by
  unfold bt
  rw [Int32.toBitVec_shiftLeft]
  show (x.toBitVec <<< ((nI n &&& 31).toBitVec.smod 32).toNat).getLsbD i = _
  rw [s_l n hn, BitVec.getLsbD_shiftLeft]
  rcases Nat.lt_or_ge i n with h | h
  · simp [h, Nat.not_le.mpr h]
  · simp [hi, h, Nat.not_lt.mpr h]
theorem b_ushr (n : Nat) (hn : n < 32) (x : Int32) (i : Nat) : bt ((x.toUInt32 >>> ((nI n).toUInt32 &&& Int32.toUInt32 31)).toInt32) i = bt x (n + i) := by
  show (x.toUInt32 >>> ((nI n).toUInt32 &&& Int32.toUInt32 31)).toBitVec.getLsbD i = x.toUInt32.toBitVec.getLsbD (n + i)
  rw [UInt32.toBitVec_shiftRight]
  show (x.toUInt32.toBitVec >>> (((nI n).toUInt32 &&& Int32.toUInt32 31).toBitVec % 32).toNat).getLsbD i = _
  rw [s_u n hn, BitVec.getLsbD_ushiftRight]
theorem b_sshr (n : Nat) (hn : n < 32) (x : Int32) {i : Nat} (hi : i < 32) : bt (x >>> (nI n &&& 31)) i = if n + i < 32 then bt x (n + i) else bt x 31 := by
  unfold bt
  rw [Int32.toBitVec_shiftRight]
  show (x.toBitVec.sshiftRight ((nI n &&& 31).toBitVec.smod 32).toNat).getLsbD i = _
  rw [s_l n hn, BitVec.getLsbD_sshiftRight, BitVec.msb_eq_getLsbD_last]
  simp [hi]
theorem b_shl8 (x : Int32) {i : Nat} (hi : i < 32) : bt (x <<< ((8 : Int32) &&& 31)) i = (decide (8 ≤ i) && bt x (i - 8)) := b_shl 8 (by omega) x hi
theorem b_shl16 (x : Int32) {i : Nat} (hi : i < 32) : bt (x <<< ((16 : Int32) &&& 31)) i = (decide (16 ≤ i) && bt x (i - 16)) := b_shl 16 (by omega) x hi
theorem b_shl24 (x : Int32) {i : Nat} (hi : i < 32) : bt (x <<< ((24 : Int32) &&& 31)) i = (decide (24 ≤ i) && bt x (i - 24)) := b_shl 24 (by omega) x hi
theorem b_sshr8 (x : Int32) {i : Nat} (hi : i < 32) : bt (x >>> ((8 : Int32) &&& 31)) i = if 8 + i < 32 then bt x (8 + i) else bt x 31 := b_sshr 8 (by omega) x hi

theorem b_1 : ∀ i, i < 32 → bt 1 i = decide (i = 0) := by decide +kernel
theorem b_bI (c : Bool) : ∀ i, i < 32 → bt (bI c) i = (decide (i = 0) && c) := by
  cases c
  · intro i _; show bt 0 i = _; rw [b_0]; simp
  · intro i hi; show bt 1 i = _; rw [b_1 i hi]; simp
theorem b1_n {x : Int32} {k : Nat} (h : k < 31) : (x >>> (nI k &&& 31)) &&& 1 = bI (bt x k) := by
  refine b_ext (fun i hi => ?_)
  rw [b_and, b_1 i hi, b_bI _ i hi, b_sshr k (by omega) x hi]
  by_cases e : i = 0
  · subst e
    rw [if_pos (by omega)]
    simp
  · simp [e]
theorem b_one {k : Nat} (hk : k < 32) {i : Nat} (hi : i < 32) : bt ((1 : Int32) <<< (nI k &&& 31)) i = decide (i = k) := by
  rw [b_shl k hk 1 hi]
  by_cases e : k ≤ i
  · rw [b_1 (i - k) (by omega)]
    simp only [decide_eq_true e, Bool.true_and, decide_eq_decide]
    omega
  · rw [decide_eq_false e, decide_eq_false (by omega)]
    rfl
theorem b_set {x : Int32} {k : Nat} (hk : k < 32) {i : Nat} (hi : i < 32) : bt (x ||| ((1 : Int32) <<< (nI k &&& 31))) i = (bt x i || decide (i = k)) := by
  rw [b_or, b_one hk hi]
/-- the bits of those dead, when k is, or isn't -/
def sdB (D : Int32) (k : Nat) (x : Int32) : Int32 := if x = 0 then D &&& (((1 : Int32) <<< (nI k &&& 31)) ^^^ (-1)) else D ||| ((1 : Int32) <<< (nI k &&& 31))
theorem sdB_b {D : Int32} {k : Nat} {x : Int32} (hk : k < 32) {i : Nat} (hi : i < 32) : bt (sdB D k x) i = if i = k then decide (¬ x = 0) else bt D i := by
  unfold sdB
  by_cases h : x = 0
  · rw [if_pos h, b_and, b_xor, b_one hk hi, b_m1 i hi]
    by_cases e : i = k
    · simp [e, h]
    · simp [e]
  · rw [if_neg h, b_set hk hi]
    by_cases e : i = k
    · simp [e, h]
    · simp [e]
theorem up2_same (v : VV) (i k : Nat) (x : Int32) : up2 v i k x i k = x := by simp [up2]
theorem up2_slot {v : VV} {i k q : Nat} {x : Int32} (h : q ≠ k) : up2 v i k x i q = v i q := by simp [up2, h]
/-! the class: people come, become as others -/
def joS (v : VV) (b n : Nat) (x y z : Int32) : VV := up2 (up2 (upc (up2 (up2 (up2 (up2 v (b + 2) n x) (b + 3) n y) (b + 4) n z) (b + 5) n 0) (b + 6) (zr (v (b + 6)) (4 * n) 4)) b 7 (sdB (v b 7) n 0)) b 0 (nI (n + 1))
theorem joS_e {v : VV} {b n : Nat} {x y z : Int32} (_hn : v b 0 = nI n) : joS v b n x y z = up2 (up2 (upc (up2 (up2 (up2 (up2 v (b + 2) n x) (b + 3) n y) (b + 4) n z) (b + 5) n 0) (b + 6) (zr (up2 (up2 (up2 (up2 v (b + 2) n x) (b + 3) n y) (b + 4) n z) (b + 5) n 0 (b + 6)) (4 * n) 4)) b 7 (sdB (v b 7) n 0)) b 0 (nI (n + 1)) := by
  rw [joS, up2_ne (j := b + 6) (by omega), up2_ne (j := b + 6) (by omega), up2_ne (j := b + 6) (by omega), up2_ne (j := b + 6) (by omega)]
def blP (v : VV) (b c : Nat) : VV := fun i k =>
  if i = b then (if k = 0 then v c 0 else if k = 7 then v c 7 else v b k)
  else if i = b + 2 then (if k < 6 then v (c + 2) k else v i k)
  else if i = b + 3 then (if k < 6 then v (c + 3) k else v i k)
  else if i = b + 4 then (if k < 6 then v (c + 4) k else v i k)
  else if i = b + 5 then (if k < 6 then v (c + 5) k else v i k)
  else if i = b + 6 then (if k < 24 then v (c + 6) k else v i k)
  else v i k
theorem blP_e {v v1 v2 v3 v4 v5 v6 v7 : VV} {b c : Nat} (hb : isE b) (hc : isE c) (hne : b ≠ c) (e1 : v1 = up2 v b 0 (v c 0)) (e2 : v2 = up2 v1 b 7 (v1 c 7)) (e3 : v3 = upc v2 (b + 2) (va_cpy (v2 (c + 2)) (v2 (b + 2)) 0 0 6)) (e4 : v4 = upc v3 (b + 3) (va_cpy (v3 (c + 3)) (v3 (b + 3)) 0 0 6)) (e5 : v5 = upc v4 (b + 4) (va_cpy (v4 (c + 4)) (v4 (b + 4)) 0 0 6)) (e6 : v6 = upc v5 (b + 5) (va_cpy (v5 (c + 5)) (v5 (b + 5)) 0 0 6)) (e7 : v7 = upc v6 (b + 6) (va_cpy (v6 (c + 6)) (v6 (b + 6)) 0 0 24)) : v7 = blP v b c := by
  have hd : b + 19 ≤ c ∨ c + 19 ≤ b := by rcases hb with rfl | rfl | rfl <;> rcases hc with rfl | rfl | rfl <;> first | omega | exact absurd rfl hne
  have r1 : v1 c = v c := by rw [e1, up2_ne (by omega)]
  have q2 : ∀ j, j ≠ b → v2 j = v j := fun j hj => by rw [e2, up2_ne hj, e1, up2_ne hj]
  have q3 : ∀ j, j ≠ b → j ≠ b + 2 → v3 j = v j := fun j hj h2 => by rw [e3, upc_ne h2, q2 j hj]
  have q4 : ∀ j, j ≠ b → j ≠ b + 2 → j ≠ b + 3 → v4 j = v j := fun j hj h2 h3 => by rw [e4, upc_ne h3, q3 j hj h2]
  have q5 : ∀ j, j ≠ b → j ≠ b + 2 → j ≠ b + 3 → j ≠ b + 4 → v5 j = v j := fun j hj h2 h3 h4 => by rw [e5, upc_ne h4, q4 j hj h2 h3]
  have q6 : ∀ j, j ≠ b → j ≠ b + 2 → j ≠ b + 3 → j ≠ b + 4 → j ≠ b + 5 → v6 j = v j := fun j hj h2 h3 h4 h5 => by rw [e6, upc_ne h5, q5 j hj h2 h3 h4]
  have q7 : ∀ j, j ≠ b → j ≠ b + 2 → j ≠ b + 3 → j ≠ b + 4 → j ≠ b + 5 → j ≠ b + 6 → v7 j = v j := fun j hj h2 h3 h4 h5 h6 => by rw [e7, upc_ne h6, q6 j hj h2 h3 h4 h5]
  rw [q2 (c + 2) (by omega), q2 (b + 2) (by omega)] at e3
  rw [q3 (c + 3) (by omega) (by omega), q3 (b + 3) (by omega) (by omega)] at e4
  rw [q4 (c + 4) (by omega) (by omega) (by omega), q4 (b + 4) (by omega) (by omega) (by omega)] at e5
  rw [q5 (c + 5) (by omega) (by omega) (by omega) (by omega), q5 (b + 5) (by omega) (by omega) (by omega) (by omega)] at e6
  rw [q6 (c + 6) (by omega) (by omega) (by omega) (by omega) (by omega), q6 (b + 6) (by omega) (by omega) (by omega) (by omega) (by omega)] at e7
  rw [r1] at e2
  funext i k
  unfold blP
  by_cases h0 : i = b
  · rw [if_pos h0, h0, e7, upc_ne (by omega), e6, upc_ne (by omega), e5, upc_ne (by omega), e4, upc_ne (by omega), e3, upc_ne (by omega), e2, e1]
    simp only [up2, true_and]
    by_cases k0 : k = 0
    · subst k0; simp
    · by_cases k7 : k = 7
      · subst k7; simp
      · simp [k0, k7]
  rw [if_neg h0]
  by_cases h2 : i = b + 2
  · rw [if_pos h2, h2, e7, upc_ne (by omega), e6, upc_ne (by omega), e5, upc_ne (by omega), e4, upc_ne (by omega), e3, upc_at]
    simp [va_cpy]
  rw [if_neg h2]
  by_cases h3 : i = b + 3
  · rw [if_pos h3, h3, e7, upc_ne (by omega), e6, upc_ne (by omega), e5, upc_ne (by omega), e4, upc_at]
    simp [va_cpy]
  rw [if_neg h3]
  by_cases h4 : i = b + 4
  · rw [if_pos h4, h4, e7, upc_ne (by omega), e6, upc_ne (by omega), e5, upc_at]
    simp [va_cpy]
  rw [if_neg h4]
  by_cases h5 : i = b + 5
  · rw [if_pos h5, h5, e7, upc_ne (by omega), e6, upc_at]
    simp [va_cpy]
  rw [if_neg h5]
  by_cases h6 : i = b + 6
  · rw [if_pos h6, h6, e7, upc_at]
    simp [va_cpy]
  rw [if_neg h6, q7 i h0 h2 h3 h4 h5 h6]
set_option maxRecDepth 100000 in
set_option maxHeartbeats 1000000 in
theorem c_X3_isDead (gl : Launch) (Z : PL) (v : VV) (w : WV) (x0 : Int32) (k : Nat) (hk : x0 = nI k) (hk6 : k < 6) (b : Nat) (hE : isE b) : CT gl yX3_isDead cX3_isDead 2 (some .boolean) 0 0 Z [.ref (zg Z b), .int x0] v w (Qi Z (fun r u => r = bI (bt (v b 7) k) ∧ (v, w) = u)) := by
  refine g_met (by decide) (Nat.le_of_ble_eq_true rfl) ?_
  intro gp ge gs gm ga gb gh gc X h ls hl
  have hx := X.1
  have hb := X.2.1
  have hl : lv_has ls 2 [(0, .ref (zg Z b)), (1, .int x0)] := hl
  refine lv_aload_n hx hb dX3_isDead_0 rfl (lv_at hl 0 rfl) ?_
  refine g_geti X h (k := 7) (cE_0 hE) fr_RX3_38 rfl (by decide) dX3_isDead_1 ?_
  refine lv_iload_n hx hb dX3_isDead_4 rfl (lv_at hl 1 rfl) ?_
  refine lv_ishr hx hb dX3_isDead_5 ?_
  refine lv_iconst (v := 1) hx hb dX3_isDead_6 (by decide) ?_
  refine lv_iand hx hb dX3_isDead_7 ?_
  refine lv_if_eq (tgt := 15) hx hb dX3_isDead_8 (by decide) (fun c_8 => ?_) (fun c_8 => ?_)
  · skip
    refine lv_iconst (v := 0) hx hb dX3_isDead_15 (by decide) ?_
    exact g_nret X h dX3_isDead_16 rfl ⟨by rw [hk, b1_n (by omega), bI_0] at c_8; rw [c_8]; rfl, rfl⟩
  · skip
    refine lv_iconst (v := 1) hx hb dX3_isDead_11 (by decide) ?_
    refine lv_goto (tgt := 16) hx hb dX3_isDead_12 (by decide) ?_
    exact g_nret X h dX3_isDead_16 rfl ⟨by rw [hk, b1_n (by omega), bI_n] at c_8; rw [c_8]; rfl, rfl⟩

set_option maxRecDepth 100000 in
set_option maxHeartbeats 1000000 in
theorem c_X3_setDead (gl : Launch) (Z : PL) (v : VV) (w : WV) (x0 : Int32) (k : Nat) (hk : x0 = nI k) (x1 : Int32) (hk6 : k < 6) (b : Nat) (hE : isE b) : CT gl yX3_setDead cX3_setDead 3 none 0 0 Z [.ref (zg Z b), .int x0, .int x1] v w (Qv Z (fun u => (up2 v b 7 (sdB (v b 7) k x1), w) = u)) := by
  refine g_met (by decide) (Nat.le_of_ble_eq_true rfl) ?_
  intro gp ge gs gm ga gb gh gc X h ls hl
  have hx := X.1
  have hb := X.2.1
  have hl : lv_has ls 3 [(0, .ref (zg Z b)), (1, .int x0), (2, .int x1)] := hl
  refine lv_aload_n hx hb dX3_setDead_0 rfl (lv_at hl 0 rfl) ?_
  refine lv_iload_n hx hb dX3_setDead_1 rfl (lv_at hl 2 rfl) ?_
  refine lv_if_eq (tgt := 16) hx hb dX3_setDead_2 (by decide) (fun c_2 => ?_) (fun c_2 => ?_)
  · skip
    refine lv_aload_n hx hb dX3_setDead_16 rfl (lv_at hl 0 rfl) ?_
    refine g_geti X h (k := 7) (cE_0 hE) fr_RX3_38 rfl (by decide) dX3_setDead_17 ?_
    refine lv_iconst (v := 1) hx hb dX3_setDead_20 (by decide) ?_
    refine lv_iload_n hx hb dX3_setDead_21 rfl (lv_at hl 1 rfl) ?_
    refine lv_ishl hx hb dX3_setDead_22 ?_
    refine lv_iconst (v := (-1)) hx hb dX3_setDead_23 (by decide) ?_
    refine lv_ixor hx hb dX3_setDead_24 ?_
    refine lv_iand hx hb dX3_setDead_25 ?_
    refine g_puti X h (k := 7) (cE_0 hE) fp_RX3_38 rfl (by decide) dX3_setDead_26 (fun v26 H locs ev26 h => ?_)
    exact g_vret X h dX3_setDead_29 (by rw [ev26, sdB, if_pos c_2, hk])
  · skip
    refine lv_aload_n hx hb dX3_setDead_5 rfl (lv_at hl 0 rfl) ?_
    refine g_geti X h (k := 7) (cE_0 hE) fr_RX3_38 rfl (by decide) dX3_setDead_6 ?_
    refine lv_iconst (v := 1) hx hb dX3_setDead_9 (by decide) ?_
    refine lv_iload_n hx hb dX3_setDead_10 rfl (lv_at hl 1 rfl) ?_
    refine lv_ishl hx hb dX3_setDead_11 ?_
    refine lv_ior hx hb dX3_setDead_12 ?_
    refine lv_goto (tgt := 26) hx hb dX3_setDead_13 (by decide) ?_
    refine g_puti X h (k := 7) (cE_0 hE) fp_RX3_38 rfl (by decide) dX3_setDead_26 (fun v26 H locs ev26 h => ?_)
    exact g_vret X h dX3_setDead_29 (by rw [ev26, sdB, if_neg c_2, hk])

set_option maxRecDepth 100000 in
set_option maxHeartbeats 1000000 in
theorem c_X3_join (gl : Launch) (Z : PL) (v : VV) (w : WV) (x0 : Int32) (x1 : Int32) (x2 : Int32) (b : Nat) (hE : isE b) (n : Nat) (hn : v b 0 = nI n) (h6 : n < 6) : CT gl yX3_join cX3_join 6 (some .int) 1 22 Z [.ref (zg Z b), .int x0, .int x1, .int x2] v w (Qi Z (fun r u => r = nI n ∧ (joS v b n x0 x1 x2, w) = u)) := by
  refine g_met (by decide) (Nat.le_of_ble_eq_true rfl) ?_
  intro gp ge gs gm ga gb gh gc X h ls hl
  have hx := X.1
  have hb := X.2.1
  have hl : lv_has ls 6 [(0, .ref (zg Z b)), (1, .int x0), (2, .int x1), (3, .int x2)] := hl
  refine lv_aload_n hx hb dX3_join_0 rfl (lv_at hl 0 rfl) ?_
  refine g_geti X h (k := 0) (cE_0 hE) fr_RX3_30 rfl (by decide) dX3_join_1 ?_
  refine lv_topi (fun x4_4 ex4_4 => ?_)
  refine lv_istore (lv' := [(4, .int x4_4), (0, .ref (zg Z b)), (1, .int x0), (2, .int x1), (3, .int x2)]) hx hb dX3_join_4 hl (by decide) rfl (fun ls hl => ?_)
  refine lv_iload hx hb dX3_join_6 (lv_at hl 0 rfl) ?_
  refine lv_bipush (v := 6) hx hb dX3_join_8 (by decide) ?_
  refine lv_icmp_lt (tgt := 16) hx hb dX3_join_10 (by decide) (fun c_10 => ?_) (fun c_10 => ?_)
  · skip
    refine lv_aload_n hx hb dX3_join_16 rfl (lv_at hl 1 rfl) ?_
    refine g_getr X h (k := 2) (t := (b + 2)) (cE_0 hE) fr_RX3_15 rfl (by decide) (by decide) (by decide) dX3_join_17 ?_
    refine lv_iload hx hb dX3_join_20 (lv_at hl 0 rfl) ?_
    refine lv_iload_n hx hb dX3_join_22 rfl (lv_at hl 2 rfl) ?_
    refine g_iast X h (k := n) (cE_2 hE) (ex4_4.trans hn) (by omega) (by decide) dX3_join_23 (fun v23 H locs ev23 h => ?_)
    refine lv_aload_n hx hb dX3_join_24 rfl (lv_at hl 1 rfl) ?_
    refine g_getr X h (k := 3) (t := (b + 3)) (cE_0 hE) fr_RX3_18 rfl (by decide) (by decide) (by decide) dX3_join_25 ?_
    refine lv_iload hx hb dX3_join_28 (lv_at hl 0 rfl) ?_
    refine lv_iload_n hx hb dX3_join_30 rfl (lv_at hl 3 rfl) ?_
    refine g_iast X h (k := n) (cE_3 hE) (ex4_4.trans hn) (by omega) (by decide) dX3_join_31 (fun v31 H locs ev31 h => ?_)
    refine lv_aload_n hx hb dX3_join_32 rfl (lv_at hl 1 rfl) ?_
    refine g_getr X h (k := 4) (t := (b + 4)) (cE_0 hE) fr_RX3_21 rfl (by decide) (by decide) (by decide) dX3_join_33 ?_
    refine lv_iload hx hb dX3_join_36 (lv_at hl 0 rfl) ?_
    refine lv_iload_n hx hb dX3_join_38 rfl (lv_at hl 4 rfl) ?_
    refine g_iast X h (k := n) (cE_4 hE) (ex4_4.trans hn) (by omega) (by decide) dX3_join_39 (fun v39 H locs ev39 h => ?_)
    refine lv_aload_n hx hb dX3_join_40 rfl (lv_at hl 1 rfl) ?_
    refine g_getr X h (k := 5) (t := (b + 5)) (cE_0 hE) fr_RX3_24 rfl (by decide) (by decide) (by decide) dX3_join_41 ?_
    refine lv_iload hx hb dX3_join_44 (lv_at hl 0 rfl) ?_
    refine lv_iconst (v := 0) hx hb dX3_join_46 (by decide) ?_
    refine g_iast X h (k := n) (cE_5 hE) (ex4_4.trans hn) (by omega) (by decide) dX3_join_47 (fun v47 H locs ev47 h => ?_)
    refine lv_iconst (v := 0) hx hb dX3_join_48 (by decide) ?_
    refine lv_istore (lv' := [(5, .int 0), (4, .int x4_4), (0, .ref (zg Z b)), (1, .int x0), (2, .int x1), (3, .int x2)]) hx hb dX3_join_49 hl (by decide) rfl (fun ls hl => ?_)
    have L51 : ∀ (n51 : Nat) (i : Nat) (x5 : Int32) (va : VV), (x5 = nI i) → (i ≤ 4) → (va = upc v47 (b + 6) (zr (v47 (b + 6)) (4 * n) i)) → 4 - i < n51 → ∀ (H : Heap) (locs : List Loc), HS Z gs va w H locs → ∀ ls : Array Slot, lv_has ls 6 [(0, .ref (zg Z b)), (1, .int x0), (2, .int x1), (3, .int x2), (4, .int x4_4), (5, .int x5)] → W gp gl ge (rmm 1 22) gs gm ga gb gh gc H locs 0 0 (MQ gb (Qi Z (fun r u => r = nI n ∧ (joS v b n x0 x1 x2, w) = u)) ga gs 0 0 (zA Z)) (F0 gm 51 ls []) := by
      intro n51
      induction n51 with
      | zero => intro i x5 va hi hile hva hmu; exact absurd hmu (Nat.not_lt_zero _)
      | succ n51 ih51 =>
        intro i x5 va hi hile hva hmu51 H locs h ls hl
        have hva7 : va b 7 = v b 7 := by rw [hva, upc_ne (by omega), ev47, up2_ne (by omega), ev39, up2_ne (by omega), ev31, up2_ne (by omega), ev23, up2_ne (by omega)]
        have hva0 : va b 0 = nI n := by rw [hva, upc_ne (by omega), ev47, up2_ne (by omega), ev39, up2_ne (by omega), ev31, up2_ne (by omega), ev23, up2_ne (by omega)]; exact hn
        refine lv_iload hx hb dX3_join_51 (lv_at hl 5 rfl) ?_
        refine lv_iconst (v := 4) hx hb dX3_join_53 (by decide) ?_
        refine lv_icmp_ge (tgt := 76) hx hb dX3_join_54 (by decide) (fun c_54 => ?_) (fun c_54 => ?_)
        · skip
          have hi4 := nI_le1 (a := 4) (b := i) rfl hi (by omega) (by omega) c_54
          refine lv_aload_n hx hb dX3_join_76 rfl (lv_at hl 0 rfl) ?_
          refine lv_iload hx hb dX3_join_77 (lv_at hl 4 rfl) ?_
          refine lv_iconst (v := 0) hx hb dX3_join_79 (by decide) ?_
          refine g_kv h (g_runV X h (As := [.int x4_4, .int 0]) (rest := []) (c_X3_setDead gl Z va w x4_4 n (ex4_4.trans hn) 0 (by omega) b hE) mi_X3_setDead ml_RX3_34 (cE_0 hE) (by decide) kl3 rfl ⟨Nat.le_of_ble_eq_true rfl, Nat.le_of_ble_eq_true rfl⟩ rfl hl.1 rfl (Nat.le_of_ble_eq_true rfl) dX3_join_80) (fun v80 w80 H locs hp80 h => ?_)
          obtain ⟨hv80, rfl⟩ := Prod.mk.inj hp80
          replace hv80 := hv80.symm
          refine lv_aload_n hx hb dX3_join_83 rfl (lv_at hl 0 rfl) ?_
          refine lv_dup hx hb dX3_join_84 rfl ?_
          refine g_geti X h (k := 0) (cE_0 hE) fr_RX3_30 rfl (by decide) dX3_join_85 ?_
          refine lv_iconst (v := 1) hx hb dX3_join_88 (by decide) ?_
          refine lv_iadd hx hb dX3_join_89 ?_
          refine g_puti X h (k := 0) (cE_0 hE) fp_RX3_30 rfl (by decide) dX3_join_90 (fun v90 H locs ev90 h => ?_)
          refine lv_iload hx hb dX3_join_93 (lv_at hl 4 rfl) ?_
          refine g_iret X h dX3_join_95 ?_
          refine ⟨ex4_4.trans hn, congrArg (fun z => (z, w)) ?_⟩
          rw [ev90, hv80, hva7, up2_slot (by decide), hva0, hva, show i = 4 by omega, ev47, ev39, ev31, ev23, nI_1]
          exact joS_e hn
        · skip
          have hi4 := nI_le0 (a := 4) (b := i) rfl hi (by omega) (by omega) c_54
          refine lv_aload_n hx hb dX3_join_57 rfl (lv_at hl 0 rfl) ?_
          refine g_getr X h (k := 6) (t := (b + 6)) (cE_0 hE) fr_RX3_27 rfl (by decide) (by decide) (by decide) dX3_join_58 ?_
          refine lv_iload hx hb dX3_join_61 (lv_at hl 4 rfl) ?_
          refine lv_iconst (v := 4) hx hb dX3_join_63 (by decide) ?_
          refine lv_imul hx hb dX3_join_64 ?_
          refine lv_iload hx hb dX3_join_65 (lv_at hl 5 rfl) ?_
          refine lv_iadd hx hb dX3_join_67 ?_
          refine lv_iconst (v := 0) hx hb dX3_join_68 (by decide) ?_
          refine g_iast X h (k := (4 * n + i)) (cE_6 hE) (by rw [hi, ex4_4, hn]; exact (congrArg (fun z => z + nI i) ((Int32.mul_comm _ _).trans (pk_mul 4 n))).trans (nI_add _ _)) (by omega) (by decide) dX3_join_69 (fun v69 H locs ev69 h => ?_)
          refine lv_iinc (v := (x5 + 1)) (lv' := [(5, .int (x5 + 1)), (0, .ref (zg Z b)), (1, .int x0), (2, .int x1), (3, .int x2), (4, .int x4_4)]) hx hb dX3_join_70 hl (k := 5) rfl rfl (by decide) rfl (fun ls hl => ?_)
          refine lv_goto (tgt := 51) hx hb dX3_join_73 (by decide) ?_
          exact ih51 (i + 1) (x5 + 1) v69 (by rw [hi]; exact nI_1 i) (by omega) (by rw [ev69, hva, up2_upc, zr_succ]) (by omega) _ _ h ls (lv_sub hl [1, 2, 3, 4, 5, 0] rfl)
    exact L51 (4 - 0 + 1) 0 0 v47 rfl (by omega) (by rw [zr_0]; exact (upc_self _ _).symm) (Nat.lt_succ_self _) _ _ h ls (lv_sub hl [2, 3, 4, 5, 1, 0] rfl)
  · exact absurd (show x4_4 < 6 by rw [ex4_4, hn]; exact nI_lt (b := 6) h6 (by omega)) c_10

set_option maxRecDepth 100000 in
set_option maxHeartbeats 1000000 in
theorem c_X3_becomeLike (gl : Launch) (Z : PL) (v : VV) (w : WV) (b : Nat) (hE : isE b) (c : Nat) (hE2 : isE c) (hbc : b ≠ c) : CT gl yX3_becomeLike cX3_becomeLike 2 none 1 60 Z [.ref (zg Z b), .ref (zg Z c)] v w (Qv Z (fun u => (blP v b c, w) = u)) := by
  refine g_met (by decide) (Nat.le_of_ble_eq_true rfl) ?_
  intro gp ge gs gm ga gb gh gc X h ls hl
  have hx := X.1
  have hb := X.2.1
  have hl : lv_has ls 2 [(0, .ref (zg Z b)), (1, .ref (zg Z c))] := hl
  refine lv_aload_n hx hb dX3_becomeLike_0 rfl (lv_at hl 0 rfl) ?_
  refine lv_aload_n hx hb dX3_becomeLike_1 rfl (lv_at hl 1 rfl) ?_
  refine g_geti X h (k := 0) (cE_0 hE2) fr_RX3_30 rfl (by decide) dX3_becomeLike_2 ?_
  refine g_puti X h (k := 0) (cE_0 hE) fp_RX3_30 rfl (by decide) dX3_becomeLike_5 (fun v5 H locs ev5 h => ?_)
  refine lv_aload_n hx hb dX3_becomeLike_8 rfl (lv_at hl 0 rfl) ?_
  refine lv_aload_n hx hb dX3_becomeLike_9 rfl (lv_at hl 1 rfl) ?_
  refine g_geti X h (k := 7) (cE_0 hE2) fr_RX3_38 rfl (by decide) dX3_becomeLike_10 ?_
  refine g_puti X h (k := 7) (cE_0 hE) fp_RX3_38 rfl (by decide) dX3_becomeLike_13 (fun v13 H locs ev13 h => ?_)
  refine lv_aload_n hx hb dX3_becomeLike_16 rfl (lv_at hl 1 rfl) ?_
  refine g_getr X h (k := 2) (t := (c + 2)) (cE_0 hE2) fr_RX3_15 rfl (by decide) (by decide) (by decide) dX3_becomeLike_17 ?_
  refine lv_iconst (v := 0) hx hb dX3_becomeLike_20 (by decide) ?_
  refine lv_aload_n hx hb dX3_becomeLike_21 rfl (lv_at hl 0 rfl) ?_
  refine g_getr X h (k := 2) (t := (b + 2)) (cE_0 hE) fr_RX3_15 rfl (by decide) (by decide) (by decide) dX3_becomeLike_22 ?_
  refine lv_iconst (v := 0) hx hb dX3_becomeLike_25 (by decide) ?_
  refine lv_bipush (v := 6) hx hb dX3_becomeLike_26 (by decide) ?_
  refine g_copyi X h hl.1 ml_RX3_54 (a := 0) (b := 0) (n := 6) (cE_2 hE2) (cE_2 hE) rfl rfl rfl (by omega) (by omega) (by omega) (by omega) ⟨Nat.le_of_ble_eq_true rfl, Nat.le_of_ble_eq_true rfl⟩ (Nat.le_of_ble_eq_true rfl) dX3_becomeLike_28 (fun v28 H locs ev28 h => ?_)
  refine lv_aload_n hx hb dX3_becomeLike_31 rfl (lv_at hl 1 rfl) ?_
  refine g_getr X h (k := 3) (t := (c + 3)) (cE_0 hE2) fr_RX3_18 rfl (by decide) (by decide) (by decide) dX3_becomeLike_32 ?_
  refine lv_iconst (v := 0) hx hb dX3_becomeLike_35 (by decide) ?_
  refine lv_aload_n hx hb dX3_becomeLike_36 rfl (lv_at hl 0 rfl) ?_
  refine g_getr X h (k := 3) (t := (b + 3)) (cE_0 hE) fr_RX3_18 rfl (by decide) (by decide) (by decide) dX3_becomeLike_37 ?_
  refine lv_iconst (v := 0) hx hb dX3_becomeLike_40 (by decide) ?_
  refine lv_bipush (v := 6) hx hb dX3_becomeLike_41 (by decide) ?_
  refine g_copyi X h hl.1 ml_RX3_54 (a := 0) (b := 0) (n := 6) (cE_3 hE2) (cE_3 hE) rfl rfl rfl (by omega) (by omega) (by omega) (by omega) ⟨Nat.le_of_ble_eq_true rfl, Nat.le_of_ble_eq_true rfl⟩ (Nat.le_of_ble_eq_true rfl) dX3_becomeLike_43 (fun v43 H locs ev43 h => ?_)
  refine lv_aload_n hx hb dX3_becomeLike_46 rfl (lv_at hl 1 rfl) ?_
  refine g_getr X h (k := 4) (t := (c + 4)) (cE_0 hE2) fr_RX3_21 rfl (by decide) (by decide) (by decide) dX3_becomeLike_47 ?_
  refine lv_iconst (v := 0) hx hb dX3_becomeLike_50 (by decide) ?_
  refine lv_aload_n hx hb dX3_becomeLike_51 rfl (lv_at hl 0 rfl) ?_
  refine g_getr X h (k := 4) (t := (b + 4)) (cE_0 hE) fr_RX3_21 rfl (by decide) (by decide) (by decide) dX3_becomeLike_52 ?_
  refine lv_iconst (v := 0) hx hb dX3_becomeLike_55 (by decide) ?_
  refine lv_bipush (v := 6) hx hb dX3_becomeLike_56 (by decide) ?_
  refine g_copyi X h hl.1 ml_RX3_54 (a := 0) (b := 0) (n := 6) (cE_4 hE2) (cE_4 hE) rfl rfl rfl (by omega) (by omega) (by omega) (by omega) ⟨Nat.le_of_ble_eq_true rfl, Nat.le_of_ble_eq_true rfl⟩ (Nat.le_of_ble_eq_true rfl) dX3_becomeLike_58 (fun v58 H locs ev58 h => ?_)
  refine lv_aload_n hx hb dX3_becomeLike_61 rfl (lv_at hl 1 rfl) ?_
  refine g_getr X h (k := 5) (t := (c + 5)) (cE_0 hE2) fr_RX3_24 rfl (by decide) (by decide) (by decide) dX3_becomeLike_62 ?_
  refine lv_iconst (v := 0) hx hb dX3_becomeLike_65 (by decide) ?_
  refine lv_aload_n hx hb dX3_becomeLike_66 rfl (lv_at hl 0 rfl) ?_
  refine g_getr X h (k := 5) (t := (b + 5)) (cE_0 hE) fr_RX3_24 rfl (by decide) (by decide) (by decide) dX3_becomeLike_67 ?_
  refine lv_iconst (v := 0) hx hb dX3_becomeLike_70 (by decide) ?_
  refine lv_bipush (v := 6) hx hb dX3_becomeLike_71 (by decide) ?_
  refine g_copyi X h hl.1 ml_RX3_54 (a := 0) (b := 0) (n := 6) (cE_5 hE2) (cE_5 hE) rfl rfl rfl (by omega) (by omega) (by omega) (by omega) ⟨Nat.le_of_ble_eq_true rfl, Nat.le_of_ble_eq_true rfl⟩ (Nat.le_of_ble_eq_true rfl) dX3_becomeLike_73 (fun v73 H locs ev73 h => ?_)
  refine lv_aload_n hx hb dX3_becomeLike_76 rfl (lv_at hl 1 rfl) ?_
  refine g_getr X h (k := 6) (t := (c + 6)) (cE_0 hE2) fr_RX3_27 rfl (by decide) (by decide) (by decide) dX3_becomeLike_77 ?_
  refine lv_iconst (v := 0) hx hb dX3_becomeLike_80 (by decide) ?_
  refine lv_aload_n hx hb dX3_becomeLike_81 rfl (lv_at hl 0 rfl) ?_
  refine g_getr X h (k := 6) (t := (b + 6)) (cE_0 hE) fr_RX3_27 rfl (by decide) (by decide) (by decide) dX3_becomeLike_82 ?_
  refine lv_iconst (v := 0) hx hb dX3_becomeLike_85 (by decide) ?_
  refine lv_bipush (v := 24) hx hb dX3_becomeLike_86 (by decide) ?_
  refine g_copyi X h hl.1 ml_RX3_54 (a := 0) (b := 0) (n := 24) (cE_6 hE2) (cE_6 hE) rfl rfl rfl (by omega) (by omega) (by omega) (by omega) ⟨Nat.le_of_ble_eq_true rfl, Nat.le_of_ble_eq_true rfl⟩ (Nat.le_of_ble_eq_true rfl) dX3_becomeLike_88 (fun v88 H locs ev88 h => ?_)
  exact g_vret X h dX3_becomeLike_91 (congrArg (fun z => (z, w)) (blP_e hE hE2 hbc ev5 ev13 ev28 ev43 ev58 ev73 ev88).symm)
