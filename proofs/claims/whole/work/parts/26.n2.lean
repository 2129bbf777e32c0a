/-! the class: people -/
def tfC (kd y g : Int32) : Int32 := if kd = 2 ∨ kd = 5 then g / 2 else if kd = 3 ∨ kd = 6 then g + y else g
set_option maxRecDepth 100000 in
set_option maxHeartbeats 1000000 in
theorem c_X3_thanksFor (gl : Launch) (Z : PL) (v : VV) (w : WV) (x0 : Int32) (k : Nat) (hk : x0 = nI k) (x1 : Int32) (hk6 : k < 6) (b : Nat) (hE : isE b) : CT gl yX3_thanksFor cX3_thanksFor 3 (some .int) 0 0 Z [.ref (zg Z b), .int x0, .int x1] v w (Qi Z (fun r u => r = tfC (v (b + 2) k) (v (b + 3) k) x1 ∧ (v, w) = u)) := by
  refine g_met (by decide) (Nat.le_of_ble_eq_true rfl) ?_
  intro gp ge gs gm ga gb gh gc X h ls hl
  have hx := X.1
  have hb := X.2.1
  have hl : lv_has ls 3 [(0, .ref (zg Z b)), (1, .int x0), (2, .int x1)] := hl
  refine lv_aload_n hx hb dX3_thanksFor_0 rfl (lv_at hl 0 rfl) ?_
  refine g_getr X h (k := 2) (t := (b + 2)) (cE_0 hE) fr_RX3_15 rfl (by decide) (by decide) (by decide) dX3_thanksFor_1 ?_
  refine lv_iload_n hx hb dX3_thanksFor_4 rfl (lv_at hl 1 rfl) ?_
  refine g_iald X h (k := k) (cE_2 hE) hk (by omega) (by decide) dX3_thanksFor_5 ?_
  by_cases t6_2 : (v (b + 2) k) = 2
  · refine lv_tableIn (off := 34) (tgt := 40) hx hb dX3_thanksFor_6 (by rw [t6_2]; decide) (by rw [t6_2]; decide) (by rw [t6_2]; rfl) (by decide) ?_
    refine lv_iload_n hx hb dX3_thanksFor_40 rfl (lv_at hl 2 rfl) ?_
    refine lv_iconst (v := 2) hx hb dX3_thanksFor_41 (by decide) ?_
    refine lv_idiv hx hb dX3_thanksFor_42 (by decide) ?_
    exact g_iret X h dX3_thanksFor_43 ⟨by rw [tfC, if_pos (by simp [t6_2])], rfl⟩
  · skip
    by_cases t6_3 : (v (b + 2) k) = 3
    · refine lv_tableIn (off := 38) (tgt := 44) hx hb dX3_thanksFor_6 (by rw [t6_3]; decide) (by rw [t6_3]; decide) (by rw [t6_3]; rfl) (by decide) ?_
      refine lv_iload_n hx hb dX3_thanksFor_44 rfl (lv_at hl 2 rfl) ?_
      refine lv_aload_n hx hb dX3_thanksFor_45 rfl (lv_at hl 0 rfl) ?_
      refine g_getr X h (k := 3) (t := (b + 3)) (cE_0 hE) fr_RX3_18 rfl (by decide) (by decide) (by decide) dX3_thanksFor_46 ?_
      refine lv_iload_n hx hb dX3_thanksFor_49 rfl (lv_at hl 1 rfl) ?_
      refine g_iald X h (k := k) (cE_3 hE) hk (by omega) (by decide) dX3_thanksFor_50 ?_
      refine lv_iadd hx hb dX3_thanksFor_51 ?_
      exact g_iret X h dX3_thanksFor_52 ⟨by rw [tfC, if_neg (by rw [t6_3]; decide), if_pos (by simp [t6_3])], rfl⟩
    · skip
      by_cases t6_4 : (v (b + 2) k) = 4
      · refine lv_tableIn (off := 47) (tgt := 53) hx hb dX3_thanksFor_6 (by rw [t6_4]; decide) (by rw [t6_4]; decide) (by rw [t6_4]; rfl) (by decide) ?_
        refine lv_iload_n hx hb dX3_thanksFor_53 rfl (lv_at hl 2 rfl) ?_
        exact g_iret X h dX3_thanksFor_54 ⟨by rw [tfC, if_neg (by rw [t6_4]; decide), if_neg (by rw [t6_4]; decide)], rfl⟩
      · skip
        by_cases t6_5 : (v (b + 2) k) = 5
        · refine lv_tableIn (off := 34) (tgt := 40) hx hb dX3_thanksFor_6 (by rw [t6_5]; decide) (by rw [t6_5]; decide) (by rw [t6_5]; rfl) (by decide) ?_
          refine lv_iload_n hx hb dX3_thanksFor_40 rfl (lv_at hl 2 rfl) ?_
          refine lv_iconst (v := 2) hx hb dX3_thanksFor_41 (by decide) ?_
          refine lv_idiv hx hb dX3_thanksFor_42 (by decide) ?_
          exact g_iret X h dX3_thanksFor_43 ⟨by rw [tfC, if_pos (by simp [t6_5])], rfl⟩
        · skip
          by_cases t6_6 : (v (b + 2) k) = 6
          · refine lv_tableIn (off := 38) (tgt := 44) hx hb dX3_thanksFor_6 (by rw [t6_6]; decide) (by rw [t6_6]; decide) (by rw [t6_6]; rfl) (by decide) ?_
            refine lv_iload_n hx hb dX3_thanksFor_44 rfl (lv_at hl 2 rfl) ?_
            refine lv_aload_n hx hb dX3_thanksFor_45 rfl (lv_at hl 0 rfl) ?_
            refine g_getr X h (k := 3) (t := (b + 3)) (cE_0 hE) fr_RX3_18 rfl (by decide) (by decide) (by decide) dX3_thanksFor_46 ?_
            refine lv_iload_n hx hb dX3_thanksFor_49 rfl (lv_at hl 1 rfl) ?_
            refine g_iald X h (k := k) (cE_3 hE) hk (by omega) (by decide) dX3_thanksFor_50 ?_
            refine lv_iadd hx hb dX3_thanksFor_51 ?_
            exact g_iret X h dX3_thanksFor_52 ⟨by rw [tfC, if_neg (by rw [t6_6]; decide), if_pos (by simp [t6_6])], rfl⟩
          · skip
            have q0 := lv_neT t6_2 (a := 2) (by decide)
            have q1 := lv_neT t6_3 (a := 3) (by decide)
            have q2 := lv_neT t6_4 (a := 4) (by decide)
            have q3 := lv_neT t6_5 (a := 5) (by decide)
            have q4 := lv_neT t6_6 (a := 6) (by decide)
            refine lv_tableOut (tgt := 53) hx hb dX3_thanksFor_6 (by omega) (by decide) ?_
            refine lv_iload_n hx hb dX3_thanksFor_53 rfl (lv_at hl 2 rfl) ?_
            exact g_iret X h dX3_thanksFor_54 ⟨by rw [tfC, if_neg (by simp [t6_2, t6_5]), if_neg (by simp [t6_3, t6_6])], rfl⟩

set_option maxRecDepth 100000 in
set_option maxHeartbeats 1000000 in
theorem c_X3_give (gl : Launch) (Z : PL) (v : VV) (w : WV) (x0 : Int32) (k : Nat) (hk : x0 = nI k) (x1 : Int32) (hk6 : k < 6) (b : Nat) (hE : isE b) : CT gl yX3_give cX3_give 3 none 1 22 Z [.ref (zg Z b), .int x0, .int x1] v w (Qv Z (fun u => (up2 (up2 v (b + 5) k (imin 99999 (v (b + 5) k + x1))) (b + 4) k (imin 999 (v (b + 4) k + tfC (v (b + 2) k) (v (b + 3) k) x1)), w) = u)) := by
  refine g_met (by decide) (Nat.le_of_ble_eq_true rfl) ?_
  intro gp ge gs gm ga gb gh gc X h ls hl
  have hx := X.1
  have hb := X.2.1
  have hl : lv_has ls 3 [(0, .ref (zg Z b)), (1, .int x0), (2, .int x1)] := hl
  refine lv_aload_n hx hb dX3_give_0 rfl (lv_at hl 0 rfl) ?_
  refine g_getr X h (k := 5) (t := (b + 5)) (cE_0 hE) fr_RX3_24 rfl (by decide) (by decide) (by decide) dX3_give_1 ?_
  refine lv_iload_n hx hb dX3_give_4 rfl (lv_at hl 1 rfl) ?_
  refine lv_ldc hx hb X.ow (X.ts _ cn_RX3_41) dX3_give_5 ?_
  refine lv_aload_n hx hb dX3_give_7 rfl (lv_at hl 0 rfl) ?_
  refine g_getr X h (k := 5) (t := (b + 5)) (cE_0 hE) fr_RX3_24 rfl (by decide) (by decide) (by decide) dX3_give_8 ?_
  refine lv_iload_n hx hb dX3_give_11 rfl (lv_at hl 1 rfl) ?_
  refine g_iald X h (k := k) (cE_5 hE) hk (by omega) (by decide) dX3_give_12 ?_
  refine lv_iload_n hx hb dX3_give_13 rfl (lv_at hl 2 rfl) ?_
  refine lv_iadd hx hb dX3_give_14 ?_
  refine g_min X hl.1 ml_RX3_42 ⟨Nat.le_of_ble_eq_true rfl, Nat.le_of_ble_eq_true rfl⟩ (Nat.le_of_ble_eq_true rfl) dX3_give_15 ?_
  refine g_iast X h (k := k) (cE_5 hE) hk (by omega) (by decide) dX3_give_18 (fun v18 H locs ev18 h => ?_)
  refine lv_aload_n hx hb dX3_give_19 rfl (lv_at hl 0 rfl) ?_
  refine g_getr X h (k := 4) (t := (b + 4)) (cE_0 hE) fr_RX3_21 rfl (by decide) (by decide) (by decide) dX3_give_20 ?_
  refine lv_iload_n hx hb dX3_give_23 rfl (lv_at hl 1 rfl) ?_
  refine lv_sipush (v := 999) hx hb dX3_give_24 (by decide) ?_
  refine lv_aload_n hx hb dX3_give_27 rfl (lv_at hl 0 rfl) ?_
  refine g_getr X h (k := 4) (t := (b + 4)) (cE_0 hE) fr_RX3_21 rfl (by decide) (by decide) (by decide) dX3_give_28 ?_
  refine lv_iload_n hx hb dX3_give_31 rfl (lv_at hl 1 rfl) ?_
  refine g_iald X h (k := k) (cE_4 hE) hk (by omega) (by decide) dX3_give_32 ?_
  refine g_tr (y := (v (b + 4) k)) (by simp [ev18, up2, upc]) ?_
  refine lv_aload_n hx hb dX3_give_33 rfl (lv_at hl 0 rfl) ?_
  refine lv_iload_n hx hb dX3_give_34 rfl (lv_at hl 1 rfl) ?_
  refine lv_iload_n hx hb dX3_give_35 rfl (lv_at hl 2 rfl) ?_
  refine g_ki h (g_runV X h (As := [.int x0, .int x1]) (rest := [.int (v (b + 4) k), .int 999, .int x0, .ref (zg Z (b + 4))]) (c_X3_thanksFor gl Z v18 w x0 k hk x1 hk6 b hE) mi_X3_thanksFor ml_RX3_48 (cE_0 hE) (by decide) kl3 rfl ⟨Nat.le_of_ble_eq_true rfl, Nat.le_of_ble_eq_true rfl⟩ rfl hl.1 rfl (Nat.le_of_ble_eq_true rfl) dX3_give_36) (fun r36 v36 w36 H locs hp36 h => ?_)
  obtain ⟨hr36, hu36⟩ := hp36; obtain ⟨rfl, rfl⟩ := Prod.mk.inj hu36
  refine lv_iadd hx hb dX3_give_39 ?_
  refine g_min X hl.1 ml_RX3_42 ⟨Nat.le_of_ble_eq_true rfl, Nat.le_of_ble_eq_true rfl⟩ (Nat.le_of_ble_eq_true rfl) dX3_give_40 ?_
  refine g_iast X h (k := k) (cE_4 hE) hk (by omega) (by decide) dX3_give_43 (fun v43 H locs ev43 h => ?_)
  exact g_vret X h dX3_give_44 (by rw [ev43, hr36, ev18, up2_ne (by omega), up2_ne (by omega)]; rfl)
