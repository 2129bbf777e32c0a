/-! the class: people -/
def tfC (kd y g : Int32) : Int32 := if kd = 2 ∨ kd = 5 then g / 2 else if kd = 3 ∨ kd = 6 then g + y else g
def fgC (f : Nat → Int32) (n : Nat) : Nat → Int32 := fun j => if j < n then imax 0 (f j - 1) else f j
theorem fgC_0 (v : VV) (i : Nat) : upc v i (fgC (v i) 0) = v := by
  funext q
  show (if q = i then fgC (v i) 0 else v q) = v q
  split
  · rename_i e; rw [e]; funext j; exact if_neg (Nat.not_lt_zero _)
  · rfl
theorem fgC_s (v : VV) (i k : Nat) : up2 (upc v i (fgC (v i) k)) i k (if 0 < upc v i (fgC (v i) k) i k - 1 then upc v i (fgC (v i) k) i k - 1 else 0) = upc v i (fgC (v i) (k + 1)) := by
  funext q j
  have hs : upc v i (fgC (v i) k) i k = v i k := by rw [upc_at]; exact if_neg (Nat.lt_irrefl _)
  rw [hs]
  show (if q = i ∧ j = k then _ else (if q = i then fgC (v i) k else v q) j) = (if q = i then fgC (v i) (k + 1) else v q) j
  by_cases e : q = i
  · rw [if_pos e, if_pos e]
    show _ = if j < k + 1 then imax 0 (v i j - 1) else v i j
    by_cases e2 : j = k
    · rw [if_pos ⟨e, e2⟩, if_pos (show j < k + 1 by omega), e2]; rfl
    · rw [if_neg (fun y => e2 y.2)]
      show (if j < k then imax 0 (v i j - 1) else v i j) = _
      by_cases e3 : j < k
      · rw [if_pos e3, if_pos (by omega)]
      · rw [if_neg e3, if_neg (by omega)]
  · rw [if_neg (fun y => e y.1), if_neg e, if_neg e]
set_option maxRecDepth 100000 in
set_option maxHeartbeats 1000000 in
theorem c_X3_thanksFor (gl : Launch) (Z : PL) (v : VV) (w : WV) (x0 : Int32) (k : Nat) (hk : x0 = nI k) (x1 : Int32) (hk6 : k < 6) (b : Nat) (hE : isE b) : CT gl yX3_thanksFor cX3_thanksFor 3 (some .int) 0 0 Z [.ref (zg Z b), .int x0, .int x1] v w (Qi Z (fun r u => r = tfC (v (b + 2) k) (v (b + 3) k) x1 ∧ (v, w) = u)) := by
  refine g_met (by decide) (Nat.le_of_ble_eq_true rfl) ?_
  intro gp ge gs gm ga gb gh gc X h ls hl
  have hx := X.1
  have hb := X.2.1
  have hl : lv_has ls 3 [(0, .ref (zg Z b)), (1, .int x0), (2, .int x1)] := hl
  refine lv_aload_n hx hb dX3_thanksFor_0 rfl (lv_at hl 0 rfl) ?_
  refine g_getr X h (k := 2) (t := (b + 2)) (cE_0 hE) fr_RX3_15 rfl (by decide) (by decide) (by decide) dX3_thanksFor_1 ?_
  refine lv_iload_n hx hb dX3_thanksFor_4 rfl (lv_at hl 1 rfl) ?_
  refine g_iald X h (k := k) (cE_2 hE) hk (by omega) (by decide) dX3_thanksFor_5 ?_
  by_cases t6_2 : (v (b + 2) k) = 2
  · refine lv_tableIn (off := 34) (tgt := 40) hx hb dX3_thanksFor_6 (by rw [t6_2]; decide) (by rw [t6_2]; decide) (by rw [t6_2]; rfl) (by decide) ?_
    refine lv_iload_n hx hb dX3_thanksFor_40 rfl (lv_at hl 2 rfl) ?_
    refine lv_iconst (v := 2) hx hb dX3_thanksFor_41 (by decide) ?_
    refine lv_idiv hx hb dX3_thanksFor_42 (by decide) ?_
    exact g_iret X h dX3_thanksFor_43 ⟨by rw [tfC, if_pos (by simp [t6_2])], rfl⟩
  · skip
    by_cases t6_3 : (v (b + 2) k) = 3
    · refine lv_tableIn (off := 38) (tgt := 44) hx hb dX3_thanksFor_6 (by rw [t6_3]; decide) (by rw [t6_3]; decide) (by rw [t6_3]; rfl) (by decide) ?_
      refine lv_iload_n hx hb dX3_thanksFor_44 rfl (lv_at hl 2 rfl) ?_
      refine lv_aload_n hx hb dX3_thanksFor_45 rfl (lv_at hl 0 rfl) ?_
      refine g_getr X h (k := 3) (t := (b + 3)) (cE_0 hE) fr_RX3_18 rfl (by decide) (by decide) (by decide) dX3_thanksFor_46 ?_
      refine lv_iload_n hx hb dX3_thanksFor_49 rfl (lv_at hl 1 rfl) ?_
      refine g_iald X h (k := k) (cE_3 hE) hk (by omega) (by decide) dX3_thanksFor_50 ?_
      refine lv_iadd hx hb dX3_thanksFor_51 ?_
      exact g_iret X h dX3_thanksFor_52 ⟨by rw [tfC, if_neg (by rw [t6_3]; decide), if_pos (by simp [t6_3])], rfl⟩
    · skip
      by_cases t6_4 : (v (b + 2) k) = 4
      · refine lv_tableIn (off := 47) (tgt := 53) hx hb dX3_thanksFor_6 (by rw [t6_4]; decide) (by rw [t6_4]; decide) (by rw [t6_4]; rfl) (by decide) ?_
        refine lv_iload_n hx hb dX3_thanksFor_53 rfl (lv_at hl 2 rfl) ?_
        exact g_iret X h dX3_thanksFor_54 ⟨by rw [tfC, if_neg (by rw [t6_4]; decide), if_neg (by rw [t6_4]; decide)], rfl⟩
      · skip
        by_cases t6_5 : (v (b + 2) k) = 5
        · refine lv_tableIn (off := 34) (tgt := 40) hx hb dX3_thanksFor_6 (by rw [t6_5]; decide) (by rw [t6_5]; decide) (by rw [t6_5]; rfl) (by decide) ?_
          refine lv_iload_n hx hb dX3_thanksFor_40 rfl (lv_at hl 2 rfl) ?_
          refine lv_iconst (v := 2) hx hb dX3_thanksFor_41 (by decide) ?_
          refine lv_idiv hx hb dX3_thanksFor_42 (by decide) ?_
          exact g_iret X h dX3_thanksFor_43 ⟨by rw [tfC, if_pos (by simp [t6_5])], rfl⟩
        · skip
          by_cases t6_6 : (v (b + 2) k) = 6
          · refine lv_tableIn (off := 38) (tgt := 44) hx hb dX3_thanksFor_6 (by rw [t6_6]; decide) (by rw [t6_6]; decide) (by rw [t6_6]; rfl) (by decide) ?_
            refine lv_iload_n hx hb dX3_thanksFor_44 rfl (lv_at hl 2 rfl) ?_
            refine lv_aload_n hx hb dX3_thanksFor_45 rfl (lv_at hl 0 rfl) ?_
            refine g_getr X h (k := 3) (t := (b + 3)) (cE_0 hE) fr_RX3_18 rfl (by decide) (by decide) (by decide) dX3_thanksFor_46 ?_
            refine lv_iload_n hx hb dX3_thanksFor_49 rfl (lv_at hl 1 rfl) ?_
            refine g_iald X h (k := k) (cE_3 hE) hk (by omega) (by decide) dX3_thanksFor_50 ?_
            refine lv_iadd hx hb dX3_thanksFor_51 ?_
            exact g_iret X h dX3_thanksFor_52 ⟨by rw [tfC, if_neg (by rw [t6_6]; decide), if_pos (by simp [t6_6])], rfl⟩
          · skip
            have q0 := lv_neT t6_2 (a := 2) (by decide)
            have q1 := lv_neT t6_3 (a := 3) (by decide)
            have q2 := lv_neT t6_4 (a := 4) (by decide)
            have q3 := lv_neT t6_5 (a := 5) (by decide)
            have q4 := lv_neT t6_6 (a := 6) (by decide)
            refine lv_tableOut (tgt := 53) hx hb dX3_thanksFor_6 (by omega) (by decide) ?_
            refine lv_iload_n hx hb dX3_thanksFor_53 rfl (lv_at hl 2 rfl) ?_
            exact g_iret X h dX3_thanksFor_54 ⟨by rw [tfC, if_neg (by simp [t6_2, t6_5]), if_neg (by simp [t6_3, t6_6])], rfl⟩

set_option maxRecDepth 100000 in
set_option maxHeartbeats 1000000 in
theorem c_X3_give (gl : Launch) (Z : PL) (v : VV) (w : WV) (x0 : Int32) (k : Nat) (hk : x0 = nI k) (x1 : Int32) (hk6 : k < 6) (b : Nat) (hE : isE b) : CT gl yX3_give cX3_give 3 none 1 22 Z [.ref (zg Z b), .int x0, .int x1] v w (Qv Z (fun u => (up2 (up2 v (b + 5) k (imin 99999 (v (b + 5) k + x1))) (b + 4) k (imin 999 (v (b + 4) k + tfC (v (b + 2) k) (v (b + 3) k) x1)), w) = u)) := by
  refine g_met (by decide) (Nat.le_of_ble_eq_true rfl) ?_
  intro gp ge gs gm ga gb gh gc X h ls hl
  have hx := X.1
  have hb := X.2.1
  have hl : lv_has ls 3 [(0, .ref (zg Z b)), (1, .int x0), (2, .int x1)] := hl
  refine lv_aload_n hx hb dX3_give_0 rfl (lv_at hl 0 rfl) ?_
  refine g_getr X h (k := 5) (t := (b + 5)) (cE_0 hE) fr_RX3_24 rfl (by decide) (by decide) (by decide) dX3_give_1 ?_
  refine lv_iload_n hx hb dX3_give_4 rfl (lv_at hl 1 rfl) ?_
  refine lv_ldc hx hb X.ow (X.ts _ cn_RX3_41) dX3_give_5 ?_
  refine lv_aload_n hx hb dX3_give_7 rfl (lv_at hl 0 rfl) ?_
  refine g_getr X h (k := 5) (t := (b + 5)) (cE_0 hE) fr_RX3_24 rfl (by decide) (by decide) (by decide) dX3_give_8 ?_
  refine lv_iload_n hx hb dX3_give_11 rfl (lv_at hl 1 rfl) ?_
  refine g_iald X h (k := k) (cE_5 hE) hk (by omega) (by decide) dX3_give_12 ?_
  refine lv_iload_n hx hb dX3_give_13 rfl (lv_at hl 2 rfl) ?_
  refine lv_iadd hx hb dX3_give_14 ?_
  refine g_min X hl.1 ml_RX3_42 ⟨Nat.le_of_ble_eq_true rfl, Nat.le_of_ble_eq_true rfl⟩ (Nat.le_of_ble_eq_true rfl) dX3_give_15 ?_
  refine g_iast X h (k := k) (cE_5 hE) hk (by omega) (by decide) dX3_give_18 (fun v18 H locs ev18 h => ?_)
  refine lv_aload_n hx hb dX3_give_19 rfl (lv_at hl 0 rfl) ?_
  refine g_getr X h (k := 4) (t := (b + 4)) (cE_0 hE) fr_RX3_21 rfl (by decide) (by decide) (by decide) dX3_give_20 ?_
  refine lv_iload_n hx hb dX3_give_23 rfl (lv_at hl 1 rfl) ?_
  refine lv_sipush (v := 999) hx hb dX3_give_24 (by decide) ?_
  refine lv_aload_n hx hb dX3_give_27 rfl (lv_at hl 0 rfl) ?_
  refine g_getr X h (k := 4) (t := (b + 4)) (cE_0 hE) fr_RX3_21 rfl (by decide) (by decide) (by decide) dX3_give_28 ?_
  refine lv_iload_n hx hb dX3_give_31 rfl (lv_at hl 1 rfl) ?_
  refine g_iald X h (k := k) (cE_4 hE) hk (by omega) (by decide) dX3_give_32 ?_
  refine g_tr (y := (v (b + 4) k)) (by simp [ev18, up2, upc]) ?_
  refine lv_aload_n hx hb dX3_give_33 rfl (lv_at hl 0 rfl) ?_
  refine lv_iload_n hx hb dX3_give_34 rfl (lv_at hl 1 rfl) ?_
  refine lv_iload_n hx hb dX3_give_35 rfl (lv_at hl 2 rfl) ?_
  refine g_ki h (g_runV X h (As := [.int x0, .int x1]) (rest := [.int (v (b + 4) k), .int 999, .int x0, .ref (zg Z (b + 4))]) (c_X3_thanksFor gl Z v18 w x0 k hk x1 hk6 b hE) mi_X3_thanksFor ml_RX3_48 (cE_0 hE) (by decide) kl3 rfl ⟨Nat.le_of_ble_eq_true rfl, Nat.le_of_ble_eq_true rfl⟩ rfl hl.1 rfl (Nat.le_of_ble_eq_true rfl) dX3_give_36) (fun r36 v36 w36 H locs hp36 h => ?_)
  obtain ⟨hr36, hu36⟩ := hp36; obtain ⟨rfl, rfl⟩ := Prod.mk.inj hu36
  refine lv_iadd hx hb dX3_give_39 ?_
  refine g_min X hl.1 ml_RX3_42 ⟨Nat.le_of_ble_eq_true rfl, Nat.le_of_ble_eq_true rfl⟩ (Nat.le_of_ble_eq_true rfl) dX3_give_40 ?_
  refine g_iast X h (k := k) (cE_4 hE) hk (by omega) (by decide) dX3_give_43 (fun v43 H locs ev43 h => ?_)
  exact g_vret X h dX3_give_44 (by rw [ev43, hr36, ev18, up2_ne (by omega), up2_ne (by omega)]; rfl)

set_option maxRecDepth 100000 in
set_option maxHeartbeats 1000000 in
theorem c_X3_forgetSome (gl : Launch) (Z : PL) (v : VV) (w : WV) (b : Nat) (hE : isE b) (n : Nat) (hn : v b 0 = nI n) (h6 : n ≤ 6) : CT gl yX3_forgetSome cX3_forgetSome 2 none 1 21 Z [.ref (zg Z b)] v w (Qv Z (fun u => (upc v (b + 4) (fgC (v (b + 4)) n), w) = u)) := by
  refine g_met (by decide) (Nat.le_of_ble_eq_true rfl) ?_
  intro gp ge gs gm ga gb gh gc X h ls hl
  have hx := X.1
  have hb := X.2.1
  have hl : lv_has ls 2 [(0, .ref (zg Z b))] := hl
  refine lv_iconst (v := 0) hx hb dX3_forgetSome_0 (by decide) ?_
  refine lv_istore_n (lv' := [(1, .int 0), (0, .ref (zg Z b))]) hx hb dX3_forgetSome_1 rfl hl (by decide) rfl (fun ls hl => ?_)
  have L2 : ∀ (n2 : Nat) (i : Nat) (x1 : Int32) (va : VV), (x1 = nI i) → (i ≤ n) → (va = upc v (b + 4) (fgC (v (b + 4)) i)) → n - i < n2 → ∀ (H : Heap) (locs : List Loc), HS Z gs va w H locs → ∀ ls : Array Slot, lv_has ls 2 [(0, .ref (zg Z b)), (1, .int x1)] → W gp gl ge (rmm 1 21) gs gm ga gb gh gc H locs 0 0 (MQ gb (Qv Z (fun u => (upc v (b + 4) (fgC (v (b + 4)) n), w) = u)) ga gs 0 0 (zA Z)) (F0 gm 2 ls []) := by
    intro n2
    induction n2 with
    | zero => intro i x1 va hx1 hi hva hmu; exact absurd hmu (Nat.not_lt_zero _)
    | succ n2 ih2 =>
      intro i x1 va hx1 hi hva hmu2 H locs h ls hl
      have hn2 : va b 0 = nI n := by rw [hva, upc_ne (by omega)]; exact hn
      refine lv_iload_n hx hb dX3_forgetSome_2 rfl (lv_at hl 1 rfl) ?_
      refine lv_aload_n hx hb dX3_forgetSome_3 rfl (lv_at hl 0 rfl) ?_
      refine g_geti X h (k := 0) (cE_0 hE) fr_RX3_30 rfl (by decide) dX3_forgetSome_4 ?_
      refine lv_icmp_ge (tgt := 34) hx hb dX3_forgetSome_7 (by decide) (fun c_7 => ?_) (fun c_7 => ?_)
      · skip
        have hin := nI_le1 (a := n) (b := i) hn2 hx1 (by omega) (by omega) c_7
        exact g_vret X h dX3_forgetSome_34 (by rw [hva, show i = n by omega])
      · skip
        have hin := nI_le0 (a := n) (b := i) hn2 hx1 (by omega) (by omega) c_7
        refine lv_aload_n hx hb dX3_forgetSome_10 rfl (lv_at hl 0 rfl) ?_
        refine g_getr X h (k := 4) (t := (b + 4)) (cE_0 hE) fr_RX3_21 rfl (by decide) (by decide) (by decide) dX3_forgetSome_11 ?_
        refine lv_iload_n hx hb dX3_forgetSome_14 rfl (lv_at hl 1 rfl) ?_
        refine lv_iconst (v := 0) hx hb dX3_forgetSome_15 (by decide) ?_
        refine lv_aload_n hx hb dX3_forgetSome_16 rfl (lv_at hl 0 rfl) ?_
        refine g_getr X h (k := 4) (t := (b + 4)) (cE_0 hE) fr_RX3_21 rfl (by decide) (by decide) (by decide) dX3_forgetSome_17 ?_
        refine lv_iload_n hx hb dX3_forgetSome_20 rfl (lv_at hl 1 rfl) ?_
        refine g_iald X h (k := i) (cE_4 hE) hx1 (by omega) (by decide) dX3_forgetSome_21 ?_
        refine lv_iconst (v := 1) hx hb dX3_forgetSome_22 (by decide) ?_
        refine lv_isub hx hb dX3_forgetSome_23 ?_
        refine g_max X hl.1 ml_RX3_51 ⟨Nat.le_of_ble_eq_true rfl, Nat.le_of_ble_eq_true rfl⟩ (Nat.le_of_ble_eq_true rfl) dX3_forgetSome_24 ?_
        refine g_iast X h (k := i) (cE_4 hE) hx1 (by omega) (by decide) dX3_forgetSome_27 (fun v27 H locs ev27 h => ?_)
        refine lv_iinc (v := (x1 + 1)) (lv' := [(1, .int (x1 + 1)), (0, .ref (zg Z b))]) hx hb dX3_forgetSome_28 hl (k := 1) rfl rfl (by decide) rfl (fun ls hl => ?_)
        refine lv_goto (tgt := 2) hx hb dX3_forgetSome_31 (by decide) ?_
        exact ih2 (i + 1) (x1 + 1) v27 (by rw [hx1]; exact nI_1 _) (by omega) (by rw [ev27, hva]; exact fgC_s v (b + 4) i) (by omega) _ _ h ls (lv_sub hl [1, 0] rfl)
  exact L2 (n - 0 + 1) 0 0 v rfl (Nat.zero_le _) (fgC_0 v (b + 4)).symm (Nat.lt_succ_self _) _ _ h ls (lv_sub hl [1, 0] rfl)
