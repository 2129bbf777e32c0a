def r6 (f : Nat → Int32) : Nat → Int32 := upd (upd (upd (upd (upd (upd (fun _ => 0) 0 (f 0)) 1 (f 1)) 2 (f 2)) 3 (f 3)) 4 (f 4)) 5 (f 5)
/-- the blocks that the constructors make, the newest cell first -/
def bA (k : Nat → ClassId) (o : Nat) (a : Nat → Nat) : va_W := [(a 1, .inl (k 9, 20, .inl (fun _ => 0))), (o, .inr (0, [.ref (a 1), .int 0, .int 0, .int 0, .int 0]))]
def bL (k : Nat → ClassId) (o : Nat) (a : Nat → Nat) : va_W := [(a 6, .inl (k 9, 16, .inl (fun _ => 0))), (a 5, .inl (k 9, 100, .inl (fun _ => 0))), (a 4, .inl (k 9, 100, .inl (fun _ => 0))), (a 3, .inl (k 9, 100, .inl (fun _ => 0))), (a 2, .inl (k 9, 10, .inl (fun _ => 0))), (a 1, .inl (k 9, 10, .inl (fun _ => 0))), (o, .inr (1, [.int 5, .int 10, .int 1, .int 0, .ref (a 1), .ref (a 2), .ref (a 3), .ref (a 4), .ref (a 5), .int 0, .ref (a 6)]))]
def bQ (k : Nat → ClassId) (n o : Nat) (a : Nat → Nat) : va_W := [(a 2, .inl (k 9, n, .inl (fun _ => 0))), (a 1, .inl (k 9, n, .inl (fun _ => 0))), (o, .inr (2, [.ref (a 1), .ref (a 2), .int 0]))]
def bE (k : Nat → ClassId) (o : Nat) (a : Nat → Nat) : va_W := [(a 6, .inl (k 9, 24, .inl (fun _ => 0))), (a 5, .inl (k 9, 6, .inl (fun _ => 0))), (a 4, .inl (k 9, 6, .inl (fun _ => 0))), (a 3, .inl (k 9, 6, .inl (fun _ => 0))), (a 2, .inl (k 9, 6, .inl (fun _ => 0))), (a 1, .inl (k 9, 6, .inl (r6 nI))), (o, .inr (3, [.int 0, .ref (a 1), .ref (a 2), .ref (a 3), .ref (a 4), .ref (a 5), .ref (a 6), .int 0]))]
def bT (k : Nat → ClassId) (o : Nat) (a : Nat → Nat) : va_W := [(a 3, .inl (k 12, 360, .inr (.inl (fun _ => 0)))), (a 2, .inl (k 9, 6, .inl (fun _ => 0))), (a 1, .inl (k 9, 6, .inl (r6 (fun _ => -1)))), (o, .inr (4, [.ref (a 1), .ref (a 2), .ref (a 3)]))]
def bX (k : Nat → ClassId) (o : Nat) (a : Nat → Nat) : va_W := [(a 1, .inl (k 10, 100, .inl (fun _ => 0))), (o, .inr (5, [.ref (a 1), .int 0, .int 0]))]
def bW (k : Nat → ClassId) (ld o : Nat) (a : Nat → Nat) : va_W := bQ k 8 (a 16) (fun i => a (16 + i)) ++ (bQ k 10 (a 13) (fun i => a (13 + i)) ++ (bQ k 5 (a 10) (fun i => a (10 + i)) ++ ((a 9, .inl (k 9, 6, .inl (fun _ => 0))) :: (a 8, .inl (k 9, 6, .inl (fun _ => 0))) :: (bE k (a 1) (fun i => a (1 + i)) ++ [(o, .inr (6, [.ref (a 1), .int 50, .int 0, .int 0, .ref (a 8), .int 0, .ref ld, .int 5, .int 10, .int 1, .ref (a 9), .ref (a 10), .ref (a 13), .ref (a 16)]))]))))
def larr (a : Nat → Nat) : Nat → Option Nat := va_up (va_up (va_up (va_up (va_up (va_up (fun _ => none) 0 (some (a 9))) 1 (some (a 16))) 2 (some (a 23))) 3 (some (a 30))) 4 (some (a 37))) 5 (some (a 44))
def bC (k : Nat → ClassId) (o : Nat) (a : Nat → Nat) : va_W := bL k (a 44) (fun i => a (44 + i)) ++ (bL k (a 37) (fun i => a (37 + i)) ++ (bL k (a 30) (fun i => a (30 + i)) ++ (bL k (a 23) (fun i => a (23 + i)) ++ (bL k (a 16) (fun i => a (16 + i)) ++ (bL k (a 9) (fun i => a (9 + i)) ++ (bT k (a 112) (fun i => a (112 + i)) ++ (bA k (a 110) (fun i => a (110 + i)) ++ (bX k (a 108) (fun i => a (108 + i)) ++ ((a 1, .inl (k 13, 6, .inr (.inr (.inr (.inr (larr a)))))) :: (bW k (a 2) (a 89) (fun i => a (89 + i)) ++ (bW k (a 2) (a 70) (fun i => a (70 + i)) ++ (bW k (a 2) (a 51) (fun i => a (51 + i)) ++ (bL k (a 2) (fun i => a (2 + i)) ++ [(o, .inr (7, [.ref (a 2), .ref (a 51), .ref (a 70), .ref (a 89), .int 0, .ref (a 1), .int 0, .ref (a 108), .ref (a 110), .ref (a 112)]))]))))))))))))) 
def bM (k : Nat → ClassId) (o : Nat) (a : Nat → Nat) : va_W := [(a 28, .inl (k 12, 360, .inr (.inl (fun _ => 0)))), (a 27, .inl (k 9, 6, .inl (fun _ => 0))), (a 26, .inl (k 9, 6, .inl (r6 (fun _ => -1)))), (a 25, .inl (k 9, 20, .inl (fun _ => 0))), (a 24, .inl (k 9, 50, .inl (fun _ => 0))), (a 23, .inl (k 9, 64, .inl (fun _ => 0))), (a 22, .inl (k 9, 64, .inl (fun _ => 0))), (a 21, .inl (k 9, 8, .inl (fun _ => 0))), (a 20, .inl (k 9, 8, .inl (fun _ => 0))), (a 19, .inl (k 9, 10, .inl (fun _ => 0))), (a 18, .inl (k 9, 10, .inl (fun _ => 0))), (a 17, .inl (k 9, 5, .inl (fun _ => 0))), (a 16, .inl (k 9, 5, .inl (fun _ => 0))), (a 15, .inl (k 11, 100, .inl (fun _ => 0))), (a 14, .inl (k 9, 1000, .inl (fun _ => 0))), (a 13, .inl (k 9, 60, .inl (fun _ => 0))), (a 12, .inl (k 9, 60, .inl (fun _ => 0))), (a 11, .inl (k 9, 60, .inl (fun _ => 0))), (a 10, .inl (k 9, 60, .inl (fun _ => 0))), (a 9, .inl (k 9, 6, .inl (fun _ => 0))), (a 8, .inl (k 9, 100, .inl (fun _ => 0))), (a 7, .inl (k 9, 6, .inl (fun _ => 0))), (a 6, .inl (k 9, 24, .inl (fun _ => 0))), (a 5, .inl (k 9, 6, .inl (fun _ => 0))), (a 4, .inl (k 9, 6, .inl (fun _ => 0))), (a 3, .inl (k 9, 6, .inl (fun _ => 0))), (a 2, .inl (k 9, 6, .inl (fun _ => 0))), (a 1, .inl (k 9, 6, .inl (fun _ => 0))), (o, .inr (8, [.int 0, .ref (a 1), .ref (a 2), .ref (a 3), .ref (a 4), .ref (a 5), .ref (a 6), .int 50, .int 0, .int 0, .ref (a 7), .int 0, .int 0, .ref (a 8), .int 0, .int (-1), .ref (a 9), .ref (a 10), .ref (a 11), .ref (a 12), .ref (a 13), .ref (a 14), .int 0, .int 0, .int 0, .int 0, .int 0, .ref (a 15), .int 0, .ref (a 16), .ref (a 17), .int 0, .ref (a 18), .ref (a 19), .int 0, .ref (a 20), .ref (a 21), .int (-1), .int (-1), .ref (a 22), .int 0, .ref (a 23), .ref (a 24), .int 0, .ref (a 25), .ref (a 26), .ref (a 27), .ref (a 28)]))]
theorem gs_at {ws : va_W} {i : Nat} {y x : Nat × va_E} (h : ws[i]? = some y) : (ws.set i x)[i]? = some x := by
  have hl := (List.getElem?_eq_some_iff.mp h).1
  rw [List.getElem?_set_self hl]
theorem gs_ne {ws : va_W} {i j : Nat} {y x : Nat × va_E} (hij : i ≠ j) (h : ws[j]? = some y) : (ws.set i x)[j]? = some y := by
  rw [List.getElem?_set_ne hij]
  exact h
set_option maxHeartbeats 4000000 in
theorem c_X1_clear_k (l : Launch) (D : va_G) (k : Nat → ClassId) (N0 : Nat) (ws : va_W) (i o : Nat) (fs : List Value) (hi : ws[i]? = some (o, .inr (1, fs))) (hn : fs.length = 11) : CK l yX1_clear cX1_clear 1 0 0 0 0 D k N0 [.ref o] ws (fun _ => ws.set i (o, .inr (1, ((((fs.set 0 (.int 5)).set 1 (.int 10)).set 2 (.int 1)).set 3 (.int 0)).set 9 (.int 0)))) := by
  refine k_met (by decide) (Nat.le_of_ble_eq_true rfl) ?_
  intro p e s m args below meth c X hr hlk hin h ls hl
  refine lv_aload_n X.1 X.2.1 dX1_clear_0 rfl (lv_at hl 0 rfl) ?_
  refine lv_iconst (v := 5) X.1 X.2.1 dX1_clear_1 (by decide) ?_
  refine k_put X h fp_RX1_33 i (hi) rfl rfl (by omega) dX1_clear_2 (fun H _ h => ?_)
  refine lv_aload_n X.1 X.2.1 dX1_clear_5 rfl (lv_at hl 0 rfl) ?_
  refine lv_bipush (v := 10) X.1 X.2.1 dX1_clear_6 (by decide) ?_
  refine k_put X h fp_RX1_37 i (gs_at (hi)) rfl rfl (by simp only [List.length_set]; omega) dX1_clear_8 (fun H _ h => ?_)
  refine lv_aload_n X.1 X.2.1 dX1_clear_11 rfl (lv_at hl 0 rfl) ?_
  refine lv_iconst (v := 1) X.1 X.2.1 dX1_clear_12 (by decide) ?_
  refine k_put X h fp_RX1_40 i (gs_at (gs_at (hi))) rfl rfl (by simp only [List.length_set]; omega) dX1_clear_13 (fun H _ h => ?_)
  refine lv_aload_n X.1 X.2.1 dX1_clear_16 rfl (lv_at hl 0 rfl) ?_
  refine lv_iconst (v := 0) X.1 X.2.1 dX1_clear_17 (by decide) ?_
  refine k_put X h fp_RX1_43 i (gs_at (gs_at (gs_at (hi)))) rfl rfl (by simp only [List.length_set]; omega) dX1_clear_18 (fun H _ h => ?_)
  refine lv_aload_n X.1 X.2.1 dX1_clear_21 rfl (lv_at hl 0 rfl) ?_
  refine lv_iconst (v := 0) X.1 X.2.1 dX1_clear_22 (by decide) ?_
  refine k_put X h fp_RX1_46 i (gs_at (gs_at (gs_at (gs_at (hi))))) rfl rfl (by simp only [List.length_set]; omega) dX1_clear_23 (fun H _ h => ?_)
  exact k_vret X hr hlk h (fun _ => 0) (by simp only [List.set_set]) (Nat.le_refl _) (Nat.le_refl _) dX1_clear_26
set_option maxHeartbeats 4000000 in
theorem c_X6_settle_k (l : Launch) (D : va_G) (k : Nat → ClassId) (N0 : Nat) (ws : va_W) (i o j ld : Nat) (fs lf : List Value) (hi : ws[i]? = some (o, .inr (6, fs))) (hj : ws[j]? = some (ld, .inr (1, lf))) (hij : i ≠ j) (hn : fs.length = 14) (h0 : lf[0]? = some (.int 5)) (h1 : lf[1]? = some (.int 10)) (h2 : lf[2]? = some (.int 1)) : CK l yX6_settle cX6_settle 2 0 0 0 0 D k N0 [.ref o, .ref ld] ws (fun _ => ws.set i (o, .inr (6, (((fs.set 6 (.ref ld)).set 7 (.int 5)).set 8 (.int 10)).set 9 (.int 1)))) := by
  refine k_met (by decide) (Nat.le_of_ble_eq_true rfl) ?_
  intro p e s m args below meth c X hr hlk hin h ls hl
  refine lv_aload_n X.1 X.2.1 dX6_settle_0 rfl (lv_at hl 0 rfl) ?_
  refine lv_aload_n X.1 X.2.1 dX6_settle_1 rfl (lv_at hl 1 rfl) ?_
  refine k_put X h fp_RX6_48 i hi rfl rfl (by omega) dX6_settle_2 (fun H _ h => ?_)
  refine lv_aload_n X.1 X.2.1 dX6_settle_5 rfl (lv_at hl 0 rfl) ?_
  refine lv_aload_n X.1 X.2.1 dX6_settle_6 rfl (lv_at hl 1 rfl) ?_
  refine k_get X h fr_RX6_52 j (gs_ne hij hj) h0 dX6_settle_7 ?_
  refine k_put X h fp_RX6_57 i (gs_at hi) rfl rfl (by simp only [List.length_set]; omega) dX6_settle_10 (fun H _ h => ?_)
  refine lv_aload_n X.1 X.2.1 dX6_settle_13 rfl (lv_at hl 0 rfl) ?_
  refine lv_aload_n X.1 X.2.1 dX6_settle_14 rfl (lv_at hl 1 rfl) ?_
  refine k_get X h fr_RX6_58 j (gs_ne hij (gs_ne hij hj)) h1 dX6_settle_15 ?_
  refine k_put X h fp_RX6_61 i (gs_at (gs_at hi)) rfl rfl (by simp only [List.length_set]; omega) dX6_settle_18 (fun H _ h => ?_)
  refine lv_aload_n X.1 X.2.1 dX6_settle_21 rfl (lv_at hl 0 rfl) ?_
  refine lv_aload_n X.1 X.2.1 dX6_settle_22 rfl (lv_at hl 1 rfl) ?_
  refine k_get X h fr_RX6_62 j (gs_ne hij (gs_ne hij (gs_ne hij hj))) h2 dX6_settle_23 ?_
  refine k_put X h fp_RX6_65 i (gs_at (gs_at (gs_at hi))) rfl rfl (by simp only [List.length_set]; omega) dX6_settle_26 (fun H _ h => ?_)
  exact k_vret X hr hlk h (fun _ => 0) (by simp only [List.set_set]) (Nat.le_refl _) (Nat.le_refl _) dX6_settle_29
set_option maxHeartbeats 4000000 in
set_option maxRecDepth 100000 in
theorem c_X0_init (l : Launch) (D : va_G) (k : Nat → ClassId) (N0 : Nat) (ws : va_W) (o : Nat) : CK l yX0_init cX0_init 1 1 21 1 20 D k N0 [.ref o] ((o, .inr (0, [.null, .int 0, .int 0, .int 0, .int 0])) :: ws) (fun a => bA k o a ++ ws) := by
  refine k_met (by decide) (Nat.le_of_ble_eq_true rfl) ?_
  intro p e s m args below meth c X hr hlk hin h ls hl
  refine lv_aload_n X.1 X.2.1 dX0_init_0 rfl (lv_at hl 0 rfl) ?_
  refine k_obj X hl.1 ml_RX0_3 ⟨Nat.le_of_ble_eq_true rfl, Nat.le_of_ble_eq_true rfl⟩ (Nat.le_of_ble_eq_true rfl) dX0_init_1 ?_
  refine lv_aload_n X.1 X.2.1 dX0_init_4 rfl (lv_at hl 0 rfl) ?_
  refine lv_bipush (v := 20) X.1 X.2.1 dX0_init_5 (by decide) ?_
  refine k_newa (atype := .int) (ty := .int) (j := 0) (N := 20) (cA0 := k 9) (a0 := (20, .inl (fun _ => 0))) X h rfl ac_int aty_i rfl (fun _ => rfl) (by decide) (by decide) (Nat.le_of_ble_eq_true rfl) (Nat.le_of_ble_eq_true rfl) (Nat.le_of_ble_eq_true rfl) dX0_init_7 (fun q7_0 H h => ?_)
  refine k_putF X h hin ff_RX0_11 1 rfl rfl rfl (Nat.le_of_ble_eq_true rfl) dX0_init_9 (fun H _ h => ?_)
  have h : HK D N0 s ((q7_0, .inl (k 9, 20, .inl (fun _ => 0))) :: (o, .inr (0, [.ref q7_0, .int 0, .int 0, .int 0, .int 0])) :: ws) H _ := h
  exact k_vret X hr hlk h (fun i => ([0, q7_0] : List Nat).getD i 0) rfl (Nat.le_of_ble_eq_true rfl) (Nat.le_of_ble_eq_true rfl) dX0_init_12
set_option maxHeartbeats 4000000 in
set_option maxRecDepth 100000 in
theorem c_X1_init (l : Launch) (D : va_G) (k : Nat → ClassId) (N0 : Nat) (ws : va_W) (o : Nat) : CK l yX1_init cX1_init 1 1 21 6 336 D k N0 [.ref o] ((o, .inr (1, [.int 0, .int 0, .int 0, .int 0, .null, .null, .null, .null, .null, .int 0, .null])) :: ws) (fun a => bL k o a ++ ws) := by
  refine k_met (by decide) (Nat.le_of_ble_eq_true rfl) ?_
  intro p e s m args below meth c X hr hlk hin h ls hl
  refine lv_aload_n X.1 X.2.1 dX1_init_0 rfl (lv_at hl 0 rfl) ?_
  refine k_obj X hl.1 ml_RX1_3 ⟨Nat.le_of_ble_eq_true rfl, Nat.le_of_ble_eq_true rfl⟩ (Nat.le_of_ble_eq_true rfl) dX1_init_1 ?_
  refine lv_aload_n X.1 X.2.1 dX1_init_4 rfl (lv_at hl 0 rfl) ?_
  refine lv_bipush (v := 10) X.1 X.2.1 dX1_init_5 (by decide) ?_
  refine k_newa (atype := .int) (ty := .int) (j := 0) (N := 10) (cA0 := k 9) (a0 := (10, .inl (fun _ => 0))) X h rfl ac_int aty_i rfl (fun _ => rfl) (by decide) (by decide) (Nat.le_of_ble_eq_true rfl) (Nat.le_of_ble_eq_true rfl) (Nat.le_of_ble_eq_true rfl) dX1_init_7 (fun q7_0 H h => ?_)
  refine k_putF X h hin ff_RX1_11 1 rfl rfl rfl (Nat.le_of_ble_eq_true rfl) dX1_init_9 (fun H _ h => ?_)
  have h : HK D N0 s ((q7_0, .inl (k 9, 10, .inl (fun _ => 0))) :: (o, .inr (1, [.int 0, .int 0, .int 0, .int 0, .ref q7_0, .null, .null, .null, .null, .int 0, .null])) :: ws) H _ := h
  refine lv_aload_n X.1 X.2.1 dX1_init_12 rfl (lv_at hl 0 rfl) ?_
  refine lv_bipush (v := 10) X.1 X.2.1 dX1_init_13 (by decide) ?_
  refine k_newa (atype := .int) (ty := .int) (j := 0) (N := 10) (cA0 := k 9) (a0 := (10, .inl (fun _ => 0))) X h rfl ac_int aty_i rfl (fun _ => rfl) (by decide) (by decide) (Nat.le_of_ble_eq_true rfl) (Nat.le_of_ble_eq_true rfl) (Nat.le_of_ble_eq_true rfl) dX1_init_15 (fun q15_1 H h => ?_)
  refine k_putF X h hin ff_RX1_15 2 rfl rfl rfl (Nat.le_of_ble_eq_true rfl) dX1_init_17 (fun H _ h => ?_)
  have h : HK D N0 s ((q15_1, .inl (k 9, 10, .inl (fun _ => 0))) :: (q7_0, .inl (k 9, 10, .inl (fun _ => 0))) :: (o, .inr (1, [.int 0, .int 0, .int 0, .int 0, .ref q7_0, .ref q15_1, .null, .null, .null, .int 0, .null])) :: ws) H _ := h
  refine lv_aload_n X.1 X.2.1 dX1_init_20 rfl (lv_at hl 0 rfl) ?_
  refine lv_bipush (v := 100) X.1 X.2.1 dX1_init_21 (by decide) ?_
  refine k_newa (atype := .int) (ty := .int) (j := 0) (N := 100) (cA0 := k 9) (a0 := (100, .inl (fun _ => 0))) X h rfl ac_int aty_i rfl (fun _ => rfl) (by decide) (by decide) (Nat.le_of_ble_eq_true rfl) (Nat.le_of_ble_eq_true rfl) (Nat.le_of_ble_eq_true rfl) dX1_init_23 (fun q23_2 H h => ?_)
  refine k_putF X h hin ff_RX1_18 3 rfl rfl rfl (Nat.le_of_ble_eq_true rfl) dX1_init_25 (fun H _ h => ?_)
  have h : HK D N0 s ((q23_2, .inl (k 9, 100, .inl (fun _ => 0))) :: (q15_1, .inl (k 9, 10, .inl (fun _ => 0))) :: (q7_0, .inl (k 9, 10, .inl (fun _ => 0))) :: (o, .inr (1, [.int 0, .int 0, .int 0, .int 0, .ref q7_0, .ref q15_1, .ref q23_2, .null, .null, .int 0, .null])) :: ws) H _ := h
  refine lv_aload_n X.1 X.2.1 dX1_init_28 rfl (lv_at hl 0 rfl) ?_
  refine lv_bipush (v := 100) X.1 X.2.1 dX1_init_29 (by decide) ?_
  refine k_newa (atype := .int) (ty := .int) (j := 0) (N := 100) (cA0 := k 9) (a0 := (100, .inl (fun _ => 0))) X h rfl ac_int aty_i rfl (fun _ => rfl) (by decide) (by decide) (Nat.le_of_ble_eq_true rfl) (Nat.le_of_ble_eq_true rfl) (Nat.le_of_ble_eq_true rfl) dX1_init_31 (fun q31_3 H h => ?_)
  refine k_putF X h hin ff_RX1_21 4 rfl rfl rfl (Nat.le_of_ble_eq_true rfl) dX1_init_33 (fun H _ h => ?_)
  have h : HK D N0 s ((q31_3, .inl (k 9, 100, .inl (fun _ => 0))) :: (q23_2, .inl (k 9, 100, .inl (fun _ => 0))) :: (q15_1, .inl (k 9, 10, .inl (fun _ => 0))) :: (q7_0, .inl (k 9, 10, .inl (fun _ => 0))) :: (o, .inr (1, [.int 0, .int 0, .int 0, .int 0, .ref q7_0, .ref q15_1, .ref q23_2, .ref q31_3, .null, .int 0, .null])) :: ws) H _ := h
  refine lv_aload_n X.1 X.2.1 dX1_init_36 rfl (lv_at hl 0 rfl) ?_
  refine lv_bipush (v := 100) X.1 X.2.1 dX1_init_37 (by decide) ?_
  refine k_newa (atype := .int) (ty := .int) (j := 0) (N := 100) (cA0 := k 9) (a0 := (100, .inl (fun _ => 0))) X h rfl ac_int aty_i rfl (fun _ => rfl) (by decide) (by decide) (Nat.le_of_ble_eq_true rfl) (Nat.le_of_ble_eq_true rfl) (Nat.le_of_ble_eq_true rfl) dX1_init_39 (fun q39_4 H h => ?_)
  refine k_putF X h hin ff_RX1_24 5 rfl rfl rfl (Nat.le_of_ble_eq_true rfl) dX1_init_41 (fun H _ h => ?_)
  have h : HK D N0 s ((q39_4, .inl (k 9, 100, .inl (fun _ => 0))) :: (q31_3, .inl (k 9, 100, .inl (fun _ => 0))) :: (q23_2, .inl (k 9, 100, .inl (fun _ => 0))) :: (q15_1, .inl (k 9, 10, .inl (fun _ => 0))) :: (q7_0, .inl (k 9, 10, .inl (fun _ => 0))) :: (o, .inr (1, [.int 0, .int 0, .int 0, .int 0, .ref q7_0, .ref q15_1, .ref q23_2, .ref q31_3, .ref q39_4, .int 0, .null])) :: ws) H _ := h
  refine lv_aload_n X.1 X.2.1 dX1_init_44 rfl (lv_at hl 0 rfl) ?_
  refine lv_bipush (v := 16) X.1 X.2.1 dX1_init_45 (by decide) ?_
  refine k_newa (atype := .int) (ty := .int) (j := 0) (N := 16) (cA0 := k 9) (a0 := (16, .inl (fun _ => 0))) X h rfl ac_int aty_i rfl (fun _ => rfl) (by decide) (by decide) (Nat.le_of_ble_eq_true rfl) (Nat.le_of_ble_eq_true rfl) (Nat.le_of_ble_eq_true rfl) dX1_init_47 (fun q47_5 H h => ?_)
  refine k_putF X h hin ff_RX1_27 6 rfl rfl rfl (Nat.le_of_ble_eq_true rfl) dX1_init_49 (fun H _ h => ?_)
  have h : HK D N0 s ((q47_5, .inl (k 9, 16, .inl (fun _ => 0))) :: (q39_4, .inl (k 9, 100, .inl (fun _ => 0))) :: (q31_3, .inl (k 9, 100, .inl (fun _ => 0))) :: (q23_2, .inl (k 9, 100, .inl (fun _ => 0))) :: (q15_1, .inl (k 9, 10, .inl (fun _ => 0))) :: (q7_0, .inl (k 9, 10, .inl (fun _ => 0))) :: (o, .inr (1, [.int 0, .int 0, .int 0, .int 0, .ref q7_0, .ref q15_1, .ref q23_2, .ref q31_3, .ref q39_4, .int 0, .ref q47_5])) :: ws) H _ := h
  refine lv_aload_n X.1 X.2.1 dX1_init_52 rfl (lv_at hl 0 rfl) ?_
  refine k_callV X h (As := []) (rest := []) (c_X1_clear_k l D k N0 ((q47_5, .inl (k 9, 16, .inl (fun _ => 0))) :: (q39_4, .inl (k 9, 100, .inl (fun _ => 0))) :: (q31_3, .inl (k 9, 100, .inl (fun _ => 0))) :: (q23_2, .inl (k 9, 100, .inl (fun _ => 0))) :: (q15_1, .inl (k 9, 10, .inl (fun _ => 0))) :: (q7_0, .inl (k 9, 10, .inl (fun _ => 0))) :: (o, .inr (1, [.int 0, .int 0, .int 0, .int 0, .ref q7_0, .ref q15_1, .ref q23_2, .ref q31_3, .ref q39_4, .int 0, .ref q47_5])) :: ws) 6 o _ rfl rfl) mi_X1_clear ml_RX1_30 6 rfl kl1 rfl ⟨Nat.le_of_ble_eq_true rfl, Nat.le_of_ble_eq_true rfl⟩ rfl hl.1 rfl (Nat.le_of_ble_eq_true rfl) dX1_init_53 ⟨Nat.le_of_ble_eq_true rfl, Nat.le_of_ble_eq_true rfl⟩ (fun a53_6 H _ h => ?_)
  have h : HK D N0 s ((q47_5, .inl (k 9, 16, .inl (fun _ => 0))) :: (q39_4, .inl (k 9, 100, .inl (fun _ => 0))) :: (q31_3, .inl (k 9, 100, .inl (fun _ => 0))) :: (q23_2, .inl (k 9, 100, .inl (fun _ => 0))) :: (q15_1, .inl (k 9, 10, .inl (fun _ => 0))) :: (q7_0, .inl (k 9, 10, .inl (fun _ => 0))) :: (o, .inr (1, [.int 5, .int 10, .int 1, .int 0, .ref q7_0, .ref q15_1, .ref q23_2, .ref q31_3, .ref q39_4, .int 0, .ref q47_5])) :: ws) H _ := h
  exact k_vret X hr hlk h (fun i => ([0, q7_0, q15_1, q23_2, q31_3, q39_4, q47_5] : List Nat).getD i 0) rfl (Nat.le_of_ble_eq_true rfl) (Nat.le_of_ble_eq_true rfl) dX1_init_56
set_option maxHeartbeats 4000000 in
set_option maxRecDepth 100000 in
theorem c_X2_init_5 (l : Launch) (D : va_G) (k : Nat → ClassId) (N0 : Nat) (ws : va_W) (o : Nat) : CK l yX2_init cX2_init 2 1 21 2 10 D k N0 [.ref o, .int 5] ((o, .inr (2, [.null, .null, .int 0])) :: ws) (fun a => bQ k 5 o a ++ ws) := by
  refine k_met (by decide) (Nat.le_of_ble_eq_true rfl) ?_
  intro p e s m args below meth c X hr hlk hin h ls hl
  refine lv_aload_n X.1 X.2.1 dX2_init_0 rfl (lv_at hl 0 rfl) ?_
  refine k_obj X hl.1 ml_RX2_3 ⟨Nat.le_of_ble_eq_true rfl, Nat.le_of_ble_eq_true rfl⟩ (Nat.le_of_ble_eq_true rfl) dX2_init_1 ?_
  refine lv_aload_n X.1 X.2.1 dX2_init_4 rfl (lv_at hl 0 rfl) ?_
  refine lv_iconst (v := 0) X.1 X.2.1 dX2_init_5 (by decide) ?_
  refine lv_iload_n X.1 X.2.1 dX2_init_6 rfl (lv_at hl 1 rfl) ?_
  refine k_max (z := 5) X hl.1 ml_RX2_9 ⟨Nat.le_of_ble_eq_true rfl, Nat.le_of_ble_eq_true rfl⟩ (Nat.le_of_ble_eq_true rfl) (Nat.le_of_ble_eq_true rfl) (Nat.le_of_ble_eq_true rfl) (by decide) dX2_init_7 ?_
  refine k_newa (atype := .int) (ty := .int) (j := 0) (N := 5) (cA0 := k 9) (a0 := (5, .inl (fun _ => 0))) X h rfl ac_int aty_i rfl (fun _ => rfl) (by decide) (by decide) (Nat.le_of_ble_eq_true rfl) (Nat.le_of_ble_eq_true rfl) (Nat.le_of_ble_eq_true rfl) dX2_init_10 (fun q10_0 H h => ?_)
  refine k_putF X h hin ff_RX2_15 1 rfl rfl rfl (Nat.le_of_ble_eq_true rfl) dX2_init_12 (fun H _ h => ?_)
  have h : HK D N0 s ((q10_0, .inl (k 9, 5, .inl (fun _ => 0))) :: (o, .inr (2, [.ref q10_0, .null, .int 0])) :: ws) H _ := h
  refine lv_aload_n X.1 X.2.1 dX2_init_15 rfl (lv_at hl 0 rfl) ?_
  refine lv_iconst (v := 0) X.1 X.2.1 dX2_init_16 (by decide) ?_
  refine lv_iload_n X.1 X.2.1 dX2_init_17 rfl (lv_at hl 1 rfl) ?_
  refine k_max (z := 5) X hl.1 ml_RX2_9 ⟨Nat.le_of_ble_eq_true rfl, Nat.le_of_ble_eq_true rfl⟩ (Nat.le_of_ble_eq_true rfl) (Nat.le_of_ble_eq_true rfl) (Nat.le_of_ble_eq_true rfl) (by decide) dX2_init_18 ?_
  refine k_newa (atype := .int) (ty := .int) (j := 0) (N := 5) (cA0 := k 9) (a0 := (5, .inl (fun _ => 0))) X h rfl ac_int aty_i rfl (fun _ => rfl) (by decide) (by decide) (Nat.le_of_ble_eq_true rfl) (Nat.le_of_ble_eq_true rfl) (Nat.le_of_ble_eq_true rfl) dX2_init_21 (fun q21_1 H h => ?_)
  refine k_putF X h hin ff_RX2_21 2 rfl rfl rfl (Nat.le_of_ble_eq_true rfl) dX2_init_23 (fun H _ h => ?_)
  have h : HK D N0 s ((q21_1, .inl (k 9, 5, .inl (fun _ => 0))) :: (q10_0, .inl (k 9, 5, .inl (fun _ => 0))) :: (o, .inr (2, [.ref q10_0, .ref q21_1, .int 0])) :: ws) H _ := h
  exact k_vret X hr hlk h (fun i => ([0, q10_0, q21_1] : List Nat).getD i 0) rfl (Nat.le_of_ble_eq_true rfl) (Nat.le_of_ble_eq_true rfl) dX2_init_26
set_option maxHeartbeats 4000000 in
set_option maxRecDepth 100000 in
theorem c_X2_init_10 (l : Launch) (D : va_G) (k : Nat → ClassId) (N0 : Nat) (ws : va_W) (o : Nat) : CK l yX2_init cX2_init 2 1 21 2 20 D k N0 [.ref o, .int 10] ((o, .inr (2, [.null, .null, .int 0])) :: ws) (fun a => bQ k 10 o a ++ ws) := by
  refine k_met (by decide) (Nat.le_of_ble_eq_true rfl) ?_
  intro p e s m args below meth c X hr hlk hin h ls hl
  refine lv_aload_n X.1 X.2.1 dX2_init_0 rfl (lv_at hl 0 rfl) ?_
  refine k_obj X hl.1 ml_RX2_3 ⟨Nat.le_of_ble_eq_true rfl, Nat.le_of_ble_eq_true rfl⟩ (Nat.le_of_ble_eq_true rfl) dX2_init_1 ?_
  refine lv_aload_n X.1 X.2.1 dX2_init_4 rfl (lv_at hl 0 rfl) ?_
  refine lv_iconst (v := 0) X.1 X.2.1 dX2_init_5 (by decide) ?_
  refine lv_iload_n X.1 X.2.1 dX2_init_6 rfl (lv_at hl 1 rfl) ?_
  refine k_max (z := 10) X hl.1 ml_RX2_9 ⟨Nat.le_of_ble_eq_true rfl, Nat.le_of_ble_eq_true rfl⟩ (Nat.le_of_ble_eq_true rfl) (Nat.le_of_ble_eq_true rfl) (Nat.le_of_ble_eq_true rfl) (by decide) dX2_init_7 ?_
  refine k_newa (atype := .int) (ty := .int) (j := 0) (N := 10) (cA0 := k 9) (a0 := (10, .inl (fun _ => 0))) X h rfl ac_int aty_i rfl (fun _ => rfl) (by decide) (by decide) (Nat.le_of_ble_eq_true rfl) (Nat.le_of_ble_eq_true rfl) (Nat.le_of_ble_eq_true rfl) dX2_init_10 (fun q10_0 H h => ?_)
  refine k_putF X h hin ff_RX2_15 1 rfl rfl rfl (Nat.le_of_ble_eq_true rfl) dX2_init_12 (fun H _ h => ?_)
  have h : HK D N0 s ((q10_0, .inl (k 9, 10, .inl (fun _ => 0))) :: (o, .inr (2, [.ref q10_0, .null, .int 0])) :: ws) H _ := h
  refine lv_aload_n X.1 X.2.1 dX2_init_15 rfl (lv_at hl 0 rfl) ?_
  refine lv_iconst (v := 0) X.1 X.2.1 dX2_init_16 (by decide) ?_
  refine lv_iload_n X.1 X.2.1 dX2_init_17 rfl (lv_at hl 1 rfl) ?_
  refine k_max (z := 10) X hl.1 ml_RX2_9 ⟨Nat.le_of_ble_eq_true rfl, Nat.le_of_ble_eq_true rfl⟩ (Nat.le_of_ble_eq_true rfl) (Nat.le_of_ble_eq_true rfl) (Nat.le_of_ble_eq_true rfl) (by decide) dX2_init_18 ?_
  refine k_newa (atype := .int) (ty := .int) (j := 0) (N := 10) (cA0 := k 9) (a0 := (10, .inl (fun _ => 0))) X h rfl ac_int aty_i rfl (fun _ => rfl) (by decide) (by decide) (Nat.le_of_ble_eq_true rfl) (Nat.le_of_ble_eq_true rfl) (Nat.le_of_ble_eq_true rfl) dX2_init_21 (fun q21_1 H h => ?_)
  refine k_putF X h hin ff_RX2_21 2 rfl rfl rfl (Nat.le_of_ble_eq_true rfl) dX2_init_23 (fun H _ h => ?_)
  have h : HK D N0 s ((q21_1, .inl (k 9, 10, .inl (fun _ => 0))) :: (q10_0, .inl (k 9, 10, .inl (fun _ => 0))) :: (o, .inr (2, [.ref q10_0, .ref q21_1, .int 0])) :: ws) H _ := h
  exact k_vret X hr hlk h (fun i => ([0, q10_0, q21_1] : List Nat).getD i 0) rfl (Nat.le_of_ble_eq_true rfl) (Nat.le_of_ble_eq_true rfl) dX2_init_26
set_option maxHeartbeats 4000000 in
set_option maxRecDepth 100000 in
theorem c_X2_init_8 (l : Launch) (D : va_G) (k : Nat → ClassId) (N0 : Nat) (ws : va_W) (o : Nat) : CK l yX2_init cX2_init 2 1 21 2 16 D k N0 [.ref o, .int 8] ((o, .inr (2, [.null, .null, .int 0])) :: ws) (fun a => bQ k 8 o a ++ ws) := by
  refine k_met (by decide) (Nat.le_of_ble_eq_true rfl) ?_
  intro p e s m args below meth c X hr hlk hin h ls hl
  refine lv_aload_n X.1 X.2.1 dX2_init_0 rfl (lv_at hl 0 rfl) ?_
  refine k_obj X hl.1 ml_RX2_3 ⟨Nat.le_of_ble_eq_true rfl, Nat.le_of_ble_eq_true rfl⟩ (Nat.le_of_ble_eq_true rfl) dX2_init_1 ?_
  refine lv_aload_n X.1 X.2.1 dX2_init_4 rfl (lv_at hl 0 rfl) ?_
  refine lv_iconst (v := 0) X.1 X.2.1 dX2_init_5 (by decide) ?_
  refine lv_iload_n X.1 X.2.1 dX2_init_6 rfl (lv_at hl 1 rfl) ?_
  refine k_max (z := 8) X hl.1 ml_RX2_9 ⟨Nat.le_of_ble_eq_true rfl, Nat.le_of_ble_eq_true rfl⟩ (Nat.le_of_ble_eq_true rfl) (Nat.le_of_ble_eq_true rfl) (Nat.le_of_ble_eq_true rfl) (by decide) dX2_init_7 ?_
  refine k_newa (atype := .int) (ty := .int) (j := 0) (N := 8) (cA0 := k 9) (a0 := (8, .inl (fun _ => 0))) X h rfl ac_int aty_i rfl (fun _ => rfl) (by decide) (by decide) (Nat.le_of_ble_eq_true rfl) (Nat.le_of_ble_eq_true rfl) (Nat.le_of_ble_eq_true rfl) dX2_init_10 (fun q10_0 H h => ?_)
  refine k_putF X h hin ff_RX2_15 1 rfl rfl rfl (Nat.le_of_ble_eq_true rfl) dX2_init_12 (fun H _ h => ?_)
  have h : HK D N0 s ((q10_0, .inl (k 9, 8, .inl (fun _ => 0))) :: (o, .inr (2, [.ref q10_0, .null, .int 0])) :: ws) H _ := h
  refine lv_aload_n X.1 X.2.1 dX2_init_15 rfl (lv_at hl 0 rfl) ?_
  refine lv_iconst (v := 0) X.1 X.2.1 dX2_init_16 (by decide) ?_
  refine lv_iload_n X.1 X.2.1 dX2_init_17 rfl (lv_at hl 1 rfl) ?_
  refine k_max (z := 8) X hl.1 ml_RX2_9 ⟨Nat.le_of_ble_eq_true rfl, Nat.le_of_ble_eq_true rfl⟩ (Nat.le_of_ble_eq_true rfl) (Nat.le_of_ble_eq_true rfl) (Nat.le_of_ble_eq_true rfl) (by decide) dX2_init_18 ?_
  refine k_newa (atype := .int) (ty := .int) (j := 0) (N := 8) (cA0 := k 9) (a0 := (8, .inl (fun _ => 0))) X h rfl ac_int aty_i rfl (fun _ => rfl) (by decide) (by decide) (Nat.le_of_ble_eq_true rfl) (Nat.le_of_ble_eq_true rfl) (Nat.le_of_ble_eq_true rfl) dX2_init_21 (fun q21_1 H h => ?_)
  refine k_putF X h hin ff_RX2_21 2 rfl rfl rfl (Nat.le_of_ble_eq_true rfl) dX2_init_23 (fun H _ h => ?_)
  have h : HK D N0 s ((q21_1, .inl (k 9, 8, .inl (fun _ => 0))) :: (q10_0, .inl (k 9, 8, .inl (fun _ => 0))) :: (o, .inr (2, [.ref q10_0, .ref q21_1, .int 0])) :: ws) H _ := h
  exact k_vret X hr hlk h (fun i => ([0, q10_0, q21_1] : List Nat).getD i 0) rfl (Nat.le_of_ble_eq_true rfl) (Nat.le_of_ble_eq_true rfl) dX2_init_26
set_option maxHeartbeats 4000000 in
set_option maxRecDepth 100000 in
theorem c_X3_init (l : Launch) (D : va_G) (k : Nat → ClassId) (N0 : Nat) (ws : va_W) (o : Nat) : CK l yX3_init cX3_init 2 1 21 6 54 D k N0 [.ref o] ((o, .inr (3, [.int 0, .null, .null, .null, .null, .null, .null, .int 0])) :: ws) (fun a => bE k o a ++ ws) := by
  refine k_met (by decide) (Nat.le_of_ble_eq_true rfl) ?_
  intro p e s m args below meth c X hr hlk hin h ls hl
  refine lv_aload_n X.1 X.2.1 dX3_init_0 rfl (lv_at hl 0 rfl) ?_
  refine k_obj X hl.1 ml_RX3_3 ⟨Nat.le_of_ble_eq_true rfl, Nat.le_of_ble_eq_true rfl⟩ (Nat.le_of_ble_eq_true rfl) dX3_init_1 ?_
  refine lv_aload_n X.1 X.2.1 dX3_init_4 rfl (lv_at hl 0 rfl) ?_
  refine lv_bipush (v := 6) X.1 X.2.1 dX3_init_5 (by decide) ?_
  refine k_newa (atype := .int) (ty := .int) (j := 0) (N := 6) (cA0 := k 9) (a0 := (6, .inl (fun _ => 0))) X h rfl ac_int aty_i rfl (fun _ => rfl) (by decide) (by decide) (Nat.le_of_ble_eq_true rfl) (Nat.le_of_ble_eq_true rfl) (Nat.le_of_ble_eq_true rfl) dX3_init_7 (fun q7_0 H h => ?_)
  refine k_putF X h hin ff_RX3_9 1 rfl rfl rfl (Nat.le_of_ble_eq_true rfl) dX3_init_9 (fun H _ h => ?_)
  have h : HK D N0 s ((q7_0, .inl (k 9, 6, .inl (fun _ => 0))) :: (o, .inr (3, [.int 0, .ref q7_0, .null, .null, .null, .null, .null, .int 0])) :: ws) H _ := h
  refine lv_aload_n X.1 X.2.1 dX3_init_12 rfl (lv_at hl 0 rfl) ?_
  refine lv_bipush (v := 6) X.1 X.2.1 dX3_init_13 (by decide) ?_
  refine k_newa (atype := .int) (ty := .int) (j := 0) (N := 6) (cA0 := k 9) (a0 := (6, .inl (fun _ => 0))) X h rfl ac_int aty_i rfl (fun _ => rfl) (by decide) (by decide) (Nat.le_of_ble_eq_true rfl) (Nat.le_of_ble_eq_true rfl) (Nat.le_of_ble_eq_true rfl) dX3_init_15 (fun q15_1 H h => ?_)
  refine k_putF X h hin ff_RX3_15 2 rfl rfl rfl (Nat.le_of_ble_eq_true rfl) dX3_init_17 (fun H _ h => ?_)
  have h : HK D N0 s ((q15_1, .inl (k 9, 6, .inl (fun _ => 0))) :: (q7_0, .inl (k 9, 6, .inl (fun _ => 0))) :: (o, .inr (3, [.int 0, .ref q7_0, .ref q15_1, .null, .null, .null, .null, .int 0])) :: ws) H _ := h
  refine lv_aload_n X.1 X.2.1 dX3_init_20 rfl (lv_at hl 0 rfl) ?_
  refine lv_bipush (v := 6) X.1 X.2.1 dX3_init_21 (by decide) ?_
  refine k_newa (atype := .int) (ty := .int) (j := 0) (N := 6) (cA0 := k 9) (a0 := (6, .inl (fun _ => 0))) X h rfl ac_int aty_i rfl (fun _ => rfl) (by decide) (by decide) (Nat.le_of_ble_eq_true rfl) (Nat.le_of_ble_eq_true rfl) (Nat.le_of_ble_eq_true rfl) dX3_init_23 (fun q23_2 H h => ?_)
  refine k_putF X h hin ff_RX3_18 3 rfl rfl rfl (Nat.le_of_ble_eq_true rfl) dX3_init_25 (fun H _ h => ?_)
  have h : HK D N0 s ((q23_2, .inl (k 9, 6, .inl (fun _ => 0))) :: (q15_1, .inl (k 9, 6, .inl (fun _ => 0))) :: (q7_0, .inl (k 9, 6, .inl (fun _ => 0))) :: (o, .inr (3, [.int 0, .ref q7_0, .ref q15_1, .ref q23_2, .null, .null, .null, .int 0])) :: ws) H _ := h
  refine lv_aload_n X.1 X.2.1 dX3_init_28 rfl (lv_at hl 0 rfl) ?_
  refine lv_bipush (v := 6) X.1 X.2.1 dX3_init_29 (by decide) ?_
  refine k_newa (atype := .int) (ty := .int) (j := 0) (N := 6) (cA0 := k 9) (a0 := (6, .inl (fun _ => 0))) X h rfl ac_int aty_i rfl (fun _ => rfl) (by decide) (by decide) (Nat.le_of_ble_eq_true rfl) (Nat.le_of_ble_eq_true rfl) (Nat.le_of_ble_eq_true rfl) dX3_init_31 (fun q31_3 H h => ?_)
  refine k_putF X h hin ff_RX3_21 4 rfl rfl rfl (Nat.le_of_ble_eq_true rfl) dX3_init_33 (fun H _ h => ?_)
  have h : HK D N0 s ((q31_3, .inl (k 9, 6, .inl (fun _ => 0))) :: (q23_2, .inl (k 9, 6, .inl (fun _ => 0))) :: (q15_1, .inl (k 9, 6, .inl (fun _ => 0))) :: (q7_0, .inl (k 9, 6, .inl (fun _ => 0))) :: (o, .inr (3, [.int 0, .ref q7_0, .ref q15_1, .ref q23_2, .ref q31_3, .null, .null, .int 0])) :: ws) H _ := h
  refine lv_aload_n X.1 X.2.1 dX3_init_36 rfl (lv_at hl 0 rfl) ?_
  refine lv_bipush (v := 6) X.1 X.2.1 dX3_init_37 (by decide) ?_
  refine k_newa (atype := .int) (ty := .int) (j := 0) (N := 6) (cA0 := k 9) (a0 := (6, .inl (fun _ => 0))) X h rfl ac_int aty_i rfl (fun _ => rfl) (by decide) (by decide) (Nat.le_of_ble_eq_true rfl) (Nat.le_of_ble_eq_true rfl) (Nat.le_of_ble_eq_true rfl) dX3_init_39 (fun q39_4 H h => ?_)
  refine k_putF X h hin ff_RX3_24 5 rfl rfl rfl (Nat.le_of_ble_eq_true rfl) dX3_init_41 (fun H _ h => ?_)
  have h : HK D N0 s ((q39_4, .inl (k 9, 6, .inl (fun _ => 0))) :: (q31_3, .inl (k 9, 6, .inl (fun _ => 0))) :: (q23_2, .inl (k 9, 6, .inl (fun _ => 0))) :: (q15_1, .inl (k 9, 6, .inl (fun _ => 0))) :: (q7_0, .inl (k 9, 6, .inl (fun _ => 0))) :: (o, .inr (3, [.int 0, .ref q7_0, .ref q15_1, .ref q23_2, .ref q31_3, .ref q39_4, .null, .int 0])) :: ws) H _ := h
  refine lv_aload_n X.1 X.2.1 dX3_init_44 rfl (lv_at hl 0 rfl) ?_
  refine lv_bipush (v := 24) X.1 X.2.1 dX3_init_45 (by decide) ?_
  refine k_newa (atype := .int) (ty := .int) (j := 0) (N := 24) (cA0 := k 9) (a0 := (24, .inl (fun _ => 0))) X h rfl ac_int aty_i rfl (fun _ => rfl) (by decide) (by decide) (Nat.le_of_ble_eq_true rfl) (Nat.le_of_ble_eq_true rfl) (Nat.le_of_ble_eq_true rfl) dX3_init_47 (fun q47_5 H h => ?_)
  refine k_putF X h hin ff_RX3_27 6 rfl rfl rfl (Nat.le_of_ble_eq_true rfl) dX3_init_49 (fun H _ h => ?_)
  have h : HK D N0 s ((q47_5, .inl (k 9, 24, .inl (fun _ => 0))) :: (q39_4, .inl (k 9, 6, .inl (fun _ => 0))) :: (q31_3, .inl (k 9, 6, .inl (fun _ => 0))) :: (q23_2, .inl (k 9, 6, .inl (fun _ => 0))) :: (q15_1, .inl (k 9, 6, .inl (fun _ => 0))) :: (q7_0, .inl (k 9, 6, .inl (fun _ => 0))) :: (o, .inr (3, [.int 0, .ref q7_0, .ref q15_1, .ref q23_2, .ref q31_3, .ref q39_4, .ref q47_5, .int 0])) :: ws) H _ := h
  refine lv_iconst (v := 0) X.1 X.2.1 dX3_init_52 (by decide) ?_
  refine lv_istore_n (lv' := [(1, .int 0), (0, .ref o)]) X.1 X.2.1 dX3_init_53 rfl hl (by decide) rfl (fun ls hl => ?_)
  refine lv_iload_n X.1 X.2.1 dX3_init_54 rfl (lv_at hl 0 rfl) ?_
  refine lv_bipush (v := 6) X.1 X.2.1 dX3_init_55 (by decide) ?_
  refine lv_icmp_ge (tgt := 73) X.1 X.2.1 dX3_init_57 (by decide) (fun c9 => absurd c9 (by decide)) (fun _ => ?_)
  refine lv_aload_n X.1 X.2.1 dX3_init_60 rfl (lv_at hl 1 rfl) ?_
  refine k_get X h fr_RX3_9 6 rfl rfl dX3_init_61 ?_
  refine lv_iload_n X.1 X.2.1 dX3_init_64 rfl (lv_at hl 0 rfl) ?_
  refine lv_iload_n X.1 X.2.1 dX3_init_65 rfl (lv_at hl 0 rfl) ?_
  refine k_iast (i := 0) X h 5 rfl rfl (by decide) (by decide) dX3_init_66 (fun H _ h => ?_)
  have h : HK D N0 s ((q47_5, .inl (k 9, 24, .inl (fun _ => 0))) :: (q39_4, .inl (k 9, 6, .inl (fun _ => 0))) :: (q31_3, .inl (k 9, 6, .inl (fun _ => 0))) :: (q23_2, .inl (k 9, 6, .inl (fun _ => 0))) :: (q15_1, .inl (k 9, 6, .inl (fun _ => 0))) :: (q7_0, .inl (k 9, 6, .inl (upd (fun _ => 0) 0 0))) :: (o, .inr (3, [.int 0, .ref q7_0, .ref q15_1, .ref q23_2, .ref q31_3, .ref q39_4, .ref q47_5, .int 0])) :: ws) H _ := h
  refine lv_iinc (v := 1) (lv' := [(1, .int 1), (0, .ref o)]) X.1 X.2.1 dX3_init_67 hl (k := 0) rfl (by decide) (by decide) rfl (fun ls hl => ?_)
  refine lv_goto (tgt := 54) X.1 X.2.1 dX3_init_70 (by decide) ?_
  refine lv_iload_n X.1 X.2.1 dX3_init_54 rfl (lv_at hl 0 rfl) ?_
  refine lv_bipush (v := 6) X.1 X.2.1 dX3_init_55 (by decide) ?_
  refine lv_icmp_ge (tgt := 73) X.1 X.2.1 dX3_init_57 (by decide) (fun c9 => absurd c9 (by decide)) (fun _ => ?_)
  refine lv_aload_n X.1 X.2.1 dX3_init_60 rfl (lv_at hl 1 rfl) ?_
  refine k_get X h fr_RX3_9 6 rfl rfl dX3_init_61 ?_
  refine lv_iload_n X.1 X.2.1 dX3_init_64 rfl (lv_at hl 0 rfl) ?_
  refine lv_iload_n X.1 X.2.1 dX3_init_65 rfl (lv_at hl 0 rfl) ?_
  refine k_iast (i := 1) X h 5 rfl rfl (by decide) (by decide) dX3_init_66 (fun H _ h => ?_)
  have h : HK D N0 s ((q47_5, .inl (k 9, 24, .inl (fun _ => 0))) :: (q39_4, .inl (k 9, 6, .inl (fun _ => 0))) :: (q31_3, .inl (k 9, 6, .inl (fun _ => 0))) :: (q23_2, .inl (k 9, 6, .inl (fun _ => 0))) :: (q15_1, .inl (k 9, 6, .inl (fun _ => 0))) :: (q7_0, .inl (k 9, 6, .inl (upd (upd (fun _ => 0) 0 0) 1 1))) :: (o, .inr (3, [.int 0, .ref q7_0, .ref q15_1, .ref q23_2, .ref q31_3, .ref q39_4, .ref q47_5, .int 0])) :: ws) H _ := h
  refine lv_iinc (v := 2) (lv' := [(1, .int 2), (0, .ref o)]) X.1 X.2.1 dX3_init_67 hl (k := 0) rfl (by decide) (by decide) rfl (fun ls hl => ?_)
  refine lv_goto (tgt := 54) X.1 X.2.1 dX3_init_70 (by decide) ?_
  refine lv_iload_n X.1 X.2.1 dX3_init_54 rfl (lv_at hl 0 rfl) ?_
  refine lv_bipush (v := 6) X.1 X.2.1 dX3_init_55 (by decide) ?_
  refine lv_icmp_ge (tgt := 73) X.1 X.2.1 dX3_init_57 (by decide) (fun c9 => absurd c9 (by decide)) (fun _ => ?_)
  refine lv_aload_n X.1 X.2.1 dX3_init_60 rfl (lv_at hl 1 rfl) ?_
  refine k_get X h fr_RX3_9 6 rfl rfl dX3_init_61 ?_
  refine lv_iload_n X.1 X.2.1 dX3_init_64 rfl (lv_at hl 0 rfl) ?_
  refine lv_iload_n X.1 X.2.1 dX3_init_65 rfl (lv_at hl 0 rfl) ?_
  refine k_iast (i := 2) X h 5 rfl rfl (by decide) (by decide) dX3_init_66 (fun H _ h => ?_)
  have h : HK D N0 s ((q47_5, .inl (k 9, 24, .inl (fun _ => 0))) :: (q39_4, .inl (k 9, 6, .inl (fun _ => 0))) :: (q31_3, .inl (k 9, 6, .inl (fun _ => 0))) :: (q23_2, .inl (k 9, 6, .inl (fun _ => 0))) :: (q15_1, .inl (k 9, 6, .inl (fun _ => 0))) :: (q7_0, .inl (k 9, 6, .inl (upd (upd (upd (fun _ => 0) 0 0) 1 1) 2 2))) :: (o, .inr (3, [.int 0, .ref q7_0, .ref q15_1, .ref q23_2, .ref q31_3, .ref q39_4, .ref q47_5, .int 0])) :: ws) H _ := h
  refine lv_iinc (v := 3) (lv' := [(1, .int 3), (0, .ref o)]) X.1 X.2.1 dX3_init_67 hl (k := 0) rfl (by decide) (by decide) rfl (fun ls hl => ?_)
  refine lv_goto (tgt := 54) X.1 X.2.1 dX3_init_70 (by decide) ?_
  refine lv_iload_n X.1 X.2.1 dX3_init_54 rfl (lv_at hl 0 rfl) ?_
  refine lv_bipush (v := 6) X.1 X.2.1 dX3_init_55 (by decide) ?_
  refine lv_icmp_ge (tgt := 73) X.1 X.2.1 dX3_init_57 (by decide) (fun c9 => absurd c9 (by decide)) (fun _ => ?_)
  refine lv_aload_n X.1 X.2.1 dX3_init_60 rfl (lv_at hl 1 rfl) ?_
  refine k_get X h fr_RX3_9 6 rfl rfl dX3_init_61 ?_
  refine lv_iload_n X.1 X.2.1 dX3_init_64 rfl (lv_at hl 0 rfl) ?_
  refine lv_iload_n X.1 X.2.1 dX3_init_65 rfl (lv_at hl 0 rfl) ?_
  refine k_iast (i := 3) X h 5 rfl rfl (by decide) (by decide) dX3_init_66 (fun H _ h => ?_)
  have h : HK D N0 s ((q47_5, .inl (k 9, 24, .inl (fun _ => 0))) :: (q39_4, .inl (k 9, 6, .inl (fun _ => 0))) :: (q31_3, .inl (k 9, 6, .inl (fun _ => 0))) :: (q23_2, .inl (k 9, 6, .inl (fun _ => 0))) :: (q15_1, .inl (k 9, 6, .inl (fun _ => 0))) :: (q7_0, .inl (k 9, 6, .inl (upd (upd (upd (upd (fun _ => 0) 0 0) 1 1) 2 2) 3 3))) :: (o, .inr (3, [.int 0, .ref q7_0, .ref q15_1, .ref q23_2, .ref q31_3, .ref q39_4, .ref q47_5, .int 0])) :: ws) H _ := h
  refine lv_iinc (v := 4) (lv' := [(1, .int 4), (0, .ref o)]) X.1 X.2.1 dX3_init_67 hl (k := 0) rfl (by decide) (by decide) rfl (fun ls hl => ?_)
  refine lv_goto (tgt := 54) X.1 X.2.1 dX3_init_70 (by decide) ?_
  refine lv_iload_n X.1 X.2.1 dX3_init_54 rfl (lv_at hl 0 rfl) ?_
  refine lv_bipush (v := 6) X.1 X.2.1 dX3_init_55 (by decide) ?_
  refine lv_icmp_ge (tgt := 73) X.1 X.2.1 dX3_init_57 (by decide) (fun c9 => absurd c9 (by decide)) (fun _ => ?_)
  refine lv_aload_n X.1 X.2.1 dX3_init_60 rfl (lv_at hl 1 rfl) ?_
  refine k_get X h fr_RX3_9 6 rfl rfl dX3_init_61 ?_
  refine lv_iload_n X.1 X.2.1 dX3_init_64 rfl (lv_at hl 0 rfl) ?_
  refine lv_iload_n X.1 X.2.1 dX3_init_65 rfl (lv_at hl 0 rfl) ?_
  refine k_iast (i := 4) X h 5 rfl rfl (by decide) (by decide) dX3_init_66 (fun H _ h => ?_)
  have h : HK D N0 s ((q47_5, .inl (k 9, 24, .inl (fun _ => 0))) :: (q39_4, .inl (k 9, 6, .inl (fun _ => 0))) :: (q31_3, .inl (k 9, 6, .inl (fun _ => 0))) :: (q23_2, .inl (k 9, 6, .inl (fun _ => 0))) :: (q15_1, .inl (k 9, 6, .inl (fun _ => 0))) :: (q7_0, .inl (k 9, 6, .inl (upd (upd (upd (upd (upd (fun _ => 0) 0 0) 1 1) 2 2) 3 3) 4 4))) :: (o, .inr (3, [.int 0, .ref q7_0, .ref q15_1, .ref q23_2, .ref q31_3, .ref q39_4, .ref q47_5, .int 0])) :: ws) H _ := h
  refine lv_iinc (v := 5) (lv' := [(1, .int 5), (0, .ref o)]) X.1 X.2.1 dX3_init_67 hl (k := 0) rfl (by decide) (by decide) rfl (fun ls hl => ?_)
  refine lv_goto (tgt := 54) X.1 X.2.1 dX3_init_70 (by decide) ?_
  refine lv_iload_n X.1 X.2.1 dX3_init_54 rfl (lv_at hl 0 rfl) ?_
  refine lv_bipush (v := 6) X.1 X.2.1 dX3_init_55 (by decide) ?_
  refine lv_icmp_ge (tgt := 73) X.1 X.2.1 dX3_init_57 (by decide) (fun c9 => absurd c9 (by decide)) (fun _ => ?_)
  refine lv_aload_n X.1 X.2.1 dX3_init_60 rfl (lv_at hl 1 rfl) ?_
  refine k_get X h fr_RX3_9 6 rfl rfl dX3_init_61 ?_
  refine lv_iload_n X.1 X.2.1 dX3_init_64 rfl (lv_at hl 0 rfl) ?_
  refine lv_iload_n X.1 X.2.1 dX3_init_65 rfl (lv_at hl 0 rfl) ?_
  refine k_iast (i := 5) X h 5 rfl rfl (by decide) (by decide) dX3_init_66 (fun H _ h => ?_)
  have h : HK D N0 s ((q47_5, .inl (k 9, 24, .inl (fun _ => 0))) :: (q39_4, .inl (k 9, 6, .inl (fun _ => 0))) :: (q31_3, .inl (k 9, 6, .inl (fun _ => 0))) :: (q23_2, .inl (k 9, 6, .inl (fun _ => 0))) :: (q15_1, .inl (k 9, 6, .inl (fun _ => 0))) :: (q7_0, .inl (k 9, 6, .inl (upd (upd (upd (upd (upd (upd (fun _ => 0) 0 0) 1 1) 2 2) 3 3) 4 4) 5 5))) :: (o, .inr (3, [.int 0, .ref q7_0, .ref q15_1, .ref q23_2, .ref q31_3, .ref q39_4, .ref q47_5, .int 0])) :: ws) H _ := h
  refine lv_iinc (v := 6) (lv' := [(1, .int 6), (0, .ref o)]) X.1 X.2.1 dX3_init_67 hl (k := 0) rfl (by decide) (by decide) rfl (fun ls hl => ?_)
  refine lv_goto (tgt := 54) X.1 X.2.1 dX3_init_70 (by decide) ?_
  refine lv_iload_n X.1 X.2.1 dX3_init_54 rfl (lv_at hl 0 rfl) ?_
  refine lv_bipush (v := 6) X.1 X.2.1 dX3_init_55 (by decide) ?_
  refine lv_icmp_ge (tgt := 73) X.1 X.2.1 dX3_init_57 (by decide) (fun _ => ?_) (fun c9 => absurd (by decide) c9)
  exact k_vret X hr hlk h (fun i => ([0, q7_0, q15_1, q23_2, q31_3, q39_4, q47_5] : List Nat).getD i 0) rfl (Nat.le_of_ble_eq_true rfl) (Nat.le_of_ble_eq_true rfl) dX3_init_73
set_option maxHeartbeats 4000000 in
set_option maxRecDepth 100000 in
theorem c_X4_init (l : Launch) (D : va_G) (k : Nat → ClassId) (N0 : Nat) (ws : va_W) (o : Nat) : CK l yX4_init cX4_init 2 1 21 3 372 D k N0 [.ref o] ((o, .inr (4, [.null, .null, .null])) :: ws) (fun a => bT k o a ++ ws) := by
  refine k_met (by decide) (Nat.le_of_ble_eq_true rfl) ?_
  intro p e s m args below meth c X hr hlk hin h ls hl
  refine lv_aload_n X.1 X.2.1 dX4_init_0 rfl (lv_at hl 0 rfl) ?_
  refine k_obj X hl.1 ml_RX4_1 ⟨Nat.le_of_ble_eq_true rfl, Nat.le_of_ble_eq_true rfl⟩ (Nat.le_of_ble_eq_true rfl) dX4_init_1 ?_
  refine lv_aload_n X.1 X.2.1 dX4_init_4 rfl (lv_at hl 0 rfl) ?_
  refine lv_bipush (v := 6) X.1 X.2.1 dX4_init_5 (by decide) ?_
  refine k_newa (atype := .int) (ty := .int) (j := 0) (N := 6) (cA0 := k 9) (a0 := (6, .inl (fun _ => 0))) X h rfl ac_int aty_i rfl (fun _ => rfl) (by decide) (by decide) (Nat.le_of_ble_eq_true rfl) (Nat.le_of_ble_eq_true rfl) (Nat.le_of_ble_eq_true rfl) dX4_init_7 (fun q7_0 H h => ?_)
  refine k_putF X h hin ff_RX4_9 1 rfl rfl rfl (Nat.le_of_ble_eq_true rfl) dX4_init_9 (fun H _ h => ?_)
  have h : HK D N0 s ((q7_0, .inl (k 9, 6, .inl (fun _ => 0))) :: (o, .inr (4, [.ref q7_0, .null, .null])) :: ws) H _ := h
  refine lv_aload_n X.1 X.2.1 dX4_init_12 rfl (lv_at hl 0 rfl) ?_
  refine lv_bipush (v := 6) X.1 X.2.1 dX4_init_13 (by decide) ?_
  refine k_newa (atype := .int) (ty := .int) (j := 0) (N := 6) (cA0 := k 9) (a0 := (6, .inl (fun _ => 0))) X h rfl ac_int aty_i rfl (fun _ => rfl) (by decide) (by decide) (Nat.le_of_ble_eq_true rfl) (Nat.le_of_ble_eq_true rfl) (Nat.le_of_ble_eq_true rfl) dX4_init_15 (fun q15_1 H h => ?_)
  refine k_putF X h hin ff_RX4_13 2 rfl rfl rfl (Nat.le_of_ble_eq_true rfl) dX4_init_17 (fun H _ h => ?_)
  have h : HK D N0 s ((q15_1, .inl (k 9, 6, .inl (fun _ => 0))) :: (q7_0, .inl (k 9, 6, .inl (fun _ => 0))) :: (o, .inr (4, [.ref q7_0, .ref q15_1, .null])) :: ws) H _ := h
  refine lv_aload_n X.1 X.2.1 dX4_init_20 rfl (lv_at hl 0 rfl) ?_
  refine lv_sipush (v := 360) X.1 X.2.1 dX4_init_21 (by decide) ?_
  refine k_newa (atype := .long) (ty := .long) (j := 3) (N := 360) (cA0 := k 12) (a0 := (360, .inr (.inl (fun _ => 0)))) X h rfl ac_long aty_l rfl (fun _ => rfl) (by decide) (by decide) (Nat.le_of_ble_eq_true rfl) (Nat.le_of_ble_eq_true rfl) (Nat.le_of_ble_eq_true rfl) dX4_init_24 (fun q24_2 H h => ?_)
  refine k_putF X h hin ff_RX4_16 3 rfl rfl rfl (Nat.le_of_ble_eq_true rfl) dX4_init_26 (fun H _ h => ?_)
  have h : HK D N0 s ((q24_2, .inl (k 12, 360, .inr (.inl (fun _ => 0)))) :: (q15_1, .inl (k 9, 6, .inl (fun _ => 0))) :: (q7_0, .inl (k 9, 6, .inl (fun _ => 0))) :: (o, .inr (4, [.ref q7_0, .ref q15_1, .ref q24_2])) :: ws) H _ := h
  refine lv_iconst (v := 0) X.1 X.2.1 dX4_init_29 (by decide) ?_
  refine lv_istore_n (lv' := [(1, .int 0), (0, .ref o)]) X.1 X.2.1 dX4_init_30 rfl hl (by decide) rfl (fun ls hl => ?_)
  refine lv_iload_n X.1 X.2.1 dX4_init_31 rfl (lv_at hl 0 rfl) ?_
  refine lv_bipush (v := 6) X.1 X.2.1 dX4_init_32 (by decide) ?_
  refine lv_icmp_ge (tgt := 50) X.1 X.2.1 dX4_init_34 (by decide) (fun c9 => absurd c9 (by decide)) (fun _ => ?_)
  refine lv_aload_n X.1 X.2.1 dX4_init_37 rfl (lv_at hl 1 rfl) ?_
  refine k_get X h fr_RX4_9 3 rfl rfl dX4_init_38 ?_
  refine lv_iload_n X.1 X.2.1 dX4_init_41 rfl (lv_at hl 0 rfl) ?_
  refine lv_iconst (v := (-1)) X.1 X.2.1 dX4_init_42 (by decide) ?_
  refine k_iast (i := 0) X h 2 rfl rfl (by decide) (by decide) dX4_init_43 (fun H _ h => ?_)
  have h : HK D N0 s ((q24_2, .inl (k 12, 360, .inr (.inl (fun _ => 0)))) :: (q15_1, .inl (k 9, 6, .inl (fun _ => 0))) :: (q7_0, .inl (k 9, 6, .inl (upd (fun _ => 0) 0 (-1)))) :: (o, .inr (4, [.ref q7_0, .ref q15_1, .ref q24_2])) :: ws) H _ := h
  refine lv_iinc (v := 1) (lv' := [(1, .int 1), (0, .ref o)]) X.1 X.2.1 dX4_init_44 hl (k := 0) rfl (by decide) (by decide) rfl (fun ls hl => ?_)
  refine lv_goto (tgt := 31) X.1 X.2.1 dX4_init_47 (by decide) ?_
  refine lv_iload_n X.1 X.2.1 dX4_init_31 rfl (lv_at hl 0 rfl) ?_
  refine lv_bipush (v := 6) X.1 X.2.1 dX4_init_32 (by decide) ?_
  refine lv_icmp_ge (tgt := 50) X.1 X.2.1 dX4_init_34 (by decide) (fun c9 => absurd c9 (by decide)) (fun _ => ?_)
  refine lv_aload_n X.1 X.2.1 dX4_init_37 rfl (lv_at hl 1 rfl) ?_
  refine k_get X h fr_RX4_9 3 rfl rfl dX4_init_38 ?_
  refine lv_iload_n X.1 X.2.1 dX4_init_41 rfl (lv_at hl 0 rfl) ?_
  refine lv_iconst (v := (-1)) X.1 X.2.1 dX4_init_42 (by decide) ?_
  refine k_iast (i := 1) X h 2 rfl rfl (by decide) (by decide) dX4_init_43 (fun H _ h => ?_)
  have h : HK D N0 s ((q24_2, .inl (k 12, 360, .inr (.inl (fun _ => 0)))) :: (q15_1, .inl (k 9, 6, .inl (fun _ => 0))) :: (q7_0, .inl (k 9, 6, .inl (upd (upd (fun _ => 0) 0 (-1)) 1 (-1)))) :: (o, .inr (4, [.ref q7_0, .ref q15_1, .ref q24_2])) :: ws) H _ := h
  refine lv_iinc (v := 2) (lv' := [(1, .int 2), (0, .ref o)]) X.1 X.2.1 dX4_init_44 hl (k := 0) rfl (by decide) (by decide) rfl (fun ls hl => ?_)
  refine lv_goto (tgt := 31) X.1 X.2.1 dX4_init_47 (by decide) ?_
  refine lv_iload_n X.1 X.2.1 dX4_init_31 rfl (lv_at hl 0 rfl) ?_
  refine lv_bipush (v := 6) X.1 X.2.1 dX4_init_32 (by decide) ?_
  refine lv_icmp_ge (tgt := 50) X.1 X.2.1 dX4_init_34 (by decide) (fun c9 => absurd c9 (by decide)) (fun _ => ?_)
  refine lv_aload_n X.1 X.2.1 dX4_init_37 rfl (lv_at hl 1 rfl) ?_
  refine k_get X h fr_RX4_9 3 rfl rfl dX4_init_38 ?_
  refine lv_iload_n X.1 X.2.1 dX4_init_41 rfl (lv_at hl 0 rfl) ?_
  refine lv_iconst (v := (-1)) X.1 X.2.1 dX4_init_42 (by decide) ?_
  refine k_iast (i := 2) X h 2 rfl rfl (by decide) (by decide) dX4_init_43 (fun H _ h => ?_)
  have h : HK D N0 s ((q24_2, .inl (k 12, 360, .inr (.inl (fun _ => 0)))) :: (q15_1, .inl (k 9, 6, .inl (fun _ => 0))) :: (q7_0, .inl (k 9, 6, .inl (upd (upd (upd (fun _ => 0) 0 (-1)) 1 (-1)) 2 (-1)))) :: (o, .inr (4, [.ref q7_0, .ref q15_1, .ref q24_2])) :: ws) H _ := h
  refine lv_iinc (v := 3) (lv' := [(1, .int 3), (0, .ref o)]) X.1 X.2.1 dX4_init_44 hl (k := 0) rfl (by decide) (by decide) rfl (fun ls hl => ?_)
  refine lv_goto (tgt := 31) X.1 X.2.1 dX4_init_47 (by decide) ?_
  refine lv_iload_n X.1 X.2.1 dX4_init_31 rfl (lv_at hl 0 rfl) ?_
  refine lv_bipush (v := 6) X.1 X.2.1 dX4_init_32 (by decide) ?_
  refine lv_icmp_ge (tgt := 50) X.1 X.2.1 dX4_init_34 (by decide) (fun c9 => absurd c9 (by decide)) (fun _ => ?_)
  refine lv_aload_n X.1 X.2.1 dX4_init_37 rfl (lv_at hl 1 rfl) ?_
  refine k_get X h fr_RX4_9 3 rfl rfl dX4_init_38 ?_
  refine lv_iload_n X.1 X.2.1 dX4_init_41 rfl (lv_at hl 0 rfl) ?_
  refine lv_iconst (v := (-1)) X.1 X.2.1 dX4_init_42 (by decide) ?_
  refine k_iast (i := 3) X h 2 rfl rfl (by decide) (by decide) dX4_init_43 (fun H _ h => ?_)
  have h : HK D N0 s ((q24_2, .inl (k 12, 360, .inr (.inl (fun _ => 0)))) :: (q15_1, .inl (k 9, 6, .inl (fun _ => 0))) :: (q7_0, .inl (k 9, 6, .inl (upd (upd (upd (upd (fun _ => 0) 0 (-1)) 1 (-1)) 2 (-1)) 3 (-1)))) :: (o, .inr (4, [.ref q7_0, .ref q15_1, .ref q24_2])) :: ws) H _ := h
  refine lv_iinc (v := 4) (lv' := [(1, .int 4), (0, .ref o)]) X.1 X.2.1 dX4_init_44 hl (k := 0) rfl (by decide) (by decide) rfl (fun ls hl => ?_)
  refine lv_goto (tgt := 31) X.1 X.2.1 dX4_init_47 (by decide) ?_
  refine lv_iload_n X.1 X.2.1 dX4_init_31 rfl (lv_at hl 0 rfl) ?_
  refine lv_bipush (v := 6) X.1 X.2.1 dX4_init_32 (by decide) ?_
  refine lv_icmp_ge (tgt := 50) X.1 X.2.1 dX4_init_34 (by decide) (fun c9 => absurd c9 (by decide)) (fun _ => ?_)
  refine lv_aload_n X.1 X.2.1 dX4_init_37 rfl (lv_at hl 1 rfl) ?_
  refine k_get X h fr_RX4_9 3 rfl rfl dX4_init_38 ?_
  refine lv_iload_n X.1 X.2.1 dX4_init_41 rfl (lv_at hl 0 rfl) ?_
  refine lv_iconst (v := (-1)) X.1 X.2.1 dX4_init_42 (by decide) ?_
  refine k_iast (i := 4) X h 2 rfl rfl (by decide) (by decide) dX4_init_43 (fun H _ h => ?_)
  have h : HK D N0 s ((q24_2, .inl (k 12, 360, .inr (.inl (fun _ => 0)))) :: (q15_1, .inl (k 9, 6, .inl (fun _ => 0))) :: (q7_0, .inl (k 9, 6, .inl (upd (upd (upd (upd (upd (fun _ => 0) 0 (-1)) 1 (-1)) 2 (-1)) 3 (-1)) 4 (-1)))) :: (o, .inr (4, [.ref q7_0, .ref q15_1, .ref q24_2])) :: ws) H _ := h
  refine lv_iinc (v := 5) (lv' := [(1, .int 5), (0, .ref o)]) X.1 X.2.1 dX4_init_44 hl (k := 0) rfl (by decide) (by decide) rfl (fun ls hl => ?_)
  refine lv_goto (tgt := 31) X.1 X.2.1 dX4_init_47 (by decide) ?_
  refine lv_iload_n X.1 X.2.1 dX4_init_31 rfl (lv_at hl 0 rfl) ?_
  refine lv_bipush (v := 6) X.1 X.2.1 dX4_init_32 (by decide) ?_
  refine lv_icmp_ge (tgt := 50) X.1 X.2.1 dX4_init_34 (by decide) (fun c9 => absurd c9 (by decide)) (fun _ => ?_)
  refine lv_aload_n X.1 X.2.1 dX4_init_37 rfl (lv_at hl 1 rfl) ?_
  refine k_get X h fr_RX4_9 3 rfl rfl dX4_init_38 ?_
  refine lv_iload_n X.1 X.2.1 dX4_init_41 rfl (lv_at hl 0 rfl) ?_
  refine lv_iconst (v := (-1)) X.1 X.2.1 dX4_init_42 (by decide) ?_
  refine k_iast (i := 5) X h 2 rfl rfl (by decide) (by decide) dX4_init_43 (fun H _ h => ?_)
  have h : HK D N0 s ((q24_2, .inl (k 12, 360, .inr (.inl (fun _ => 0)))) :: (q15_1, .inl (k 9, 6, .inl (fun _ => 0))) :: (q7_0, .inl (k 9, 6, .inl (upd (upd (upd (upd (upd (upd (fun _ => 0) 0 (-1)) 1 (-1)) 2 (-1)) 3 (-1)) 4 (-1)) 5 (-1)))) :: (o, .inr (4, [.ref q7_0, .ref q15_1, .ref q24_2])) :: ws) H _ := h
  refine lv_iinc (v := 6) (lv' := [(1, .int 6), (0, .ref o)]) X.1 X.2.1 dX4_init_44 hl (k := 0) rfl (by decide) (by decide) rfl (fun ls hl => ?_)
  refine lv_goto (tgt := 31) X.1 X.2.1 dX4_init_47 (by decide) ?_
  refine lv_iload_n X.1 X.2.1 dX4_init_31 rfl (lv_at hl 0 rfl) ?_
  refine lv_bipush (v := 6) X.1 X.2.1 dX4_init_32 (by decide) ?_
  refine lv_icmp_ge (tgt := 50) X.1 X.2.1 dX4_init_34 (by decide) (fun _ => ?_) (fun c9 => absurd (by decide) c9)
  exact k_vret X hr hlk h (fun i => ([0, q7_0, q15_1, q24_2] : List Nat).getD i 0) rfl (Nat.le_of_ble_eq_true rfl) (Nat.le_of_ble_eq_true rfl) dX4_init_50
set_option maxHeartbeats 4000000 in
set_option maxRecDepth 100000 in
theorem c_X5_init (l : Launch) (D : va_G) (k : Nat → ClassId) (N0 : Nat) (ws : va_W) (o : Nat) : CK l yX5_init cX5_init 1 1 21 1 100 D k N0 [.ref o] ((o, .inr (5, [.null, .int 0, .int 0])) :: ws) (fun a => bX k o a ++ ws) := by
  refine k_met (by decide) (Nat.le_of_ble_eq_true rfl) ?_
  intro p e s m args below meth c X hr hlk hin h ls hl
  refine lv_aload_n X.1 X.2.1 dX5_init_0 rfl (lv_at hl 0 rfl) ?_
  refine k_obj X hl.1 ml_RX5_3 ⟨Nat.le_of_ble_eq_true rfl, Nat.le_of_ble_eq_true rfl⟩ (Nat.le_of_ble_eq_true rfl) dX5_init_1 ?_
  refine lv_aload_n X.1 X.2.1 dX5_init_4 rfl (lv_at hl 0 rfl) ?_
  refine lv_bipush (v := 100) X.1 X.2.1 dX5_init_5 (by decide) ?_
  refine k_newa (atype := .byte) (ty := .byte) (j := 1) (N := 100) (cA0 := k 10) (a0 := (100, .inl (fun _ => 0))) X h rfl ac_byte aty_b rfl (fun _ => rfl) (by decide) (by decide) (Nat.le_of_ble_eq_true rfl) (Nat.le_of_ble_eq_true rfl) (Nat.le_of_ble_eq_true rfl) dX5_init_7 (fun q7_0 H h => ?_)
  refine k_putF X h hin ff_RX5_11 1 rfl rfl rfl (Nat.le_of_ble_eq_true rfl) dX5_init_9 (fun H _ h => ?_)
  have h : HK D N0 s ((q7_0, .inl (k 10, 100, .inl (fun _ => 0))) :: (o, .inr (5, [.ref q7_0, .int 0, .int 0])) :: ws) H _ := h
  exact k_vret X hr hlk h (fun i => ([0, q7_0] : List Nat).getD i 0) rfl (Nat.le_of_ble_eq_true rfl) (Nat.le_of_ble_eq_true rfl) dX5_init_12
set_option maxHeartbeats 4000000 in
set_option maxRecDepth 100000 in
theorem c_X6_init (l : Launch) (D : va_G) (k : Nat → ClassId) (N0 : Nat) (ws : va_W) (o : Nat) (il ld : Nat) (lf : List Value) (hld : ws[il]? = some (ld, .inr (1, lf))) (h0 : lf[0]? = some (.int 5)) (h1 : lf[1]? = some (.int 10)) (h2 : lf[2]? = some (.int 1)) : CK l yX6_init cX6_init 2 2 42 18 129 D k N0 [.ref o, .ref ld] ((o, .inr (6, [.null, .int 0, .int 0, .int 0, .null, .int 0, .null, .int 0, .int 0, .int 0, .null, .null, .null, .null])) :: ws) (fun a => bW k ld o a ++ ws) := by
  refine k_met (by decide) (Nat.le_of_ble_eq_true rfl) ?_
  intro p e s m args below meth c X hr hlk hin h ls hl
  refine lv_aload_n X.1 X.2.1 dX6_init_0 rfl (lv_at hl 0 rfl) ?_
  refine k_obj X hl.1 ml_RX6_3 ⟨Nat.le_of_ble_eq_true rfl, Nat.le_of_ble_eq_true rfl⟩ (Nat.le_of_ble_eq_true rfl) dX6_init_1 ?_
  refine lv_aload_n X.1 X.2.1 dX6_init_4 rfl (lv_at hl 0 rfl) ?_
  refine k_new (fs := [.int 0, .null, .null, .null, .null, .null, .null, .int 0]) X h kl3 cw_RX6_9 it_RX3 in_RX3 (fun j hj => by rcases (show j = 0 ∨ j = 1 ∨ j = 2 ∨ j = 3 ∨ j = 4 ∨ j = 5 ∨ j = 6 ∨ j = 7 by omega) with rfl | rfl | rfl | rfl | rfl | rfl | rfl | rfl <;> rfl) (Nat.le_of_ble_eq_true rfl) (Nat.le_of_ble_eq_true rfl) dX6_init_5 (fun q5_0 H h => ?_)
  refine lv_dup X.1 X.2.1 dX6_init_8 rfl ?_
  refine k_call X h (As := []) (rest := [.ref q5_0, .ref o]) (c_X3_init l D k N0 ((o, .inr (6, [.null, .int 0, .int 0, .int 0, .null, .int 0, .null, .int 0, .int 0, .int 0, .null, .null, .null, .null])) :: ws) q5_0) mn_X3_init ml_RX6_11 ⟨Nat.le_of_ble_eq_true rfl, Nat.le_of_ble_eq_true rfl⟩ rfl hl.1 rfl (Nat.le_of_ble_eq_true rfl) dX6_init_9 ⟨Nat.le_of_ble_eq_true rfl, Nat.le_of_ble_eq_true rfl⟩ (fun a9_1 H _ h => ?_)
  have h : HK D N0 s (bE k q5_0 a9_1 ++ ((o, .inr (6, [.null, .int 0, .int 0, .int 0, .null, .int 0, .null, .int 0, .int 0, .int 0, .null, .null, .null, .null])) :: ws)) H _ := h
  refine k_putF X h hin ff_RX6_12 7 rfl rfl rfl (Nat.le_of_ble_eq_true rfl) dX6_init_12 (fun H _ h => ?_)
  have h : HK D N0 s (bE k q5_0 a9_1 ++ ((o, .inr (6, [.ref q5_0, .int 0, .int 0, .int 0, .null, .int 0, .null, .int 0, .int 0, .int 0, .null, .null, .null, .null])) :: ws)) H _ := h
  refine lv_aload_n X.1 X.2.1 dX6_init_15 rfl (lv_at hl 0 rfl) ?_
  refine lv_bipush (v := 50) X.1 X.2.1 dX6_init_16 (by decide) ?_
  refine k_put X h fp_RX6_18 7 rfl rfl rfl (Nat.le_of_ble_eq_true rfl) dX6_init_18 (fun H _ h => ?_)
  have h : HK D N0 s (bE k q5_0 a9_1 ++ ((o, .inr (6, [.ref q5_0, .int 50, .int 0, .int 0, .null, .int 0, .null, .int 0, .int 0, .int 0, .null, .null, .null, .null])) :: ws)) H _ := h
  refine lv_aload_n X.1 X.2.1 dX6_init_21 rfl (lv_at hl 0 rfl) ?_
  refine lv_bipush (v := 6) X.1 X.2.1 dX6_init_22 (by decide) ?_
  refine k_newa (atype := .int) (ty := .int) (j := 0) (N := 6) (cA0 := k 9) (a0 := (6, .inl (fun _ => 0))) X h rfl ac_int aty_i rfl (fun _ => rfl) (by decide) (by decide) (Nat.le_of_ble_eq_true rfl) (Nat.le_of_ble_eq_true rfl) (Nat.le_of_ble_eq_true rfl) dX6_init_24 (fun q24_2 H h => ?_)
  refine k_putF X h hin ff_RX6_22 8 rfl rfl rfl (Nat.le_of_ble_eq_true rfl) dX6_init_26 (fun H _ h => ?_)
  have h : HK D N0 s ((q24_2, .inl (k 9, 6, .inl (fun _ => 0))) :: (bE k q5_0 a9_1 ++ ((o, .inr (6, [.ref q5_0, .int 50, .int 0, .int 0, .ref q24_2, .int 0, .null, .int 0, .int 0, .int 0, .null, .null, .null, .null])) :: ws))) H _ := h
  refine lv_aload_n X.1 X.2.1 dX6_init_29 rfl (lv_at hl 0 rfl) ?_
  refine lv_bipush (v := 6) X.1 X.2.1 dX6_init_30 (by decide) ?_
  refine k_newa (atype := .int) (ty := .int) (j := 0) (N := 6) (cA0 := k 9) (a0 := (6, .inl (fun _ => 0))) X h rfl ac_int aty_i rfl (fun _ => rfl) (by decide) (by decide) (Nat.le_of_ble_eq_true rfl) (Nat.le_of_ble_eq_true rfl) (Nat.le_of_ble_eq_true rfl) dX6_init_32 (fun q32_3 H h => ?_)
  refine k_putF X h hin ff_RX6_26 9 rfl rfl rfl (Nat.le_of_ble_eq_true rfl) dX6_init_34 (fun H _ h => ?_)
  have h : HK D N0 s ((q32_3, .inl (k 9, 6, .inl (fun _ => 0))) :: (q24_2, .inl (k 9, 6, .inl (fun _ => 0))) :: (bE k q5_0 a9_1 ++ ((o, .inr (6, [.ref q5_0, .int 50, .int 0, .int 0, .ref q24_2, .int 0, .null, .int 0, .int 0, .int 0, .ref q32_3, .null, .null, .null])) :: ws))) H _ := h
  refine lv_aload_n X.1 X.2.1 dX6_init_37 rfl (lv_at hl 0 rfl) ?_
  refine k_new (fs := [.null, .null, .int 0]) X h kl2 cw_RX6_29 it_RX2 in_RX2 (fun j hj => by rcases (show j = 0 ∨ j = 1 ∨ j = 2 by omega) with rfl | rfl | rfl <;> rfl) (Nat.le_of_ble_eq_true rfl) (Nat.le_of_ble_eq_true rfl) dX6_init_38 (fun q38_4 H h => ?_)
  refine lv_dup X.1 X.2.1 dX6_init_41 rfl ?_
  refine lv_iconst (v := 5) X.1 X.2.1 dX6_init_42 (by decide) ?_
  refine k_call X h (As := [.int 5]) (rest := [.ref q38_4, .ref o]) (c_X2_init_5 l D k N0 ((q32_3, .inl (k 9, 6, .inl (fun _ => 0))) :: (q24_2, .inl (k 9, 6, .inl (fun _ => 0))) :: (bE k q5_0 a9_1 ++ ((o, .inr (6, [.ref q5_0, .int 50, .int 0, .int 0, .ref q24_2, .int 0, .null, .int 0, .int 0, .int 0, .ref q32_3, .null, .null, .null])) :: ws))) q38_4) mn_X2_init ml_RX6_31 ⟨Nat.le_of_ble_eq_true rfl, Nat.le_of_ble_eq_true rfl⟩ rfl hl.1 rfl (Nat.le_of_ble_eq_true rfl) dX6_init_43 ⟨Nat.le_of_ble_eq_true rfl, Nat.le_of_ble_eq_true rfl⟩ (fun a43_5 H _ h => ?_)
  have h : HK D N0 s (bQ k 5 q38_4 a43_5 ++ ((q32_3, .inl (k 9, 6, .inl (fun _ => 0))) :: (q24_2, .inl (k 9, 6, .inl (fun _ => 0))) :: (bE k q5_0 a9_1 ++ ((o, .inr (6, [.ref q5_0, .int 50, .int 0, .int 0, .ref q24_2, .int 0, .null, .int 0, .int 0, .int 0, .ref q32_3, .null, .null, .null])) :: ws)))) H _ := h
  refine k_putF X h hin ff_RX6_34 12 rfl rfl rfl (Nat.le_of_ble_eq_true rfl) dX6_init_46 (fun H _ h => ?_)
  have h : HK D N0 s (bQ k 5 q38_4 a43_5 ++ ((q32_3, .inl (k 9, 6, .inl (fun _ => 0))) :: (q24_2, .inl (k 9, 6, .inl (fun _ => 0))) :: (bE k q5_0 a9_1 ++ ((o, .inr (6, [.ref q5_0, .int 50, .int 0, .int 0, .ref q24_2, .int 0, .null, .int 0, .int 0, .int 0, .ref q32_3, .ref q38_4, .null, .null])) :: ws)))) H _ := h
  refine lv_aload_n X.1 X.2.1 dX6_init_49 rfl (lv_at hl 0 rfl) ?_
  refine k_new (fs := [.null, .null, .int 0]) X h kl2 cw_RX6_29 it_RX2 in_RX2 (fun j hj => by rcases (show j = 0 ∨ j = 1 ∨ j = 2 by omega) with rfl | rfl | rfl <;> rfl) (Nat.le_of_ble_eq_true rfl) (Nat.le_of_ble_eq_true rfl) dX6_init_50 (fun q50_6 H h => ?_)
  refine lv_dup X.1 X.2.1 dX6_init_53 rfl ?_
  refine lv_bipush (v := 10) X.1 X.2.1 dX6_init_54 (by decide) ?_
  refine k_call X h (As := [.int 10]) (rest := [.ref q50_6, .ref o]) (c_X2_init_10 l D k N0 (bQ k 5 q38_4 a43_5 ++ ((q32_3, .inl (k 9, 6, .inl (fun _ => 0))) :: (q24_2, .inl (k 9, 6, .inl (fun _ => 0))) :: (bE k q5_0 a9_1 ++ ((o, .inr (6, [.ref q5_0, .int 50, .int 0, .int 0, .ref q24_2, .int 0, .null, .int 0, .int 0, .int 0, .ref q32_3, .ref q38_4, .null, .null])) :: ws)))) q50_6) mn_X2_init ml_RX6_31 ⟨Nat.le_of_ble_eq_true rfl, Nat.le_of_ble_eq_true rfl⟩ rfl hl.1 rfl (Nat.le_of_ble_eq_true rfl) dX6_init_56 ⟨Nat.le_of_ble_eq_true rfl, Nat.le_of_ble_eq_true rfl⟩ (fun a56_7 H _ h => ?_)
  have h : HK D N0 s (bQ k 10 q50_6 a56_7 ++ (bQ k 5 q38_4 a43_5 ++ ((q32_3, .inl (k 9, 6, .inl (fun _ => 0))) :: (q24_2, .inl (k 9, 6, .inl (fun _ => 0))) :: (bE k q5_0 a9_1 ++ ((o, .inr (6, [.ref q5_0, .int 50, .int 0, .int 0, .ref q24_2, .int 0, .null, .int 0, .int 0, .int 0, .ref q32_3, .ref q38_4, .null, .null])) :: ws))))) H _ := h
  refine k_putF X h hin ff_RX6_38 15 rfl rfl rfl (Nat.le_of_ble_eq_true rfl) dX6_init_59 (fun H _ h => ?_)
  have h : HK D N0 s (bQ k 10 q50_6 a56_7 ++ (bQ k 5 q38_4 a43_5 ++ ((q32_3, .inl (k 9, 6, .inl (fun _ => 0))) :: (q24_2, .inl (k 9, 6, .inl (fun _ => 0))) :: (bE k q5_0 a9_1 ++ ((o, .inr (6, [.ref q5_0, .int 50, .int 0, .int 0, .ref q24_2, .int 0, .null, .int 0, .int 0, .int 0, .ref q32_3, .ref q38_4, .ref q50_6, .null])) :: ws))))) H _ := h
  refine lv_aload_n X.1 X.2.1 dX6_init_62 rfl (lv_at hl 0 rfl) ?_
  refine k_new (fs := [.null, .null, .int 0]) X h kl2 cw_RX6_29 it_RX2 in_RX2 (fun j hj => by rcases (show j = 0 ∨ j = 1 ∨ j = 2 by omega) with rfl | rfl | rfl <;> rfl) (Nat.le_of_ble_eq_true rfl) (Nat.le_of_ble_eq_true rfl) dX6_init_63 (fun q63_8 H h => ?_)
  refine lv_dup X.1 X.2.1 dX6_init_66 rfl ?_
  refine lv_bipush (v := 8) X.1 X.2.1 dX6_init_67 (by decide) ?_
  refine k_call X h (As := [.int 8]) (rest := [.ref q63_8, .ref o]) (c_X2_init_8 l D k N0 (bQ k 10 q50_6 a56_7 ++ (bQ k 5 q38_4 a43_5 ++ ((q32_3, .inl (k 9, 6, .inl (fun _ => 0))) :: (q24_2, .inl (k 9, 6, .inl (fun _ => 0))) :: (bE k q5_0 a9_1 ++ ((o, .inr (6, [.ref q5_0, .int 50, .int 0, .int 0, .ref q24_2, .int 0, .null, .int 0, .int 0, .int 0, .ref q32_3, .ref q38_4, .ref q50_6, .null])) :: ws))))) q63_8) mn_X2_init ml_RX6_31 ⟨Nat.le_of_ble_eq_true rfl, Nat.le_of_ble_eq_true rfl⟩ rfl hl.1 rfl (Nat.le_of_ble_eq_true rfl) dX6_init_69 ⟨Nat.le_of_ble_eq_true rfl, Nat.le_of_ble_eq_true rfl⟩ (fun a69_9 H _ h => ?_)
  have h : HK D N0 s (bQ k 8 q63_8 a69_9 ++ (bQ k 10 q50_6 a56_7 ++ (bQ k 5 q38_4 a43_5 ++ ((q32_3, .inl (k 9, 6, .inl (fun _ => 0))) :: (q24_2, .inl (k 9, 6, .inl (fun _ => 0))) :: (bE k q5_0 a9_1 ++ ((o, .inr (6, [.ref q5_0, .int 50, .int 0, .int 0, .ref q24_2, .int 0, .null, .int 0, .int 0, .int 0, .ref q32_3, .ref q38_4, .ref q50_6, .null])) :: ws)))))) H _ := h
  refine k_putF X h hin ff_RX6_41 18 rfl rfl rfl (Nat.le_of_ble_eq_true rfl) dX6_init_72 (fun H _ h => ?_)
  have h : HK D N0 s (bQ k 8 q63_8 a69_9 ++ (bQ k 10 q50_6 a56_7 ++ (bQ k 5 q38_4 a43_5 ++ ((q32_3, .inl (k 9, 6, .inl (fun _ => 0))) :: (q24_2, .inl (k 9, 6, .inl (fun _ => 0))) :: (bE k q5_0 a9_1 ++ ((o, .inr (6, [.ref q5_0, .int 50, .int 0, .int 0, .ref q24_2, .int 0, .null, .int 0, .int 0, .int 0, .ref q32_3, .ref q38_4, .ref q50_6, .ref q63_8])) :: ws)))))) H _ := h
  refine lv_aload_n X.1 X.2.1 dX6_init_75 rfl (lv_at hl 0 rfl) ?_
  refine lv_aload_n X.1 X.2.1 dX6_init_76 rfl (lv_at hl 1 rfl) ?_
  refine k_callV X h (As := [.ref ld]) (rest := []) (c_X6_settle_k l D k N0 (bQ k 8 q63_8 a69_9 ++ (bQ k 10 q50_6 a56_7 ++ (bQ k 5 q38_4 a43_5 ++ ((q32_3, .inl (k 9, 6, .inl (fun _ => 0))) :: (q24_2, .inl (k 9, 6, .inl (fun _ => 0))) :: (bE k q5_0 a9_1 ++ ((o, .inr (6, [.ref q5_0, .int 50, .int 0, .int 0, .ref q24_2, .int 0, .null, .int 0, .int 0, .int 0, .ref q32_3, .ref q38_4, .ref q50_6, .ref q63_8])) :: ws)))))) 18 o (il + 19) ld _ lf rfl hld (by omega) rfl h0 h1 h2) mi_X6_settle ml_RX6_44 18 rfl kl6 rfl ⟨Nat.le_of_ble_eq_true rfl, Nat.le_of_ble_eq_true rfl⟩ rfl hl.1 rfl (Nat.le_of_ble_eq_true rfl) dX6_init_77 ⟨Nat.le_of_ble_eq_true rfl, Nat.le_of_ble_eq_true rfl⟩ (fun a77_10 H _ h => ?_)
  have h : HK D N0 s (bQ k 8 q63_8 a69_9 ++ (bQ k 10 q50_6 a56_7 ++ (bQ k 5 q38_4 a43_5 ++ ((q32_3, .inl (k 9, 6, .inl (fun _ => 0))) :: (q24_2, .inl (k 9, 6, .inl (fun _ => 0))) :: (bE k q5_0 a9_1 ++ ((o, .inr (6, [.ref q5_0, .int 50, .int 0, .int 0, .ref q24_2, .int 0, .ref ld, .int 5, .int 10, .int 1, .ref q32_3, .ref q38_4, .ref q50_6, .ref q63_8])) :: ws)))))) H _ := h
  exact k_vret X hr hlk h (fun i => ([0, q5_0, a9_1 1, a9_1 2, a9_1 3, a9_1 4, a9_1 5, a9_1 6, q24_2, q32_3, q38_4, a43_5 1, a43_5 2, q50_6, a56_7 1, a56_7 2, q63_8, a69_9 1, a69_9 2] : List Nat).getD i 0) rfl (Nat.le_of_ble_eq_true rfl) (Nat.le_of_ble_eq_true rfl) dX6_init_80
