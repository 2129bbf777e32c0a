/-! acts: what each kind answers, and which bodies run -/
def abS (x : Int32) : Int32 := if x = 4 then 1 else if x = 5 then 2 else if x = 6 then 3 else 0
def opV (kd : Nat) (p vv x : Int32) : Int32 := if kd = 2 ∨ kd = 5 then x * 3 + p else if kd = 4 then -(x + p) else if kd = 6 then (x + p) ^^^ vv else x + p
def opL (kd : Nat) : List Int32 := if kd = 2 ∨ kd = 5 then [30, 10] else if kd = 4 then [50, 10] else if kd = 6 then [71, 10] else [10]
def pr0 (own : Nat) (p vv x : Int32) : Int32 := opV own p vv x - vv
def prV (own kd : Nat) (p vv x : Int32) : Int32 := if kd = 1 then pr0 own p vv x ^^^ 6 else if kd = 4 then pr0 own p vv (x + 1) ^^^ 6 else if kd = 6 then pr0 own p vv x + (2 + p) else pr0 own p vv x
def prL (own kd : Nat) : List Int32 := if kd = 1 then 20 :: 11 :: opL own else if kd = 4 then 51 :: 20 :: 11 :: opL own else if kd = 6 then 70 :: ((11 :: opL own) ++ [10]) else 11 :: opL own
def tl0 (own : Nat) (p vv x : Int32) : Int32 := prV own own p vv x * 2
def tlV (own kd : Nat) (p vv x : Int32) : Int32 := if kd = 3 ∨ kd = 6 then tl0 own p vv x + prV own own p vv 1 else if kd = 5 then tl0 own p vv (x - p) else tl0 own p vv x
def tlL (own kd : Nat) : List Int32 := if kd = 3 ∨ kd = 6 then 40 :: ((12 :: prL own own) ++ prL own own) else if kd = 5 then 60 :: 12 :: prL own own else 12 :: prL own own
def ranV (v : VV) (t : Nat) (b : Int32) : VV := up2 (if t < 20 then up2 v 141 t b else v) 116 43 (nI (t + 1))
def ranL (v : VV) (t : Nat) : List Int32 → VV
  | [] => v
  | b :: l => ranL (ranV v t b) (t + 1) l
theorem ranV_ne {v : VV} {t : Nat} {b : Int32} {i : Nat} (h : i ≠ 141) (h2 : i ≠ 116) : ranV v t b i = v i := by
  unfold ranV
  rw [up2_ne h2]
  split
  · exact up2_ne h
  · rfl
theorem ranV_43 {v : VV} {t : Nat} {b : Int32} : ranV v t b 116 43 = nI (t + 1) := by simp [ranV, up2]
theorem ranL_ne {i : Nat} (h : i ≠ 141) (h2 : i ≠ 116) : ∀ (l : List Int32) (v : VV) (t : Nat), ranL v t l i = v i
  | [], _, _ => rfl
  | b :: l, v, t => by rw [ranL, ranL_ne h h2 l]; exact ranV_ne h h2
theorem ranL_43 : ∀ (l : List Int32) (v : VV) (t : Nat), v 116 43 = nI t → ranL v t l 116 43 = nI (t + l.length)
  | [], _, _, h => h
  | b :: l, v, t, _ => by rw [ranL, ranL_43 l _ _ ranV_43, List.length_cons, show t + 1 + l.length = t + (l.length + 1) by omega]
theorem ranL_app : ∀ (a b : List Int32) (v : VV) (t : Nat), ranL (ranL v t a) (t + a.length) b = ranL v t (a ++ b)
  | [], _, _, _ => rfl
  | x :: a, b, v, t => by
    rw [ranL, List.cons_append, ranL, ← ranL_app a b (ranV v t x) (t + 1), List.length_cons, show t + 1 + a.length = t + (a.length + 1) by omega]
theorem kind7 {x : Int32} {o : Nat} (h : x = nI o) (ho : o ≤ 6) : x = 0 ∨ x = 1 ∨ x = 2 ∨ x = 3 ∨ x = 4 ∨ x = 5 ∨ x = 6 := by
  rcases (show o = 0 ∨ o = 1 ∨ o = 2 ∨ o = 3 ∨ o = 4 ∨ o = 5 ∨ o = 6 by omega) with rfl | rfl | rfl | rfl | rfl | rfl | rfl
  · exact Or.inl h
  · exact Or.inr (Or.inl h)
  · exact Or.inr (Or.inr (Or.inl h))
  · exact Or.inr (Or.inr (Or.inr (Or.inl h)))
  · exact Or.inr (Or.inr (Or.inr (Or.inr (Or.inl h))))
  · exact Or.inr (Or.inr (Or.inr (Or.inr (Or.inr (Or.inl h)))))
  · exact Or.inr (Or.inr (Or.inr (Or.inr (Or.inr (Or.inr h)))))
theorem prL_len (own kd : Nat) (h : own ≤ 6) (hk : kd ≤ 6) : (prL own kd).length ≤ 6 := by
  rcases (show own = 0 ∨ own = 1 ∨ own = 2 ∨ own = 3 ∨ own = 4 ∨ own = 5 ∨ own = 6 by omega) with rfl | rfl | rfl | rfl | rfl | rfl | rfl <;>
  rcases (show kd = 0 ∨ kd = 1 ∨ kd = 2 ∨ kd = 3 ∨ kd = 4 ∨ kd = 5 ∨ kd = 6 by omega) with rfl | rfl | rfl | rfl | rfl | rfl | rfl <;> decide
set_option maxRecDepth 100000 in
set_option maxHeartbeats 1000000 in
theorem c_X8_above (gl : Launch) (Z : PL) (v : VV) (w : WV) (x0 : Int32) : CT gl yX8_above cX8_above 1 (some .int) 0 0 Z [.int x0] v w (Qi Z (fun r u => r = abS x0 ∧ (v, w) = u)) := by
  refine g_met (by decide) (Nat.le_of_ble_eq_true rfl) ?_
  intro gp ge gs gm ga gb gh gc X h ls hl
  have hx := X.1
  have hb := X.2.1
  have hl : lv_has ls 1 [(0, .int x0)] := hl
  refine lv_iload_n hx hb dX8_above_0 rfl (lv_at hl 0 rfl) ?_
  refine lv_iconst (v := 4) hx hb dX8_above_1 (by decide) ?_
  refine lv_icmp_ne (tgt := 9) hx hb dX8_above_2 (by decide) (fun c_2 => ?_) (fun c_2 => ?_)
  · skip
    refine lv_iload_n hx hb dX8_above_9 rfl (lv_at hl 0 rfl) ?_
    refine lv_iconst (v := 5) hx hb dX8_above_10 (by decide) ?_
    refine lv_icmp_ne (tgt := 18) hx hb dX8_above_11 (by decide) (fun c_11 => ?_) (fun c_11 => ?_)
    · skip
      refine lv_iload_n hx hb dX8_above_18 rfl (lv_at hl 0 rfl) ?_
      refine lv_bipush (v := 6) hx hb dX8_above_19 (by decide) ?_
      refine lv_icmp_ne (tgt := 28) hx hb dX8_above_21 (by decide) (fun c_21 => ?_) (fun c_21 => ?_)
      · skip
        refine lv_iconst (v := 0) hx hb dX8_above_28 (by decide) ?_
        exact g_iret X h dX8_above_29 ⟨by simp [abS, c_2, c_11, c_21], rfl⟩
      · skip
        refine lv_iconst (v := 3) hx hb dX8_above_24 (by decide) ?_
        refine lv_goto (tgt := 29) hx hb dX8_above_25 (by decide) ?_
        exact g_iret X h dX8_above_29 ⟨by simp [abS, c_2, c_11, c_21], rfl⟩
    · skip
      refine lv_iconst (v := 2) hx hb dX8_above_14 (by decide) ?_
      refine lv_goto (tgt := 29) hx hb dX8_above_15 (by decide) ?_
      exact g_iret X h dX8_above_29 ⟨by simp [abS, c_2, c_11], rfl⟩
  · skip
    refine lv_iconst (v := 1) hx hb dX8_above_5 (by decide) ?_
    refine lv_goto (tgt := 29) hx hb dX8_above_6 (by decide) ?_
    exact g_iret X h dX8_above_29 ⟨by simp [abS, c_2], rfl⟩

set_option maxRecDepth 100000 in
set_option maxHeartbeats 1000000 in
theorem c_X8_ran (gl : Launch) (Z : PL) (v : VV) (w : WV) (x0 : Int32) (t : Nat) (htr : v 116 43 = nI t) (ht9 : t < 1000) : CT gl yX8_ran cX8_ran 2 none 0 0 Z [.ref (zg Z 116), .int x0] v w (Qv Z (fun u => (ranV v t x0, w) = u)) := by
  refine g_met (by decide) (Nat.le_of_ble_eq_true rfl) ?_
  intro gp ge gs gm ga gb gh gc X h ls hl
  have hx := X.1
  have hb := X.2.1
  have hl : lv_has ls 2 [(0, .ref (zg Z 116)), (1, .int x0)] := hl
  refine lv_aload_n hx hb dX8_ran_0 rfl (lv_at hl 0 rfl) ?_
  refine g_geti X h (k := 43) (cc_116) fr_RX8_318 rfl (by decide) dX8_ran_1 ?_
  refine lv_bipush (v := 20) hx hb dX8_ran_4 (by decide) ?_
  refine lv_icmp_ge (tgt := 19) hx hb dX8_ran_6 (by decide) (fun c_6 => ?_) (fun c_6 => ?_)
  · skip
    have ht20 := nI_le1 (a := 20) (b := t) rfl htr (by omega) (by omega) c_6
    refine lv_aload_n hx hb dX8_ran_19 rfl (lv_at hl 0 rfl) ?_
    refine lv_dup hx hb dX8_ran_20 rfl ?_
    refine g_geti X h (k := 43) (cc_116) fr_RX8_318 rfl (by decide) dX8_ran_21 ?_
    refine lv_iconst (v := 1) hx hb dX8_ran_24 (by decide) ?_
    refine lv_iadd hx hb dX8_ran_25 ?_
    refine g_puti X h (k := 43) (cc_116) fp_RX8_318 rfl (by decide) dX8_ran_26 (fun v26 H locs ev26 h => ?_)
    exact g_vret X h dX8_ran_29 (by refine congrArg (fun z => (z, w)) ?_; rw [ranV, if_neg (by omega), ev26, htr, nI_1])
  · skip
    have ht20 := nI_le0 (a := 20) (b := t) rfl htr (by omega) (by omega) c_6
    refine lv_aload_n hx hb dX8_ran_9 rfl (lv_at hl 0 rfl) ?_
    refine g_getr X h (k := 44) (t := 141) (cc_116) fr_RX8_85 rfl (by decide) (by decide) (by decide) dX8_ran_10 ?_
    refine lv_aload_n hx hb dX8_ran_13 rfl (lv_at hl 0 rfl) ?_
    refine g_geti X h (k := 43) (cc_116) fr_RX8_318 rfl (by decide) dX8_ran_14 ?_
    refine lv_iload_n hx hb dX8_ran_17 rfl (lv_at hl 1 rfl) ?_
    refine g_iast X h (k := t) (cc_141) htr (by omega) (by decide) dX8_ran_18 (fun v18 H locs ev18 h => ?_)
    refine lv_aload_n hx hb dX8_ran_19 rfl (lv_at hl 0 rfl) ?_
    refine lv_dup hx hb dX8_ran_20 rfl ?_
    refine g_geti X h (k := 43) (cc_116) fr_RX8_318 rfl (by decide) dX8_ran_21 ?_
    refine g_tr (y := (v 116 43)) (by simp [ev18, up2, upc]) ?_
    refine lv_iconst (v := 1) hx hb dX8_ran_24 (by decide) ?_
    refine lv_iadd hx hb dX8_ran_25 ?_
    refine g_puti X h (k := 43) (cc_116) fp_RX8_318 rfl (by decide) dX8_ran_26 (fun v26 H locs ev26 h => ?_)
    exact g_vret X h dX8_ran_29 (by refine congrArg (fun z => (z, w)) ?_; rw [ranV, if_pos ht20, ev26, ev18, htr, nI_1])

set_option maxRecDepth 100000 in
set_option maxHeartbeats 1000000 in
theorem c_X8_opens__k0 (gl : Launch) (Z : PL) (v : VV) (w : WV) (x0 : Int32) (p : Nat) (hp : x0 = nI p) (x2 : Int32) (hp6 : p < 6) (own : Nat) (ho6 : own ≤ 6) (t : Nat) (hkd : v 117 p = nI own) (htr : v 116 43 = nI t) (ht9 : t < 900) : CT gl yX8_opens_ cX8_opens_ 4 (some .int) 1 21 Z [.ref (zg Z 116), .int x0, .int 0, .int x2] v w (Qi Z (fun r u => r = opV 0 x0 (v 118 p) x2 ∧ (ranL v t (opL 0), w) = u)) := by
  refine g_met (by decide) (Nat.le_of_ble_eq_true rfl) ?_
  intro gp ge gs gm ga gb gh gc X h ls hl
  have hx := X.1
  have hb := X.2.1
  have hl : lv_has ls 4 [(0, .ref (zg Z 116)), (1, .int x0), (2, .int 0), (3, .int x2)] := hl
  refine lv_iload_n hx hb dX8_opens__0 rfl (lv_at hl 2 rfl) ?_
  refine lv_tableIn (off := 95) (tgt := 96) hx hb dX8_opens__1 (by decide) (by decide) (by decide) (by decide) ?_
  refine lv_aload_n hx hb dX8_opens__96 rfl (lv_at hl 0 rfl) ?_
  refine lv_bipush (v := 10) hx hb dX8_opens__97 (by decide) ?_
  refine g_kv h (g_runV X h (As := [.int 10]) (rest := []) (c_X8_ran gl Z v w 10 t htr (by omega)) mi_X8_ran ml_RX8_321 (cc_116) (by decide) kl8 rfl ⟨Nat.le_of_ble_eq_true rfl, Nat.le_of_ble_eq_true rfl⟩ rfl hl.1 rfl (Nat.le_of_ble_eq_true rfl) dX8_opens__99) (fun v99 w99 H locs hp99 h => ?_)
  obtain ⟨ev99, rfl⟩ := Prod.mk.inj hp99
  replace ev99 := ev99.symm
  refine lv_iload_n hx hb dX8_opens__102 rfl (lv_at hl 3 rfl) ?_
  refine lv_iload_n hx hb dX8_opens__103 rfl (lv_at hl 1 rfl) ?_
  refine lv_iadd hx hb dX8_opens__104 ?_
  exact g_iret X h dX8_opens__105 ⟨rfl, (by rw [ev99]; rfl)⟩

set_option maxRecDepth 100000 in
set_option maxHeartbeats 1000000 in
theorem c_X8_opens__k1 (gl : Launch) (Z : PL) (v : VV) (w : WV) (x0 : Int32) (p : Nat) (hp : x0 = nI p) (x2 : Int32) (hp6 : p < 6) (own : Nat) (ho6 : own ≤ 6) (t : Nat) (hkd : v 117 p = nI own) (htr : v 116 43 = nI t) (ht9 : t < 899) : CT gl yX8_opens_ cX8_opens_ 4 (some .int) 2 44 Z [.ref (zg Z 116), .int x0, .int 1, .int x2] v w (Qi Z (fun r u => r = opV 1 x0 (v 118 p) x2 ∧ (ranL v t (opL 1), w) = u)) := by
  refine g_met (by decide) (Nat.le_of_ble_eq_true rfl) ?_
  intro gp ge gs gm ga gb gh gc X h ls hl
  have hx := X.1
  have hb := X.2.1
  have hl : lv_has ls 4 [(0, .ref (zg Z 116)), (1, .int x0), (2, .int 1), (3, .int x2)] := hl
  refine lv_iload_n hx hb dX8_opens__0 rfl (lv_at hl 2 rfl) ?_
  refine lv_tableIn (off := 105) (tgt := 106) hx hb dX8_opens__1 (by decide) (by decide) (by decide) (by decide) ?_
  refine lv_aload_n hx hb dX8_opens__106 rfl (lv_at hl 0 rfl) ?_
  refine lv_iload_n hx hb dX8_opens__107 rfl (lv_at hl 1 rfl) ?_
  refine lv_iload_n hx hb dX8_opens__108 rfl (lv_at hl 2 rfl) ?_
  refine g_ki h (g_runS X h (As := [.int 1]) (rest := [.int x0, .ref (zg Z 116)]) (c_X8_above gl Z v w 1) ms_X8_above ml_RX8_327 ⟨Nat.le_of_ble_eq_true rfl, Nat.le_of_ble_eq_true rfl⟩ rfl hl.1 rfl (Nat.le_of_ble_eq_true rfl) dX8_opens__109) (fun r109 v109 w109 H locs hp109 h => ?_)
  obtain ⟨hr109, hu109⟩ := hp109; obtain ⟨rfl, rfl⟩ := Prod.mk.inj hu109
  refine g_tr (y := 0) (hr109.trans (by decide)) ?_
  refine lv_iload_n hx hb dX8_opens__112 rfl (lv_at hl 3 rfl) ?_
  refine g_ki h (g_runV X h (As := [.int x0, .int 0, .int x2]) (rest := []) (c_X8_opens__k0 gl Z v w x0 p hp x2 hp6 own ho6 t hkd htr (by omega)) mi_X8_opens_ ml_RX8_324 (cc_116) (by decide) kl8 rfl ⟨Nat.le_of_ble_eq_true rfl, Nat.le_of_ble_eq_true rfl⟩ rfl hl.1 rfl (Nat.le_of_ble_eq_true rfl) dX8_opens__113) (fun r113 v113 w113 H locs hp113 h => ?_)
  obtain ⟨hr113, hw113⟩ := hp113
  obtain ⟨ev113, rfl⟩ := Prod.mk.inj hw113
  replace ev113 := ev113.symm
  exact g_iret X h dX8_opens__116 (by refine ⟨?_, by rw [ev113]; rfl⟩; rw [hr113]; rfl)

set_option maxRecDepth 100000 in
set_option maxHeartbeats 1000000 in
theorem c_X8_opens__k2 (gl : Launch) (Z : PL) (v : VV) (w : WV) (x0 : Int32) (p : Nat) (hp : x0 = nI p) (x2 : Int32) (hp6 : p < 6) (own : Nat) (ho6 : own ≤ 6) (t : Nat) (hkd : v 117 p = nI own) (htr : v 116 43 = nI t) (ht9 : t < 899) : CT gl yX8_opens_ cX8_opens_ 4 (some .int) 2 44 Z [.ref (zg Z 116), .int x0, .int 2, .int x2] v w (Qi Z (fun r u => r = opV 2 x0 (v 118 p) x2 ∧ (ranL v t (opL 2), w) = u)) := by
  refine g_met (by decide) (Nat.le_of_ble_eq_true rfl) ?_
  intro gp ge gs gm ga gb gh gc X h ls hl
  have hx := X.1
  have hb := X.2.1
  have hl : lv_has ls 4 [(0, .ref (zg Z 116)), (1, .int x0), (2, .int 2), (3, .int x2)] := hl
  refine lv_iload_n hx hb dX8_opens__0 rfl (lv_at hl 2 rfl) ?_
  refine lv_tableIn (off := 43) (tgt := 44) hx hb dX8_opens__1 (by decide) (by decide) (by decide) (by decide) ?_
  refine lv_aload_n hx hb dX8_opens__44 rfl (lv_at hl 0 rfl) ?_
  refine lv_bipush (v := 30) hx hb dX8_opens__45 (by decide) ?_
  refine g_kv h (g_runV X h (As := [.int 30]) (rest := []) (c_X8_ran gl Z v w 30 t htr (by omega)) mi_X8_ran ml_RX8_321 (cc_116) (by decide) kl8 rfl ⟨Nat.le_of_ble_eq_true rfl, Nat.le_of_ble_eq_true rfl⟩ rfl hl.1 rfl (Nat.le_of_ble_eq_true rfl) dX8_opens__47) (fun v47 w47 H locs hp47 h => ?_)
  obtain ⟨ev47, rfl⟩ := Prod.mk.inj hp47
  replace ev47 := ev47.symm
  refine lv_aload_n hx hb dX8_opens__50 rfl (lv_at hl 0 rfl) ?_
  refine lv_iload_n hx hb dX8_opens__51 rfl (lv_at hl 1 rfl) ?_
  refine lv_iconst (v := 0) hx hb dX8_opens__52 (by decide) ?_
  refine lv_iload_n hx hb dX8_opens__53 rfl (lv_at hl 3 rfl) ?_
  refine lv_iconst (v := 3) hx hb dX8_opens__54 (by decide) ?_
  refine lv_imul hx hb dX8_opens__55 ?_
  refine g_ki h (g_runV X h (As := [.int x0, .int 0, .int (x2 * 3)]) (rest := []) (c_X8_opens__k0 gl Z v47 w x0 p hp (x2 * 3) hp6 own ho6 (t + 1) (by rw [ev47, ranV_ne (by decide) (by decide)]; exact hkd) (by rw [ev47]; exact ranV_43) (by omega)) mi_X8_opens_ ml_RX8_324 (cc_116) (by decide) kl8 rfl ⟨Nat.le_of_ble_eq_true rfl, Nat.le_of_ble_eq_true rfl⟩ rfl hl.1 rfl (Nat.le_of_ble_eq_true rfl) dX8_opens__56) (fun r56 v56 w56 H locs hp56 h => ?_)
  obtain ⟨hr56, hw56⟩ := hp56
  obtain ⟨ev56, rfl⟩ := Prod.mk.inj hw56
  replace ev56 := ev56.symm
  exact g_iret X h dX8_opens__59 (by refine ⟨?_, by rw [ev56, ev47]; rfl⟩; rw [hr56]; rfl)

set_option maxRecDepth 100000 in
set_option maxHeartbeats 1000000 in
theorem c_X8_opens__k3 (gl : Launch) (Z : PL) (v : VV) (w : WV) (x0 : Int32) (p : Nat) (hp : x0 = nI p) (x2 : Int32) (hp6 : p < 6) (own : Nat) (ho6 : own ≤ 6) (t : Nat) (hkd : v 117 p = nI own) (htr : v 116 43 = nI t) (ht9 : t < 899) : CT gl yX8_opens_ cX8_opens_ 4 (some .int) 2 44 Z [.ref (zg Z 116), .int x0, .int 3, .int x2] v w (Qi Z (fun r u => r = opV 3 x0 (v 118 p) x2 ∧ (ranL v t (opL 3), w) = u)) := by
  refine g_met (by decide) (Nat.le_of_ble_eq_true rfl) ?_
  intro gp ge gs gm ga gb gh gc X h ls hl
  have hx := X.1
  have hb := X.2.1
  have hl : lv_has ls 4 [(0, .ref (zg Z 116)), (1, .int x0), (2, .int 3), (3, .int x2)] := hl
  refine lv_iload_n hx hb dX8_opens__0 rfl (lv_at hl 2 rfl) ?_
  refine lv_tableIn (off := 105) (tgt := 106) hx hb dX8_opens__1 (by decide) (by decide) (by decide) (by decide) ?_
  refine lv_aload_n hx hb dX8_opens__106 rfl (lv_at hl 0 rfl) ?_
  refine lv_iload_n hx hb dX8_opens__107 rfl (lv_at hl 1 rfl) ?_
  refine lv_iload_n hx hb dX8_opens__108 rfl (lv_at hl 2 rfl) ?_
  refine g_ki h (g_runS X h (As := [.int 3]) (rest := [.int x0, .ref (zg Z 116)]) (c_X8_above gl Z v w 3) ms_X8_above ml_RX8_327 ⟨Nat.le_of_ble_eq_true rfl, Nat.le_of_ble_eq_true rfl⟩ rfl hl.1 rfl (Nat.le_of_ble_eq_true rfl) dX8_opens__109) (fun r109 v109 w109 H locs hp109 h => ?_)
  obtain ⟨hr109, hu109⟩ := hp109; obtain ⟨rfl, rfl⟩ := Prod.mk.inj hu109
  refine g_tr (y := 0) (hr109.trans (by decide)) ?_
  refine lv_iload_n hx hb dX8_opens__112 rfl (lv_at hl 3 rfl) ?_
  refine g_ki h (g_runV X h (As := [.int x0, .int 0, .int x2]) (rest := []) (c_X8_opens__k0 gl Z v w x0 p hp x2 hp6 own ho6 t hkd htr (by omega)) mi_X8_opens_ ml_RX8_324 (cc_116) (by decide) kl8 rfl ⟨Nat.le_of_ble_eq_true rfl, Nat.le_of_ble_eq_true rfl⟩ rfl hl.1 rfl (Nat.le_of_ble_eq_true rfl) dX8_opens__113) (fun r113 v113 w113 H locs hp113 h => ?_)
  obtain ⟨hr113, hw113⟩ := hp113
  obtain ⟨ev113, rfl⟩ := Prod.mk.inj hw113
  replace ev113 := ev113.symm
  exact g_iret X h dX8_opens__116 (by refine ⟨?_, by rw [ev113]; rfl⟩; rw [hr113]; rfl)

set_option maxRecDepth 100000 in
set_option maxHeartbeats 1000000 in
theorem c_X8_opens__k4 (gl : Launch) (Z : PL) (v : VV) (w : WV) (x0 : Int32) (p : Nat) (hp : x0 = nI p) (x2 : Int32) (hp6 : p < 6) (own : Nat) (ho6 : own ≤ 6) (t : Nat) (hkd : v 117 p = nI own) (htr : v 116 43 = nI t) (ht9 : t < 898) : CT gl yX8_opens_ cX8_opens_ 4 (some .int) 3 67 Z [.ref (zg Z 116), .int x0, .int 4, .int x2] v w (Qi Z (fun r u => r = opV 4 x0 (v 118 p) x2 ∧ (ranL v t (opL 4), w) = u)) := by
  refine g_met (by decide) (Nat.le_of_ble_eq_true rfl) ?_
  intro gp ge gs gm ga gb gh gc X h ls hl
  have hx := X.1
  have hb := X.2.1
  have hl : lv_has ls 4 [(0, .ref (zg Z 116)), (1, .int x0), (2, .int 4), (3, .int x2)] := hl
  refine lv_iload_n hx hb dX8_opens__0 rfl (lv_at hl 2 rfl) ?_
  refine lv_tableIn (off := 59) (tgt := 60) hx hb dX8_opens__1 (by decide) (by decide) (by decide) (by decide) ?_
  refine lv_aload_n hx hb dX8_opens__60 rfl (lv_at hl 0 rfl) ?_
  refine lv_bipush (v := 50) hx hb dX8_opens__61 (by decide) ?_
  refine g_kv h (g_runV X h (As := [.int 50]) (rest := []) (c_X8_ran gl Z v w 50 t htr (by omega)) mi_X8_ran ml_RX8_321 (cc_116) (by decide) kl8 rfl ⟨Nat.le_of_ble_eq_true rfl, Nat.le_of_ble_eq_true rfl⟩ rfl hl.1 rfl (Nat.le_of_ble_eq_true rfl) dX8_opens__63) (fun v63 w63 H locs hp63 h => ?_)
  obtain ⟨ev63, rfl⟩ := Prod.mk.inj hp63
  replace ev63 := ev63.symm
  refine lv_aload_n hx hb dX8_opens__66 rfl (lv_at hl 0 rfl) ?_
  refine lv_iload_n hx hb dX8_opens__67 rfl (lv_at hl 1 rfl) ?_
  refine lv_iconst (v := 1) hx hb dX8_opens__68 (by decide) ?_
  refine lv_iload_n hx hb dX8_opens__69 rfl (lv_at hl 3 rfl) ?_
  refine g_ki h (g_runV X h (As := [.int x0, .int 1, .int x2]) (rest := []) (c_X8_opens__k1 gl Z v63 w x0 p hp x2 hp6 own ho6 (t + 1) (by rw [ev63, ranV_ne (by decide) (by decide)]; exact hkd) (by rw [ev63]; exact ranV_43) (by omega)) mi_X8_opens_ ml_RX8_324 (cc_116) (by decide) kl8 rfl ⟨Nat.le_of_ble_eq_true rfl, Nat.le_of_ble_eq_true rfl⟩ rfl hl.1 rfl (Nat.le_of_ble_eq_true rfl) dX8_opens__70) (fun r70 v70 w70 H locs hp70 h => ?_)
  obtain ⟨hr70, hw70⟩ := hp70
  obtain ⟨ev70, rfl⟩ := Prod.mk.inj hw70
  replace ev70 := ev70.symm
  refine lv_ineg hx hb dX8_opens__73 ?_
  exact g_iret X h dX8_opens__74 (by refine ⟨?_, by rw [ev70, ev63]; rfl⟩; rw [hr70]; rfl)

set_option maxRecDepth 100000 in
set_option maxHeartbeats 1000000 in
theorem c_X8_opens__k5 (gl : Launch) (Z : PL) (v : VV) (w : WV) (x0 : Int32) (p : Nat) (hp : x0 = nI p) (x2 : Int32) (hp6 : p < 6) (own : Nat) (ho6 : own ≤ 6) (t : Nat) (hkd : v 117 p = nI own) (htr : v 116 43 = nI t) (ht9 : t < 898) : CT gl yX8_opens_ cX8_opens_ 4 (some .int) 3 67 Z [.ref (zg Z 116), .int x0, .int 5, .int x2] v w (Qi Z (fun r u => r = opV 5 x0 (v 118 p) x2 ∧ (ranL v t (opL 5), w) = u)) := by
  refine g_met (by decide) (Nat.le_of_ble_eq_true rfl) ?_
  intro gp ge gs gm ga gb gh gc X h ls hl
  have hx := X.1
  have hb := X.2.1
  have hl : lv_has ls 4 [(0, .ref (zg Z 116)), (1, .int x0), (2, .int 5), (3, .int x2)] := hl
  refine lv_iload_n hx hb dX8_opens__0 rfl (lv_at hl 2 rfl) ?_
  refine lv_tableIn (off := 105) (tgt := 106) hx hb dX8_opens__1 (by decide) (by decide) (by decide) (by decide) ?_
  refine lv_aload_n hx hb dX8_opens__106 rfl (lv_at hl 0 rfl) ?_
  refine lv_iload_n hx hb dX8_opens__107 rfl (lv_at hl 1 rfl) ?_
  refine lv_iload_n hx hb dX8_opens__108 rfl (lv_at hl 2 rfl) ?_
  refine g_ki h (g_runS X h (As := [.int 5]) (rest := [.int x0, .ref (zg Z 116)]) (c_X8_above gl Z v w 5) ms_X8_above ml_RX8_327 ⟨Nat.le_of_ble_eq_true rfl, Nat.le_of_ble_eq_true rfl⟩ rfl hl.1 rfl (Nat.le_of_ble_eq_true rfl) dX8_opens__109) (fun r109 v109 w109 H locs hp109 h => ?_)
  obtain ⟨hr109, hu109⟩ := hp109; obtain ⟨rfl, rfl⟩ := Prod.mk.inj hu109
  refine g_tr (y := 2) (hr109.trans (by decide)) ?_
  refine lv_iload_n hx hb dX8_opens__112 rfl (lv_at hl 3 rfl) ?_
  refine g_ki h (g_runV X h (As := [.int x0, .int 2, .int x2]) (rest := []) (c_X8_opens__k2 gl Z v w x0 p hp x2 hp6 own ho6 t hkd htr (by omega)) mi_X8_opens_ ml_RX8_324 (cc_116) (by decide) kl8 rfl ⟨Nat.le_of_ble_eq_true rfl, Nat.le_of_ble_eq_true rfl⟩ rfl hl.1 rfl (Nat.le_of_ble_eq_true rfl) dX8_opens__113) (fun r113 v113 w113 H locs hp113 h => ?_)
  obtain ⟨hr113, hw113⟩ := hp113
  obtain ⟨ev113, rfl⟩ := Prod.mk.inj hw113
  replace ev113 := ev113.symm
  exact g_iret X h dX8_opens__116 (by refine ⟨?_, by rw [ev113]; rfl⟩; rw [hr113]; rfl)

set_option maxRecDepth 100000 in
set_option maxHeartbeats 1000000 in
theorem c_X8_opens__k6 (gl : Launch) (Z : PL) (v : VV) (w : WV) (x0 : Int32) (p : Nat) (hp : x0 = nI p) (x2 : Int32) (hp6 : p < 6) (own : Nat) (ho6 : own ≤ 6) (t : Nat) (hkd : v 117 p = nI own) (htr : v 116 43 = nI t) (ht9 : t < 898) : CT gl yX8_opens_ cX8_opens_ 4 (some .int) 3 67 Z [.ref (zg Z 116), .int x0, .int 6, .int x2] v w (Qi Z (fun r u => r = opV 6 x0 (v 118 p) x2 ∧ (ranL v t (opL 6), w) = u)) := by
  refine g_met (by decide) (Nat.le_of_ble_eq_true rfl) ?_
  intro gp ge gs gm ga gb gh gc X h ls hl
  have hx := X.1
  have hb := X.2.1
  have hl : lv_has ls 4 [(0, .ref (zg Z 116)), (1, .int x0), (2, .int 6), (3, .int x2)] := hl
  refine lv_iload_n hx hb dX8_opens__0 rfl (lv_at hl 2 rfl) ?_
  refine lv_tableIn (off := 74) (tgt := 75) hx hb dX8_opens__1 (by decide) (by decide) (by decide) (by decide) ?_
  refine lv_aload_n hx hb dX8_opens__75 rfl (lv_at hl 0 rfl) ?_
  refine lv_bipush (v := 71) hx hb dX8_opens__76 (by decide) ?_
  refine g_kv h (g_runV X h (As := [.int 71]) (rest := []) (c_X8_ran gl Z v w 71 t htr (by omega)) mi_X8_ran ml_RX8_321 (cc_116) (by decide) kl8 rfl ⟨Nat.le_of_ble_eq_true rfl, Nat.le_of_ble_eq_true rfl⟩ rfl hl.1 rfl (Nat.le_of_ble_eq_true rfl) dX8_opens__78) (fun v78 w78 H locs hp78 h => ?_)
  obtain ⟨ev78, rfl⟩ := Prod.mk.inj hp78
  replace ev78 := ev78.symm
  refine lv_aload_n hx hb dX8_opens__81 rfl (lv_at hl 0 rfl) ?_
  refine lv_iload_n hx hb dX8_opens__82 rfl (lv_at hl 1 rfl) ?_
  refine lv_iconst (v := 3) hx hb dX8_opens__83 (by decide) ?_
  refine lv_iload_n hx hb dX8_opens__84 rfl (lv_at hl 3 rfl) ?_
  refine g_ki h (g_runV X h (As := [.int x0, .int 3, .int x2]) (rest := []) (c_X8_opens__k3 gl Z v78 w x0 p hp x2 hp6 own ho6 (t + 1) (by rw [ev78, ranV_ne (by decide) (by decide)]; exact hkd) (by rw [ev78]; exact ranV_43) (by omega)) mi_X8_opens_ ml_RX8_324 (cc_116) (by decide) kl8 rfl ⟨Nat.le_of_ble_eq_true rfl, Nat.le_of_ble_eq_true rfl⟩ rfl hl.1 rfl (Nat.le_of_ble_eq_true rfl) dX8_opens__85) (fun r85 v85 w85 H locs hp85 h => ?_)
  obtain ⟨hr85, hw85⟩ := hp85
  obtain ⟨ev85, rfl⟩ := Prod.mk.inj hw85
  replace ev85 := ev85.symm
  refine lv_aload_n hx hb dX8_opens__88 rfl (lv_at hl 0 rfl) ?_
  refine g_getr X h (k := 2) (t := 118) (cc_116) fr_RX8_15 rfl (by decide) (by decide) (by decide) dX8_opens__89 ?_
  refine lv_iload_n hx hb dX8_opens__92 rfl (lv_at hl 1 rfl) ?_
  refine g_iald X h (k := p) (cc_118) hp (by omega) (by decide) dX8_opens__93 ?_
  refine lv_ixor hx hb dX8_opens__94 ?_
  exact g_iret X h dX8_opens__95 (by refine ⟨?_, by rw [ev85, ev78]; rfl⟩; rw [hr85, ev85, ranL_ne (by decide) (by decide), ev78, ranV_ne (by decide) (by decide)]; rfl)

set_option maxRecDepth 100000 in
set_option maxHeartbeats 1000000 in
theorem c_X8_prays__k0 (gl : Launch) (Z : PL) (v : VV) (w : WV) (x0 : Int32) (p : Nat) (hp : x0 = nI p) (x2 : Int32) (hp6 : p < 6) (own : Nat) (ho6 : own ≤ 6) (t : Nat) (hkd : v 117 p = nI own) (htr : v 116 43 = nI t) (ht9 : t < 880) : CT gl yX8_prays_ cX8_prays_ 5 (some .int) 4 90 Z [.ref (zg Z 116), .int x0, .int 0, .int x2] v w (Qi Z (fun r u => r = prV own 0 x0 (v 118 p) x2 ∧ (ranL v t (prL own 0), w) = u)) := by
  refine g_met (by decide) (Nat.le_of_ble_eq_true rfl) ?_
  intro gp ge gs gm ga gb gh gc X h ls hl
  have hx := X.1
  have hb := X.2.1
  have hl : lv_has ls 5 [(0, .ref (zg Z 116)), (1, .int x0), (2, .int 0), (3, .int x2)] := hl
  refine lv_iload_n hx hb dX8_prays__0 rfl (lv_at hl 2 rfl) ?_
  refine lv_tableIn (off := 102) (tgt := 103) hx hb dX8_prays__1 (by decide) (by decide) (by decide) (by decide) ?_
  refine lv_aload_n hx hb dX8_prays__103 rfl (lv_at hl 0 rfl) ?_
  refine lv_bipush (v := 11) hx hb dX8_prays__104 (by decide) ?_
  refine g_kv h (g_runV X h (As := [.int 11]) (rest := []) (c_X8_ran gl Z v w 11 t htr (by omega)) mi_X8_ran ml_RX8_321 (cc_116) (by decide) kl8 rfl ⟨Nat.le_of_ble_eq_true rfl, Nat.le_of_ble_eq_true rfl⟩ rfl hl.1 rfl (Nat.le_of_ble_eq_true rfl) dX8_prays__106) (fun v106 w106 H locs hp106 h => ?_)
  obtain ⟨ev106, rfl⟩ := Prod.mk.inj hp106
  replace ev106 := ev106.symm
  refine lv_aload_n hx hb dX8_prays__109 rfl (lv_at hl 0 rfl) ?_
  refine lv_iload_n hx hb dX8_prays__110 rfl (lv_at hl 1 rfl) ?_
  refine lv_aload_n hx hb dX8_prays__111 rfl (lv_at hl 0 rfl) ?_
  refine g_getr X h (k := 1) (t := 117) (cc_116) fr_RX8_9 rfl (by decide) (by decide) (by decide) dX8_prays__112 ?_
  refine lv_iload_n hx hb dX8_prays__115 rfl (lv_at hl 1 rfl) ?_
  refine g_iald X h (k := p) (cc_117) hp (by omega) (by decide) dX8_prays__116 ?_
  rcases kind7 hkd ho6 with hk7 | hk7 | hk7 | hk7 | hk7 | hk7 | hk7
  · skip
    obtain rfl : own = 0 := nI_eq1 (b := 0) hkd rfl (by omega) (by omega) hk7
    refine g_tr (y := 0) ((by rw [ev106, ranV_ne (by decide) (by decide)] : v106 117 p = v 117 p).trans hk7) ?_
    refine lv_iload_n hx hb dX8_prays__117 rfl (lv_at hl 3 rfl) ?_
    refine g_ki h (g_runV X h (As := [.int x0, .int 0, .int x2]) (rest := []) (c_X8_opens__k0 gl Z v106 w x0 p hp x2 hp6 0 (by omega) (t + 1) (by rw [ev106, ranV_ne (by decide) (by decide)]; exact hkd) (by rw [ev106]; exact ranV_43) (by omega)) mi_X8_opens_ ml_RX8_324 (cc_116) (by decide) kl8 rfl ⟨Nat.le_of_ble_eq_true rfl, Nat.le_of_ble_eq_true rfl⟩ rfl hl.1 rfl (Nat.le_of_ble_eq_true rfl) dX8_prays__118) (fun r118 v118 w118 H locs hp118 h => ?_)
    obtain ⟨hr118, hw118⟩ := hp118
    obtain ⟨ev118, rfl⟩ := Prod.mk.inj hw118
    replace ev118 := ev118.symm
    refine lv_aload_n hx hb dX8_prays__121 rfl (lv_at hl 0 rfl) ?_
    refine g_getr X h (k := 2) (t := 118) (cc_116) fr_RX8_15 rfl (by decide) (by decide) (by decide) dX8_prays__122 ?_
    refine lv_iload_n hx hb dX8_prays__125 rfl (lv_at hl 1 rfl) ?_
    refine g_iald X h (k := p) (cc_118) hp (by omega) (by decide) dX8_prays__126 ?_
    refine lv_isub hx hb dX8_prays__127 ?_
    exact g_iret X h dX8_prays__128 (by refine ⟨?_, by rw [ev118, ev106]; rfl⟩; rw [hr118, ev118, ranL_ne (by decide) (by decide), ev106, ranV_ne (by decide) (by decide)]; rfl)
  · skip
    obtain rfl : own = 1 := nI_eq1 (b := 1) hkd rfl (by omega) (by omega) hk7
    refine g_tr (y := 1) ((by rw [ev106, ranV_ne (by decide) (by decide)] : v106 117 p = v 117 p).trans hk7) ?_
    refine lv_iload_n hx hb dX8_prays__117 rfl (lv_at hl 3 rfl) ?_
    refine g_ki h (g_runV X h (As := [.int x0, .int 1, .int x2]) (rest := []) (c_X8_opens__k1 gl Z v106 w x0 p hp x2 hp6 1 (by omega) (t + 1) (by rw [ev106, ranV_ne (by decide) (by decide)]; exact hkd) (by rw [ev106]; exact ranV_43) (by omega)) mi_X8_opens_ ml_RX8_324 (cc_116) (by decide) kl8 rfl ⟨Nat.le_of_ble_eq_true rfl, Nat.le_of_ble_eq_true rfl⟩ rfl hl.1 rfl (Nat.le_of_ble_eq_true rfl) dX8_prays__118) (fun r118 v118 w118 H locs hp118 h => ?_)
    obtain ⟨hr118, hw118⟩ := hp118
    obtain ⟨ev118, rfl⟩ := Prod.mk.inj hw118
    replace ev118 := ev118.symm
    refine lv_aload_n hx hb dX8_prays__121 rfl (lv_at hl 0 rfl) ?_
    refine g_getr X h (k := 2) (t := 118) (cc_116) fr_RX8_15 rfl (by decide) (by decide) (by decide) dX8_prays__122 ?_
    refine lv_iload_n hx hb dX8_prays__125 rfl (lv_at hl 1 rfl) ?_
    refine g_iald X h (k := p) (cc_118) hp (by omega) (by decide) dX8_prays__126 ?_
    refine lv_isub hx hb dX8_prays__127 ?_
    exact g_iret X h dX8_prays__128 (by refine ⟨?_, by rw [ev118, ev106]; rfl⟩; rw [hr118, ev118, ranL_ne (by decide) (by decide), ev106, ranV_ne (by decide) (by decide)]; rfl)
  · skip
    obtain rfl : own = 2 := nI_eq1 (b := 2) hkd rfl (by omega) (by omega) hk7
    refine g_tr (y := 2) ((by rw [ev106, ranV_ne (by decide) (by decide)] : v106 117 p = v 117 p).trans hk7) ?_
    refine lv_iload_n hx hb dX8_prays__117 rfl (lv_at hl 3 rfl) ?_
    refine g_ki h (g_runV X h (As := [.int x0, .int 2, .int x2]) (rest := []) (c_X8_opens__k2 gl Z v106 w x0 p hp x2 hp6 2 (by omega) (t + 1) (by rw [ev106, ranV_ne (by decide) (by decide)]; exact hkd) (by rw [ev106]; exact ranV_43) (by omega)) mi_X8_opens_ ml_RX8_324 (cc_116) (by decide) kl8 rfl ⟨Nat.le_of_ble_eq_true rfl, Nat.le_of_ble_eq_true rfl⟩ rfl hl.1 rfl (Nat.le_of_ble_eq_true rfl) dX8_prays__118) (fun r118 v118 w118 H locs hp118 h => ?_)
    obtain ⟨hr118, hw118⟩ := hp118
    obtain ⟨ev118, rfl⟩ := Prod.mk.inj hw118
    replace ev118 := ev118.symm
    refine lv_aload_n hx hb dX8_prays__121 rfl (lv_at hl 0 rfl) ?_
    refine g_getr X h (k := 2) (t := 118) (cc_116) fr_RX8_15 rfl (by decide) (by decide) (by decide) dX8_prays__122 ?_
    refine lv_iload_n hx hb dX8_prays__125 rfl (lv_at hl 1 rfl) ?_
    refine g_iald X h (k := p) (cc_118) hp (by omega) (by decide) dX8_prays__126 ?_
    refine lv_isub hx hb dX8_prays__127 ?_
    exact g_iret X h dX8_prays__128 (by refine ⟨?_, by rw [ev118, ev106]; rfl⟩; rw [hr118, ev118, ranL_ne (by decide) (by decide), ev106, ranV_ne (by decide) (by decide)]; rfl)
  · skip
    obtain rfl : own = 3 := nI_eq1 (b := 3) hkd rfl (by omega) (by omega) hk7
    refine g_tr (y := 3) ((by rw [ev106, ranV_ne (by decide) (by decide)] : v106 117 p = v 117 p).trans hk7) ?_
    refine lv_iload_n hx hb dX8_prays__117 rfl (lv_at hl 3 rfl) ?_
    refine g_ki h (g_runV X h (As := [.int x0, .int 3, .int x2]) (rest := []) (c_X8_opens__k3 gl Z v106 w x0 p hp x2 hp6 3 (by omega) (t + 1) (by rw [ev106, ranV_ne (by decide) (by decide)]; exact hkd) (by rw [ev106]; exact ranV_43) (by omega)) mi_X8_opens_ ml_RX8_324 (cc_116) (by decide) kl8 rfl ⟨Nat.le_of_ble_eq_true rfl, Nat.le_of_ble_eq_true rfl⟩ rfl hl.1 rfl (Nat.le_of_ble_eq_true rfl) dX8_prays__118) (fun r118 v118 w118 H locs hp118 h => ?_)
    obtain ⟨hr118, hw118⟩ := hp118
    obtain ⟨ev118, rfl⟩ := Prod.mk.inj hw118
    replace ev118 := ev118.symm
    refine lv_aload_n hx hb dX8_prays__121 rfl (lv_at hl 0 rfl) ?_
    refine g_getr X h (k := 2) (t := 118) (cc_116) fr_RX8_15 rfl (by decide) (by decide) (by decide) dX8_prays__122 ?_
    refine lv_iload_n hx hb dX8_prays__125 rfl (lv_at hl 1 rfl) ?_
    refine g_iald X h (k := p) (cc_118) hp (by omega) (by decide) dX8_prays__126 ?_
    refine lv_isub hx hb dX8_prays__127 ?_
    exact g_iret X h dX8_prays__128 (by refine ⟨?_, by rw [ev118, ev106]; rfl⟩; rw [hr118, ev118, ranL_ne (by decide) (by decide), ev106, ranV_ne (by decide) (by decide)]; rfl)
  · skip
    obtain rfl : own = 4 := nI_eq1 (b := 4) hkd rfl (by omega) (by omega) hk7
    refine g_tr (y := 4) ((by rw [ev106, ranV_ne (by decide) (by decide)] : v106 117 p = v 117 p).trans hk7) ?_
    refine lv_iload_n hx hb dX8_prays__117 rfl (lv_at hl 3 rfl) ?_
    refine g_ki h (g_runV X h (As := [.int x0, .int 4, .int x2]) (rest := []) (c_X8_opens__k4 gl Z v106 w x0 p hp x2 hp6 4 (by omega) (t + 1) (by rw [ev106, ranV_ne (by decide) (by decide)]; exact hkd) (by rw [ev106]; exact ranV_43) (by omega)) mi_X8_opens_ ml_RX8_324 (cc_116) (by decide) kl8 rfl ⟨Nat.le_of_ble_eq_true rfl, Nat.le_of_ble_eq_true rfl⟩ rfl hl.1 rfl (Nat.le_of_ble_eq_true rfl) dX8_prays__118) (fun r118 v118 w118 H locs hp118 h => ?_)
    obtain ⟨hr118, hw118⟩ := hp118
    obtain ⟨ev118, rfl⟩ := Prod.mk.inj hw118
    replace ev118 := ev118.symm
    refine lv_aload_n hx hb dX8_prays__121 rfl (lv_at hl 0 rfl) ?_
    refine g_getr X h (k := 2) (t := 118) (cc_116) fr_RX8_15 rfl (by decide) (by decide) (by decide) dX8_prays__122 ?_
    refine lv_iload_n hx hb dX8_prays__125 rfl (lv_at hl 1 rfl) ?_
    refine g_iald X h (k := p) (cc_118) hp (by omega) (by decide) dX8_prays__126 ?_
    refine lv_isub hx hb dX8_prays__127 ?_
    exact g_iret X h dX8_prays__128 (by refine ⟨?_, by rw [ev118, ev106]; rfl⟩; rw [hr118, ev118, ranL_ne (by decide) (by decide), ev106, ranV_ne (by decide) (by decide)]; rfl)
  · skip
    obtain rfl : own = 5 := nI_eq1 (b := 5) hkd rfl (by omega) (by omega) hk7
    refine g_tr (y := 5) ((by rw [ev106, ranV_ne (by decide) (by decide)] : v106 117 p = v 117 p).trans hk7) ?_
    refine lv_iload_n hx hb dX8_prays__117 rfl (lv_at hl 3 rfl) ?_
    refine g_ki h (g_runV X h (As := [.int x0, .int 5, .int x2]) (rest := []) (c_X8_opens__k5 gl Z v106 w x0 p hp x2 hp6 5 (by omega) (t + 1) (by rw [ev106, ranV_ne (by decide) (by decide)]; exact hkd) (by rw [ev106]; exact ranV_43) (by omega)) mi_X8_opens_ ml_RX8_324 (cc_116) (by decide) kl8 rfl ⟨Nat.le_of_ble_eq_true rfl, Nat.le_of_ble_eq_true rfl⟩ rfl hl.1 rfl (Nat.le_of_ble_eq_true rfl) dX8_prays__118) (fun r118 v118 w118 H locs hp118 h => ?_)
    obtain ⟨hr118, hw118⟩ := hp118
    obtain ⟨ev118, rfl⟩ := Prod.mk.inj hw118
    replace ev118 := ev118.symm
    refine lv_aload_n hx hb dX8_prays__121 rfl (lv_at hl 0 rfl) ?_
    refine g_getr X h (k := 2) (t := 118) (cc_116) fr_RX8_15 rfl (by decide) (by decide) (by decide) dX8_prays__122 ?_
    refine lv_iload_n hx hb dX8_prays__125 rfl (lv_at hl 1 rfl) ?_
    refine g_iald X h (k := p) (cc_118) hp (by omega) (by decide) dX8_prays__126 ?_
    refine lv_isub hx hb dX8_prays__127 ?_
    exact g_iret X h dX8_prays__128 (by refine ⟨?_, by rw [ev118, ev106]; rfl⟩; rw [hr118, ev118, ranL_ne (by decide) (by decide), ev106, ranV_ne (by decide) (by decide)]; rfl)
  · skip
    obtain rfl : own = 6 := nI_eq1 (b := 6) hkd rfl (by omega) (by omega) hk7
    refine g_tr (y := 6) ((by rw [ev106, ranV_ne (by decide) (by decide)] : v106 117 p = v 117 p).trans hk7) ?_
    refine lv_iload_n hx hb dX8_prays__117 rfl (lv_at hl 3 rfl) ?_
    refine g_ki h (g_runV X h (As := [.int x0, .int 6, .int x2]) (rest := []) (c_X8_opens__k6 gl Z v106 w x0 p hp x2 hp6 6 (by omega) (t + 1) (by rw [ev106, ranV_ne (by decide) (by decide)]; exact hkd) (by rw [ev106]; exact ranV_43) (by omega)) mi_X8_opens_ ml_RX8_324 (cc_116) (by decide) kl8 rfl ⟨Nat.le_of_ble_eq_true rfl, Nat.le_of_ble_eq_true rfl⟩ rfl hl.1 rfl (Nat.le_of_ble_eq_true rfl) dX8_prays__118) (fun r118 v118 w118 H locs hp118 h => ?_)
    obtain ⟨hr118, hw118⟩ := hp118
    obtain ⟨ev118, rfl⟩ := Prod.mk.inj hw118
    replace ev118 := ev118.symm
    refine lv_aload_n hx hb dX8_prays__121 rfl (lv_at hl 0 rfl) ?_
    refine g_getr X h (k := 2) (t := 118) (cc_116) fr_RX8_15 rfl (by decide) (by decide) (by decide) dX8_prays__122 ?_
    refine lv_iload_n hx hb dX8_prays__125 rfl (lv_at hl 1 rfl) ?_
    refine g_iald X h (k := p) (cc_118) hp (by omega) (by decide) dX8_prays__126 ?_
    refine lv_isub hx hb dX8_prays__127 ?_
    exact g_iret X h dX8_prays__128 (by refine ⟨?_, by rw [ev118, ev106]; rfl⟩; rw [hr118, ev118, ranL_ne (by decide) (by decide), ev106, ranV_ne (by decide) (by decide)]; rfl)

set_option maxRecDepth 100000 in
set_option maxHeartbeats 1000000 in
theorem c_X8_prays__k1 (gl : Launch) (Z : PL) (v : VV) (w : WV) (x0 : Int32) (p : Nat) (hp : x0 = nI p) (x2 : Int32) (hp6 : p < 6) (own : Nat) (ho6 : own ≤ 6) (t : Nat) (hkd : v 117 p = nI own) (htr : v 116 43 = nI t) (ht9 : t < 879) : CT gl yX8_prays_ cX8_prays_ 5 (some .int) 5 114 Z [.ref (zg Z 116), .int x0, .int 1, .int x2] v w (Qi Z (fun r u => r = prV own 1 x0 (v 118 p) x2 ∧ (ranL v t (prL own 1), w) = u)) := by
  refine g_met (by decide) (Nat.le_of_ble_eq_true rfl) ?_
  intro gp ge gs gm ga gb gh gc X h ls hl
  have hx := X.1
  have hb := X.2.1
  have hl : lv_has ls 5 [(0, .ref (zg Z 116)), (1, .int x0), (2, .int 1), (3, .int x2)] := hl
  refine lv_iload_n hx hb dX8_prays__0 rfl (lv_at hl 2 rfl) ?_
  refine lv_tableIn (off := 43) (tgt := 44) hx hb dX8_prays__1 (by decide) (by decide) (by decide) (by decide) ?_
  refine lv_aload_n hx hb dX8_prays__44 rfl (lv_at hl 0 rfl) ?_
  refine lv_bipush (v := 20) hx hb dX8_prays__45 (by decide) ?_
  refine g_kv h (g_runV X h (As := [.int 20]) (rest := []) (c_X8_ran gl Z v w 20 t htr (by omega)) mi_X8_ran ml_RX8_321 (cc_116) (by decide) kl8 rfl ⟨Nat.le_of_ble_eq_true rfl, Nat.le_of_ble_eq_true rfl⟩ rfl hl.1 rfl (Nat.le_of_ble_eq_true rfl) dX8_prays__47) (fun v47 w47 H locs hp47 h => ?_)
  obtain ⟨ev47, rfl⟩ := Prod.mk.inj hp47
  replace ev47 := ev47.symm
  refine lv_aload_n hx hb dX8_prays__50 rfl (lv_at hl 0 rfl) ?_
  refine lv_iload_n hx hb dX8_prays__51 rfl (lv_at hl 1 rfl) ?_
  refine lv_iconst (v := 0) hx hb dX8_prays__52 (by decide) ?_
  refine lv_iload_n hx hb dX8_prays__53 rfl (lv_at hl 3 rfl) ?_
  refine g_ki h (g_runV X h (As := [.int x0, .int 0, .int x2]) (rest := []) (c_X8_prays__k0 gl Z v47 w x0 p hp x2 hp6 own ho6 (t + 1) (by rw [ev47, ranV_ne (by decide) (by decide)]; exact hkd) (by rw [ev47]; exact ranV_43) (by omega)) mi_X8_prays_ ml_RX8_330 (cc_116) (by decide) kl8 rfl ⟨Nat.le_of_ble_eq_true rfl, Nat.le_of_ble_eq_true rfl⟩ rfl hl.1 rfl (Nat.le_of_ble_eq_true rfl) dX8_prays__54) (fun r54 v54 w54 H locs hp54 h => ?_)
  obtain ⟨hr54, hw54⟩ := hp54
  obtain ⟨ev54, rfl⟩ := Prod.mk.inj hw54
  replace ev54 := ev54.symm
  refine lv_bipush (v := 6) hx hb dX8_prays__57 (by decide) ?_
  refine lv_ixor hx hb dX8_prays__59 ?_
  exact g_iret X h dX8_prays__60 (by refine ⟨?_, by rw [ev54, ev47]; rfl⟩; rw [hr54, ev47, ranV_ne (by decide) (by decide)]; rfl)

set_option maxRecDepth 100000 in
set_option maxHeartbeats 1000000 in
theorem c_X8_prays__k4 (gl : Launch) (Z : PL) (v : VV) (w : WV) (x0 : Int32) (p : Nat) (hp : x0 = nI p) (x2 : Int32) (hp6 : p < 6) (own : Nat) (ho6 : own ≤ 6) (t : Nat) (hkd : v 117 p = nI own) (htr : v 116 43 = nI t) (ht9 : t < 878) : CT gl yX8_prays_ cX8_prays_ 5 (some .int) 6 138 Z [.ref (zg Z 116), .int x0, .int 4, .int x2] v w (Qi Z (fun r u => r = prV own 4 x0 (v 118 p) x2 ∧ (ranL v t (prL own 4), w) = u)) := by
  refine g_met (by decide) (Nat.le_of_ble_eq_true rfl) ?_
  intro gp ge gs gm ga gb gh gc X h ls hl
  have hx := X.1
  have hb := X.2.1
  have hl : lv_has ls 5 [(0, .ref (zg Z 116)), (1, .int x0), (2, .int 4), (3, .int x2)] := hl
  refine lv_iload_n hx hb dX8_prays__0 rfl (lv_at hl 2 rfl) ?_
  refine lv_tableIn (off := 60) (tgt := 61) hx hb dX8_prays__1 (by decide) (by decide) (by decide) (by decide) ?_
  refine lv_aload_n hx hb dX8_prays__61 rfl (lv_at hl 0 rfl) ?_
  refine lv_bipush (v := 51) hx hb dX8_prays__62 (by decide) ?_
  refine g_kv h (g_runV X h (As := [.int 51]) (rest := []) (c_X8_ran gl Z v w 51 t htr (by omega)) mi_X8_ran ml_RX8_321 (cc_116) (by decide) kl8 rfl ⟨Nat.le_of_ble_eq_true rfl, Nat.le_of_ble_eq_true rfl⟩ rfl hl.1 rfl (Nat.le_of_ble_eq_true rfl) dX8_prays__64) (fun v64 w64 H locs hp64 h => ?_)
  obtain ⟨ev64, rfl⟩ := Prod.mk.inj hp64
  replace ev64 := ev64.symm
  refine lv_aload_n hx hb dX8_prays__67 rfl (lv_at hl 0 rfl) ?_
  refine lv_iload_n hx hb dX8_prays__68 rfl (lv_at hl 1 rfl) ?_
  refine lv_iconst (v := 1) hx hb dX8_prays__69 (by decide) ?_
  refine lv_iload_n hx hb dX8_prays__70 rfl (lv_at hl 3 rfl) ?_
  refine lv_iconst (v := 1) hx hb dX8_prays__71 (by decide) ?_
  refine lv_iadd hx hb dX8_prays__72 ?_
  refine g_ki h (g_runV X h (As := [.int x0, .int 1, .int (x2 + 1)]) (rest := []) (c_X8_prays__k1 gl Z v64 w x0 p hp (x2 + 1) hp6 own ho6 (t + 1) (by rw [ev64, ranV_ne (by decide) (by decide)]; exact hkd) (by rw [ev64]; exact ranV_43) (by omega)) mi_X8_prays_ ml_RX8_330 (cc_116) (by decide) kl8 rfl ⟨Nat.le_of_ble_eq_true rfl, Nat.le_of_ble_eq_true rfl⟩ rfl hl.1 rfl (Nat.le_of_ble_eq_true rfl) dX8_prays__73) (fun r73 v73 w73 H locs hp73 h => ?_)
  obtain ⟨hr73, hw73⟩ := hp73
  obtain ⟨ev73, rfl⟩ := Prod.mk.inj hw73
  replace ev73 := ev73.symm
  exact g_iret X h dX8_prays__76 (by refine ⟨?_, by rw [ev73, ev64]; rfl⟩; rw [hr73, ev64, ranV_ne (by decide) (by decide)]; rfl)

set_option maxRecDepth 100000 in
set_option maxHeartbeats 1000000 in
theorem c_X8_prays__k2 (gl : Launch) (Z : PL) (v : VV) (w : WV) (x0 : Int32) (p : Nat) (hp : x0 = nI p) (x2 : Int32) (hp6 : p < 6) (own : Nat) (ho6 : own ≤ 6) (t : Nat) (hkd : v 117 p = nI own) (htr : v 116 43 = nI t) (ht9 : t < 879) : CT gl yX8_prays_ cX8_prays_ 5 (some .int) 5 114 Z [.ref (zg Z 116), .int x0, .int 2, .int x2] v w (Qi Z (fun r u => r = prV own 2 x0 (v 118 p) x2 ∧ (ranL v t (prL own 2), w) = u)) := by
  refine g_met (by decide) (Nat.le_of_ble_eq_true rfl) ?_
  intro gp ge gs gm ga gb gh gc X h ls hl
  have hx := X.1
  have hb := X.2.1
  have hl : lv_has ls 5 [(0, .ref (zg Z 116)), (1, .int x0), (2, .int 2), (3, .int x2)] := hl
  refine lv_iload_n hx hb dX8_prays__0 rfl (lv_at hl 2 rfl) ?_
  refine lv_tableIn (off := 128) (tgt := 129) hx hb dX8_prays__1 (by decide) (by decide) (by decide) (by decide) ?_
  refine lv_aload_n hx hb dX8_prays__129 rfl (lv_at hl 0 rfl) ?_
  refine lv_iload_n hx hb dX8_prays__130 rfl (lv_at hl 1 rfl) ?_
  refine lv_iload_n hx hb dX8_prays__131 rfl (lv_at hl 2 rfl) ?_
  refine g_ki h (g_runS X h (As := [.int 2]) (rest := [.int x0, .ref (zg Z 116)]) (c_X8_above gl Z v w 2) ms_X8_above ml_RX8_327 ⟨Nat.le_of_ble_eq_true rfl, Nat.le_of_ble_eq_true rfl⟩ rfl hl.1 rfl (Nat.le_of_ble_eq_true rfl) dX8_prays__132) (fun r132 v132 w132 H locs hp132 h => ?_)
  obtain ⟨hr132, hu132⟩ := hp132; obtain ⟨rfl, rfl⟩ := Prod.mk.inj hu132
  refine g_tr (y := 0) (hr132.trans (by decide)) ?_
  refine lv_iload_n hx hb dX8_prays__135 rfl (lv_at hl 3 rfl) ?_
  refine g_ki h (g_runV X h (As := [.int x0, .int 0, .int x2]) (rest := []) (c_X8_prays__k0 gl Z v w x0 p hp x2 hp6 own ho6 t hkd htr (by omega)) mi_X8_prays_ ml_RX8_330 (cc_116) (by decide) kl8 rfl ⟨Nat.le_of_ble_eq_true rfl, Nat.le_of_ble_eq_true rfl⟩ rfl hl.1 rfl (Nat.le_of_ble_eq_true rfl) dX8_prays__136) (fun r136 v136 w136 H locs hp136 h => ?_)
  obtain ⟨hr136, hw136⟩ := hp136
  obtain ⟨ev136, rfl⟩ := Prod.mk.inj hw136
  replace ev136 := ev136.symm
  exact g_iret X h dX8_prays__139 (by refine ⟨?_, by rw [ev136]; rfl⟩; rw [hr136]; rfl)

set_option maxRecDepth 100000 in
set_option maxHeartbeats 1000000 in
theorem c_X8_prays__k3 (gl : Launch) (Z : PL) (v : VV) (w : WV) (x0 : Int32) (p : Nat) (hp : x0 = nI p) (x2 : Int32) (hp6 : p < 6) (own : Nat) (ho6 : own ≤ 6) (t : Nat) (hkd : v 117 p = nI own) (htr : v 116 43 = nI t) (ht9 : t < 879) : CT gl yX8_prays_ cX8_prays_ 5 (some .int) 5 114 Z [.ref (zg Z 116), .int x0, .int 3, .int x2] v w (Qi Z (fun r u => r = prV own 3 x0 (v 118 p) x2 ∧ (ranL v t (prL own 3), w) = u)) := by
  refine g_met (by decide) (Nat.le_of_ble_eq_true rfl) ?_
  intro gp ge gs gm ga gb gh gc X h ls hl
  have hx := X.1
  have hb := X.2.1
  have hl : lv_has ls 5 [(0, .ref (zg Z 116)), (1, .int x0), (2, .int 3), (3, .int x2)] := hl
  refine lv_iload_n hx hb dX8_prays__0 rfl (lv_at hl 2 rfl) ?_
  refine lv_tableIn (off := 128) (tgt := 129) hx hb dX8_prays__1 (by decide) (by decide) (by decide) (by decide) ?_
  refine lv_aload_n hx hb dX8_prays__129 rfl (lv_at hl 0 rfl) ?_
  refine lv_iload_n hx hb dX8_prays__130 rfl (lv_at hl 1 rfl) ?_
  refine lv_iload_n hx hb dX8_prays__131 rfl (lv_at hl 2 rfl) ?_
  refine g_ki h (g_runS X h (As := [.int 3]) (rest := [.int x0, .ref (zg Z 116)]) (c_X8_above gl Z v w 3) ms_X8_above ml_RX8_327 ⟨Nat.le_of_ble_eq_true rfl, Nat.le_of_ble_eq_true rfl⟩ rfl hl.1 rfl (Nat.le_of_ble_eq_true rfl) dX8_prays__132) (fun r132 v132 w132 H locs hp132 h => ?_)
  obtain ⟨hr132, hu132⟩ := hp132; obtain ⟨rfl, rfl⟩ := Prod.mk.inj hu132
  refine g_tr (y := 0) (hr132.trans (by decide)) ?_
  refine lv_iload_n hx hb dX8_prays__135 rfl (lv_at hl 3 rfl) ?_
  refine g_ki h (g_runV X h (As := [.int x0, .int 0, .int x2]) (rest := []) (c_X8_prays__k0 gl Z v w x0 p hp x2 hp6 own ho6 t hkd htr (by omega)) mi_X8_prays_ ml_RX8_330 (cc_116) (by decide) kl8 rfl ⟨Nat.le_of_ble_eq_true rfl, Nat.le_of_ble_eq_true rfl⟩ rfl hl.1 rfl (Nat.le_of_ble_eq_true rfl) dX8_prays__136) (fun r136 v136 w136 H locs hp136 h => ?_)
  obtain ⟨hr136, hw136⟩ := hp136
  obtain ⟨ev136, rfl⟩ := Prod.mk.inj hw136
  replace ev136 := ev136.symm
  exact g_iret X h dX8_prays__139 (by refine ⟨?_, by rw [ev136]; rfl⟩; rw [hr136]; rfl)

set_option maxRecDepth 100000 in
set_option maxHeartbeats 1000000 in
theorem c_X8_prays__k5 (gl : Launch) (Z : PL) (v : VV) (w : WV) (x0 : Int32) (p : Nat) (hp : x0 = nI p) (x2 : Int32) (hp6 : p < 6) (own : Nat) (ho6 : own ≤ 6) (t : Nat) (hkd : v 117 p = nI own) (htr : v 116 43 = nI t) (ht9 : t < 878) : CT gl yX8_prays_ cX8_prays_ 5 (some .int) 6 138 Z [.ref (zg Z 116), .int x0, .int 5, .int x2] v w (Qi Z (fun r u => r = prV own 5 x0 (v 118 p) x2 ∧ (ranL v t (prL own 5), w) = u)) := by
  refine g_met (by decide) (Nat.le_of_ble_eq_true rfl) ?_
  intro gp ge gs gm ga gb gh gc X h ls hl
  have hx := X.1
  have hb := X.2.1
  have hl : lv_has ls 5 [(0, .ref (zg Z 116)), (1, .int x0), (2, .int 5), (3, .int x2)] := hl
  refine lv_iload_n hx hb dX8_prays__0 rfl (lv_at hl 2 rfl) ?_
  refine lv_tableIn (off := 128) (tgt := 129) hx hb dX8_prays__1 (by decide) (by decide) (by decide) (by decide) ?_
  refine lv_aload_n hx hb dX8_prays__129 rfl (lv_at hl 0 rfl) ?_
  refine lv_iload_n hx hb dX8_prays__130 rfl (lv_at hl 1 rfl) ?_
  refine lv_iload_n hx hb dX8_prays__131 rfl (lv_at hl 2 rfl) ?_
  refine g_ki h (g_runS X h (As := [.int 5]) (rest := [.int x0, .ref (zg Z 116)]) (c_X8_above gl Z v w 5) ms_X8_above ml_RX8_327 ⟨Nat.le_of_ble_eq_true rfl, Nat.le_of_ble_eq_true rfl⟩ rfl hl.1 rfl (Nat.le_of_ble_eq_true rfl) dX8_prays__132) (fun r132 v132 w132 H locs hp132 h => ?_)
  obtain ⟨hr132, hu132⟩ := hp132; obtain ⟨rfl, rfl⟩ := Prod.mk.inj hu132
  refine g_tr (y := 2) (hr132.trans (by decide)) ?_
  refine lv_iload_n hx hb dX8_prays__135 rfl (lv_at hl 3 rfl) ?_
  refine g_ki h (g_runV X h (As := [.int x0, .int 2, .int x2]) (rest := []) (c_X8_prays__k2 gl Z v w x0 p hp x2 hp6 own ho6 t hkd htr (by omega)) mi_X8_prays_ ml_RX8_330 (cc_116) (by decide) kl8 rfl ⟨Nat.le_of_ble_eq_true rfl, Nat.le_of_ble_eq_true rfl⟩ rfl hl.1 rfl (Nat.le_of_ble_eq_true rfl) dX8_prays__136) (fun r136 v136 w136 H locs hp136 h => ?_)
  obtain ⟨hr136, hw136⟩ := hp136
  obtain ⟨ev136, rfl⟩ := Prod.mk.inj hw136
  replace ev136 := ev136.symm
  exact g_iret X h dX8_prays__139 (by refine ⟨?_, by rw [ev136]; rfl⟩; rw [hr136]; rfl)

set_option maxRecDepth 100000 in
set_option maxHeartbeats 1000000 in
theorem c_X8_prays__k6 (gl : Launch) (Z : PL) (v : VV) (w : WV) (x0 : Int32) (p : Nat) (hp : x0 = nI p) (x2 : Int32) (hp6 : p < 6) (own : Nat) (ho6 : own ≤ 6) (t : Nat) (hkd : v 117 p = nI own) (htr : v 116 43 = nI t) (ht9 : t < 878) : CT gl yX8_prays_ cX8_prays_ 5 (some .int) 6 138 Z [.ref (zg Z 116), .int x0, .int 6, .int x2] v w (Qi Z (fun r u => r = prV own 6 x0 (v 118 p) x2 ∧ (ranL v t (prL own 6), w) = u)) := by
  refine g_met (by decide) (Nat.le_of_ble_eq_true rfl) ?_
  intro gp ge gs gm ga gb gh gc X h ls hl
  have hx := X.1
  have hb := X.2.1
  have hl : lv_has ls 5 [(0, .ref (zg Z 116)), (1, .int x0), (2, .int 6), (3, .int x2)] := hl
  refine lv_iload_n hx hb dX8_prays__0 rfl (lv_at hl 2 rfl) ?_
  refine lv_tableIn (off := 76) (tgt := 77) hx hb dX8_prays__1 (by decide) (by decide) (by decide) (by decide) ?_
  refine lv_aload_n hx hb dX8_prays__77 rfl (lv_at hl 0 rfl) ?_
  refine lv_bipush (v := 70) hx hb dX8_prays__78 (by decide) ?_
  refine g_kv h (g_runV X h (As := [.int 70]) (rest := []) (c_X8_ran gl Z v w 70 t htr (by omega)) mi_X8_ran ml_RX8_321 (cc_116) (by decide) kl8 rfl ⟨Nat.le_of_ble_eq_true rfl, Nat.le_of_ble_eq_true rfl⟩ rfl hl.1 rfl (Nat.le_of_ble_eq_true rfl) dX8_prays__80) (fun v80 w80 H locs hp80 h => ?_)
  obtain ⟨ev80, rfl⟩ := Prod.mk.inj hp80
  replace ev80 := ev80.symm
  refine lv_aload_n hx hb dX8_prays__83 rfl (lv_at hl 0 rfl) ?_
  refine lv_iload_n hx hb dX8_prays__84 rfl (lv_at hl 1 rfl) ?_
  refine lv_iconst (v := 3) hx hb dX8_prays__85 (by decide) ?_
  refine lv_iload_n hx hb dX8_prays__86 rfl (lv_at hl 3 rfl) ?_
  refine g_ki h (g_runV X h (As := [.int x0, .int 3, .int x2]) (rest := []) (c_X8_prays__k3 gl Z v80 w x0 p hp x2 hp6 own ho6 (t + 1) (by rw [ev80, ranV_ne (by decide) (by decide)]; exact hkd) (by rw [ev80]; exact ranV_43) (by omega)) mi_X8_prays_ ml_RX8_330 (cc_116) (by decide) kl8 rfl ⟨Nat.le_of_ble_eq_true rfl, Nat.le_of_ble_eq_true rfl⟩ rfl hl.1 rfl (Nat.le_of_ble_eq_true rfl) dX8_prays__87) (fun r87 v87 w87 H locs hp87 h => ?_)
  obtain ⟨hr87, hw87⟩ := hp87
  obtain ⟨ev87, rfl⟩ := Prod.mk.inj hw87
  replace ev87 := ev87.symm
  refine lv_istore (lv' := [(4, .int r87), (0, .ref (zg Z 116)), (1, .int x0), (2, .int 6), (3, .int x2)]) hx hb dX8_prays__90 hl (by decide) rfl (fun ls hl => ?_)
  refine lv_iload hx hb dX8_prays__92 (lv_at hl 0 rfl) ?_
  refine lv_aload_n hx hb dX8_prays__94 rfl (lv_at hl 1 rfl) ?_
  refine lv_iload_n hx hb dX8_prays__95 rfl (lv_at hl 2 rfl) ?_
  refine lv_iconst (v := 3) hx hb dX8_prays__96 (by decide) ?_
  refine lv_iconst (v := 2) hx hb dX8_prays__97 (by decide) ?_
  refine g_ki h (g_runV X h (As := [.int x0, .int 3, .int 2]) (rest := [.int r87]) (c_X8_opens__k3 gl Z v87 w x0 p hp 2 hp6 own ho6 (t + 1 + (prL own 3).length) (by rw [ev87, ranL_ne (by decide) (by decide), ev80, ranV_ne (by decide) (by decide)]; exact hkd) (by rw [ev87]; exact ranL_43 _ _ _ (by rw [ev80]; exact ranV_43)) (by have := prL_len own 3 ho6 (by omega); omega)) mi_X8_opens_ ml_RX8_324 (cc_116) (by decide) kl8 rfl ⟨Nat.le_of_ble_eq_true rfl, Nat.le_of_ble_eq_true rfl⟩ rfl hl.1 rfl (Nat.le_of_ble_eq_true rfl) dX8_prays__98) (fun r98 v98 w98 H locs hp98 h => ?_)
  obtain ⟨hr98, hw98⟩ := hp98
  obtain ⟨ev98, rfl⟩ := Prod.mk.inj hw98
  replace ev98 := ev98.symm
  refine lv_iadd hx hb dX8_prays__101 ?_
  exact g_iret X h dX8_prays__102 ⟨(by rw [hr98, hr87, ev80, ranV_ne (by decide) (by decide)]; rfl), (by rw [ev98, ev87, ev80, ranL_app]; rfl)⟩

set_option maxRecDepth 100000 in
set_option maxHeartbeats 1000000 in
theorem c_X8_tells_k0 (gl : Launch) (Z : PL) (v : VV) (w : WV) (x0 : Int32) (p : Nat) (hp : x0 = nI p) (x2 : Int32) (hp6 : p < 6) (own : Nat) (ho6 : own ≤ 6) (t : Nat) (hkd : v 117 p = nI own) (htr : v 116 43 = nI t) (ht9 : t < 850) : CT gl yX8_tells cX8_tells 5 (some .int) 7 162 Z [.ref (zg Z 116), .int x0, .int 0, .int x2] v w (Qi Z (fun r u => r = tlV own 0 x0 (v 118 p) x2 ∧ (ranL v t (tlL own 0), w) = u)) := by
  refine g_met (by decide) (Nat.le_of_ble_eq_true rfl) ?_
  intro gp ge gs gm ga gb gh gc X h ls hl
  have hx := X.1
  have hb := X.2.1
  have hl : lv_has ls 5 [(0, .ref (zg Z 116)), (1, .int x0), (2, .int 0), (3, .int x2)] := hl
  refine lv_iload_n hx hb dX8_tells_0 rfl (lv_at hl 2 rfl) ?_
  refine lv_lookup (off := 82) (tgt := 83) hx hb dX8_tells_1 (by decide) (by decide) (by decide) ?_
  refine lv_aload_n hx hb dX8_tells_83 rfl (lv_at hl 0 rfl) ?_
  refine lv_bipush (v := 12) hx hb dX8_tells_84 (by decide) ?_
  refine g_kv h (g_runV X h (As := [.int 12]) (rest := []) (c_X8_ran gl Z v w 12 t htr (by omega)) mi_X8_ran ml_RX8_321 (cc_116) (by decide) kl8 rfl ⟨Nat.le_of_ble_eq_true rfl, Nat.le_of_ble_eq_true rfl⟩ rfl hl.1 rfl (Nat.le_of_ble_eq_true rfl) dX8_tells_86) (fun v86 w86 H locs hp86 h => ?_)
  obtain ⟨ev86, rfl⟩ := Prod.mk.inj hp86
  replace ev86 := ev86.symm
  refine lv_aload_n hx hb dX8_tells_89 rfl (lv_at hl 0 rfl) ?_
  refine lv_iload_n hx hb dX8_tells_90 rfl (lv_at hl 1 rfl) ?_
  refine lv_aload_n hx hb dX8_tells_91 rfl (lv_at hl 0 rfl) ?_
  refine g_getr X h (k := 1) (t := 117) (cc_116) fr_RX8_9 rfl (by decide) (by decide) (by decide) dX8_tells_92 ?_
  refine lv_iload_n hx hb dX8_tells_95 rfl (lv_at hl 1 rfl) ?_
  refine g_iald X h (k := p) (cc_117) hp (by omega) (by decide) dX8_tells_96 ?_
  rcases kind7 hkd ho6 with hk7 | hk7 | hk7 | hk7 | hk7 | hk7 | hk7
  · skip
    obtain rfl : own = 0 := nI_eq1 (b := 0) hkd rfl (by omega) (by omega) hk7
    refine g_tr (y := 0) ((by rw [ev86, ranV_ne (by decide) (by decide)] : v86 117 p = v 117 p).trans hk7) ?_
    refine lv_iload_n hx hb dX8_tells_97 rfl (lv_at hl 3 rfl) ?_
    refine g_ki h (g_runV X h (As := [.int x0, .int 0, .int x2]) (rest := []) (c_X8_prays__k0 gl Z v86 w x0 p hp x2 hp6 0 (by omega) (t + 1) (by rw [ev86, ranV_ne (by decide) (by decide)]; exact hkd) (by rw [ev86]; exact ranV_43) (by omega)) mi_X8_prays_ ml_RX8_330 (cc_116) (by decide) kl8 rfl ⟨Nat.le_of_ble_eq_true rfl, Nat.le_of_ble_eq_true rfl⟩ rfl hl.1 rfl (Nat.le_of_ble_eq_true rfl) dX8_tells_98) (fun r98 v98 w98 H locs hp98 h => ?_)
    obtain ⟨hr98, hw98⟩ := hp98
    obtain ⟨ev98, rfl⟩ := Prod.mk.inj hw98
    replace ev98 := ev98.symm
    refine lv_iconst (v := 2) hx hb dX8_tells_101 (by decide) ?_
    refine lv_imul hx hb dX8_tells_102 ?_
    exact g_iret X h dX8_tells_103 (by refine ⟨?_, by rw [ev98, ev86]; rfl⟩; rw [hr98, ev86, ranV_ne (by decide) (by decide)]; rfl)
  · skip
    obtain rfl : own = 1 := nI_eq1 (b := 1) hkd rfl (by omega) (by omega) hk7
    refine g_tr (y := 1) ((by rw [ev86, ranV_ne (by decide) (by decide)] : v86 117 p = v 117 p).trans hk7) ?_
    refine lv_iload_n hx hb dX8_tells_97 rfl (lv_at hl 3 rfl) ?_
    refine g_ki h (g_runV X h (As := [.int x0, .int 1, .int x2]) (rest := []) (c_X8_prays__k1 gl Z v86 w x0 p hp x2 hp6 1 (by omega) (t + 1) (by rw [ev86, ranV_ne (by decide) (by decide)]; exact hkd) (by rw [ev86]; exact ranV_43) (by omega)) mi_X8_prays_ ml_RX8_330 (cc_116) (by decide) kl8 rfl ⟨Nat.le_of_ble_eq_true rfl, Nat.le_of_ble_eq_true rfl⟩ rfl hl.1 rfl (Nat.le_of_ble_eq_true rfl) dX8_tells_98) (fun r98 v98 w98 H locs hp98 h => ?_)
    obtain ⟨hr98, hw98⟩ := hp98
    obtain ⟨ev98, rfl⟩ := Prod.mk.inj hw98
    replace ev98 := ev98.symm
    refine lv_iconst (v := 2) hx hb dX8_tells_101 (by decide) ?_
    refine lv_imul hx hb dX8_tells_102 ?_
    exact g_iret X h dX8_tells_103 (by refine ⟨?_, by rw [ev98, ev86]; rfl⟩; rw [hr98, ev86, ranV_ne (by decide) (by decide)]; rfl)
  · skip
    obtain rfl : own = 2 := nI_eq1 (b := 2) hkd rfl (by omega) (by omega) hk7
    refine g_tr (y := 2) ((by rw [ev86, ranV_ne (by decide) (by decide)] : v86 117 p = v 117 p).trans hk7) ?_
    refine lv_iload_n hx hb dX8_tells_97 rfl (lv_at hl 3 rfl) ?_
    refine g_ki h (g_runV X h (As := [.int x0, .int 2, .int x2]) (rest := []) (c_X8_prays__k2 gl Z v86 w x0 p hp x2 hp6 2 (by omega) (t + 1) (by rw [ev86, ranV_ne (by decide) (by decide)]; exact hkd) (by rw [ev86]; exact ranV_43) (by omega)) mi_X8_prays_ ml_RX8_330 (cc_116) (by decide) kl8 rfl ⟨Nat.le_of_ble_eq_true rfl, Nat.le_of_ble_eq_true rfl⟩ rfl hl.1 rfl (Nat.le_of_ble_eq_true rfl) dX8_tells_98) (fun r98 v98 w98 H locs hp98 h => ?_)
    obtain ⟨hr98, hw98⟩ := hp98
    obtain ⟨ev98, rfl⟩ := Prod.mk.inj hw98
    replace ev98 := ev98.symm
    refine lv_iconst (v := 2) hx hb dX8_tells_101 (by decide) ?_
    refine lv_imul hx hb dX8_tells_102 ?_
    exact g_iret X h dX8_tells_103 (by refine ⟨?_, by rw [ev98, ev86]; rfl⟩; rw [hr98, ev86, ranV_ne (by decide) (by decide)]; rfl)
  · skip
    obtain rfl : own = 3 := nI_eq1 (b := 3) hkd rfl (by omega) (by omega) hk7
    refine g_tr (y := 3) ((by rw [ev86, ranV_ne (by decide) (by decide)] : v86 117 p = v 117 p).trans hk7) ?_
    refine lv_iload_n hx hb dX8_tells_97 rfl (lv_at hl 3 rfl) ?_
    refine g_ki h (g_runV X h (As := [.int x0, .int 3, .int x2]) (rest := []) (c_X8_prays__k3 gl Z v86 w x0 p hp x2 hp6 3 (by omega) (t + 1) (by rw [ev86, ranV_ne (by decide) (by decide)]; exact hkd) (by rw [ev86]; exact ranV_43) (by omega)) mi_X8_prays_ ml_RX8_330 (cc_116) (by decide) kl8 rfl ⟨Nat.le_of_ble_eq_true rfl, Nat.le_of_ble_eq_true rfl⟩ rfl hl.1 rfl (Nat.le_of_ble_eq_true rfl) dX8_tells_98) (fun r98 v98 w98 H locs hp98 h => ?_)
    obtain ⟨hr98, hw98⟩ := hp98
    obtain ⟨ev98, rfl⟩ := Prod.mk.inj hw98
    replace ev98 := ev98.symm
    refine lv_iconst (v := 2) hx hb dX8_tells_101 (by decide) ?_
    refine lv_imul hx hb dX8_tells_102 ?_
    exact g_iret X h dX8_tells_103 (by refine ⟨?_, by rw [ev98, ev86]; rfl⟩; rw [hr98, ev86, ranV_ne (by decide) (by decide)]; rfl)
  · skip
    obtain rfl : own = 4 := nI_eq1 (b := 4) hkd rfl (by omega) (by omega) hk7
    refine g_tr (y := 4) ((by rw [ev86, ranV_ne (by decide) (by decide)] : v86 117 p = v 117 p).trans hk7) ?_
    refine lv_iload_n hx hb dX8_tells_97 rfl (lv_at hl 3 rfl) ?_
    refine g_ki h (g_runV X h (As := [.int x0, .int 4, .int x2]) (rest := []) (c_X8_prays__k4 gl Z v86 w x0 p hp x2 hp6 4 (by omega) (t + 1) (by rw [ev86, ranV_ne (by decide) (by decide)]; exact hkd) (by rw [ev86]; exact ranV_43) (by omega)) mi_X8_prays_ ml_RX8_330 (cc_116) (by decide) kl8 rfl ⟨Nat.le_of_ble_eq_true rfl, Nat.le_of_ble_eq_true rfl⟩ rfl hl.1 rfl (Nat.le_of_ble_eq_true rfl) dX8_tells_98) (fun r98 v98 w98 H locs hp98 h => ?_)
    obtain ⟨hr98, hw98⟩ := hp98
    obtain ⟨ev98, rfl⟩ := Prod.mk.inj hw98
    replace ev98 := ev98.symm
    refine lv_iconst (v := 2) hx hb dX8_tells_101 (by decide) ?_
    refine lv_imul hx hb dX8_tells_102 ?_
    exact g_iret X h dX8_tells_103 (by refine ⟨?_, by rw [ev98, ev86]; rfl⟩; rw [hr98, ev86, ranV_ne (by decide) (by decide)]; rfl)
  · skip
    obtain rfl : own = 5 := nI_eq1 (b := 5) hkd rfl (by omega) (by omega) hk7
    refine g_tr (y := 5) ((by rw [ev86, ranV_ne (by decide) (by decide)] : v86 117 p = v 117 p).trans hk7) ?_
    refine lv_iload_n hx hb dX8_tells_97 rfl (lv_at hl 3 rfl) ?_
    refine g_ki h (g_runV X h (As := [.int x0, .int 5, .int x2]) (rest := []) (c_X8_prays__k5 gl Z v86 w x0 p hp x2 hp6 5 (by omega) (t + 1) (by rw [ev86, ranV_ne (by decide) (by decide)]; exact hkd) (by rw [ev86]; exact ranV_43) (by omega)) mi_X8_prays_ ml_RX8_330 (cc_116) (by decide) kl8 rfl ⟨Nat.le_of_ble_eq_true rfl, Nat.le_of_ble_eq_true rfl⟩ rfl hl.1 rfl (Nat.le_of_ble_eq_true rfl) dX8_tells_98) (fun r98 v98 w98 H locs hp98 h => ?_)
    obtain ⟨hr98, hw98⟩ := hp98
    obtain ⟨ev98, rfl⟩ := Prod.mk.inj hw98
    replace ev98 := ev98.symm
    refine lv_iconst (v := 2) hx hb dX8_tells_101 (by decide) ?_
    refine lv_imul hx hb dX8_tells_102 ?_
    exact g_iret X h dX8_tells_103 (by refine ⟨?_, by rw [ev98, ev86]; rfl⟩; rw [hr98, ev86, ranV_ne (by decide) (by decide)]; rfl)
  · skip
    obtain rfl : own = 6 := nI_eq1 (b := 6) hkd rfl (by omega) (by omega) hk7
    refine g_tr (y := 6) ((by rw [ev86, ranV_ne (by decide) (by decide)] : v86 117 p = v 117 p).trans hk7) ?_
    refine lv_iload_n hx hb dX8_tells_97 rfl (lv_at hl 3 rfl) ?_
    refine g_ki h (g_runV X h (As := [.int x0, .int 6, .int x2]) (rest := []) (c_X8_prays__k6 gl Z v86 w x0 p hp x2 hp6 6 (by omega) (t + 1) (by rw [ev86, ranV_ne (by decide) (by decide)]; exact hkd) (by rw [ev86]; exact ranV_43) (by omega)) mi_X8_prays_ ml_RX8_330 (cc_116) (by decide) kl8 rfl ⟨Nat.le_of_ble_eq_true rfl, Nat.le_of_ble_eq_true rfl⟩ rfl hl.1 rfl (Nat.le_of_ble_eq_true rfl) dX8_tells_98) (fun r98 v98 w98 H locs hp98 h => ?_)
    obtain ⟨hr98, hw98⟩ := hp98
    obtain ⟨ev98, rfl⟩ := Prod.mk.inj hw98
    replace ev98 := ev98.symm
    refine lv_iconst (v := 2) hx hb dX8_tells_101 (by decide) ?_
    refine lv_imul hx hb dX8_tells_102 ?_
    exact g_iret X h dX8_tells_103 (by refine ⟨?_, by rw [ev98, ev86]; rfl⟩; rw [hr98, ev86, ranV_ne (by decide) (by decide)]; rfl)

set_option maxRecDepth 100000 in
set_option maxHeartbeats 1000000 in
theorem c_X8_tells_k1 (gl : Launch) (Z : PL) (v : VV) (w : WV) (x0 : Int32) (p : Nat) (hp : x0 = nI p) (x2 : Int32) (hp6 : p < 6) (own : Nat) (ho6 : own ≤ 6) (t : Nat) (hkd : v 117 p = nI own) (htr : v 116 43 = nI t) (ht9 : t < 849) : CT gl yX8_tells cX8_tells 5 (some .int) 8 186 Z [.ref (zg Z 116), .int x0, .int 1, .int x2] v w (Qi Z (fun r u => r = tlV own 1 x0 (v 118 p) x2 ∧ (ranL v t (tlL own 1), w) = u)) := by
  refine g_met (by decide) (Nat.le_of_ble_eq_true rfl) ?_
  intro gp ge gs gm ga gb gh gc X h ls hl
  have hx := X.1
  have hb := X.2.1
  have hl : lv_has ls 5 [(0, .ref (zg Z 116)), (1, .int x0), (2, .int 1), (3, .int x2)] := hl
  refine lv_iload_n hx hb dX8_tells_0 rfl (lv_at hl 2 rfl) ?_
  refine lv_lookup (off := 103) (tgt := 104) hx hb dX8_tells_1 (by decide) (by decide) (by decide) ?_
  refine lv_aload_n hx hb dX8_tells_104 rfl (lv_at hl 0 rfl) ?_
  refine lv_iload_n hx hb dX8_tells_105 rfl (lv_at hl 1 rfl) ?_
  refine lv_iload_n hx hb dX8_tells_106 rfl (lv_at hl 2 rfl) ?_
  refine g_ki h (g_runS X h (As := [.int 1]) (rest := [.int x0, .ref (zg Z 116)]) (c_X8_above gl Z v w 1) ms_X8_above ml_RX8_327 ⟨Nat.le_of_ble_eq_true rfl, Nat.le_of_ble_eq_true rfl⟩ rfl hl.1 rfl (Nat.le_of_ble_eq_true rfl) dX8_tells_107) (fun r107 v107 w107 H locs hp107 h => ?_)
  obtain ⟨hr107, hu107⟩ := hp107; obtain ⟨rfl, rfl⟩ := Prod.mk.inj hu107
  refine g_tr (y := 0) (hr107.trans (by decide)) ?_
  refine lv_iload_n hx hb dX8_tells_110 rfl (lv_at hl 3 rfl) ?_
  refine g_ki h (g_runV X h (As := [.int x0, .int 0, .int x2]) (rest := []) (c_X8_tells_k0 gl Z v w x0 p hp x2 hp6 own ho6 t hkd htr (by omega)) mi_X8_tells ml_RX8_332 (cc_116) (by decide) kl8 rfl ⟨Nat.le_of_ble_eq_true rfl, Nat.le_of_ble_eq_true rfl⟩ rfl hl.1 rfl (Nat.le_of_ble_eq_true rfl) dX8_tells_111) (fun r111 v111 w111 H locs hp111 h => ?_)
  obtain ⟨hr111, hw111⟩ := hp111
  obtain ⟨ev111, rfl⟩ := Prod.mk.inj hw111
  replace ev111 := ev111.symm
  exact g_iret X h dX8_tells_114 (by refine ⟨?_, by rw [ev111]; rfl⟩; rw [hr111]; rfl)

set_option maxRecDepth 100000 in
set_option maxHeartbeats 1000000 in
theorem c_X8_tells_k2 (gl : Launch) (Z : PL) (v : VV) (w : WV) (x0 : Int32) (p : Nat) (hp : x0 = nI p) (x2 : Int32) (hp6 : p < 6) (own : Nat) (ho6 : own ≤ 6) (t : Nat) (hkd : v 117 p = nI own) (htr : v 116 43 = nI t) (ht9 : t < 849) : CT gl yX8_tells cX8_tells 5 (some .int) 8 186 Z [.ref (zg Z 116), .int x0, .int 2, .int x2] v w (Qi Z (fun r u => r = tlV own 2 x0 (v 118 p) x2 ∧ (ranL v t (tlL own 2), w) = u)) := by
  refine g_met (by decide) (Nat.le_of_ble_eq_true rfl) ?_
  intro gp ge gs gm ga gb gh gc X h ls hl
  have hx := X.1
  have hb := X.2.1
  have hl : lv_has ls 5 [(0, .ref (zg Z 116)), (1, .int x0), (2, .int 2), (3, .int x2)] := hl
  refine lv_iload_n hx hb dX8_tells_0 rfl (lv_at hl 2 rfl) ?_
  refine lv_lookup (off := 103) (tgt := 104) hx hb dX8_tells_1 (by decide) (by decide) (by decide) ?_
  refine lv_aload_n hx hb dX8_tells_104 rfl (lv_at hl 0 rfl) ?_
  refine lv_iload_n hx hb dX8_tells_105 rfl (lv_at hl 1 rfl) ?_
  refine lv_iload_n hx hb dX8_tells_106 rfl (lv_at hl 2 rfl) ?_
  refine g_ki h (g_runS X h (As := [.int 2]) (rest := [.int x0, .ref (zg Z 116)]) (c_X8_above gl Z v w 2) ms_X8_above ml_RX8_327 ⟨Nat.le_of_ble_eq_true rfl, Nat.le_of_ble_eq_true rfl⟩ rfl hl.1 rfl (Nat.le_of_ble_eq_true rfl) dX8_tells_107) (fun r107 v107 w107 H locs hp107 h => ?_)
  obtain ⟨hr107, hu107⟩ := hp107; obtain ⟨rfl, rfl⟩ := Prod.mk.inj hu107
  refine g_tr (y := 0) (hr107.trans (by decide)) ?_
  refine lv_iload_n hx hb dX8_tells_110 rfl (lv_at hl 3 rfl) ?_
  refine g_ki h (g_runV X h (As := [.int x0, .int 0, .int x2]) (rest := []) (c_X8_tells_k0 gl Z v w x0 p hp x2 hp6 own ho6 t hkd htr (by omega)) mi_X8_tells ml_RX8_332 (cc_116) (by decide) kl8 rfl ⟨Nat.le_of_ble_eq_true rfl, Nat.le_of_ble_eq_true rfl⟩ rfl hl.1 rfl (Nat.le_of_ble_eq_true rfl) dX8_tells_111) (fun r111 v111 w111 H locs hp111 h => ?_)
  obtain ⟨hr111, hw111⟩ := hp111
  obtain ⟨ev111, rfl⟩ := Prod.mk.inj hw111
  replace ev111 := ev111.symm
  exact g_iret X h dX8_tells_114 (by refine ⟨?_, by rw [ev111]; rfl⟩; rw [hr111]; rfl)

set_option maxRecDepth 100000 in
set_option maxHeartbeats 1000000 in
theorem c_X8_tells_k3 (gl : Launch) (Z : PL) (v : VV) (w : WV) (x0 : Int32) (p : Nat) (hp : x0 = nI p) (x2 : Int32) (hp6 : p < 6) (own : Nat) (ho6 : own ≤ 6) (t : Nat) (hkd : v 117 p = nI own) (htr : v 116 43 = nI t) (ht9 : t < 849) : CT gl yX8_tells cX8_tells 5 (some .int) 8 186 Z [.ref (zg Z 116), .int x0, .int 3, .int x2] v w (Qi Z (fun r u => r = tlV own 3 x0 (v 118 p) x2 ∧ (ranL v t (tlL own 3), w) = u)) := by
  refine g_met (by decide) (Nat.le_of_ble_eq_true rfl) ?_
  intro gp ge gs gm ga gb gh gc X h ls hl
  have hx := X.1
  have hb := X.2.1
  have hl : lv_has ls 5 [(0, .ref (zg Z 116)), (1, .int x0), (2, .int 3), (3, .int x2)] := hl
  refine lv_iload_n hx hb dX8_tells_0 rfl (lv_at hl 2 rfl) ?_
  refine lv_lookup (off := 35) (tgt := 36) hx hb dX8_tells_1 (by decide) (by decide) (by decide) ?_
  refine lv_aload_n hx hb dX8_tells_36 rfl (lv_at hl 0 rfl) ?_
  refine lv_bipush (v := 40) hx hb dX8_tells_37 (by decide) ?_
  refine g_kv h (g_runV X h (As := [.int 40]) (rest := []) (c_X8_ran gl Z v w 40 t htr (by omega)) mi_X8_ran ml_RX8_321 (cc_116) (by decide) kl8 rfl ⟨Nat.le_of_ble_eq_true rfl, Nat.le_of_ble_eq_true rfl⟩ rfl hl.1 rfl (Nat.le_of_ble_eq_true rfl) dX8_tells_39) (fun v39 w39 H locs hp39 h => ?_)
  obtain ⟨ev39, rfl⟩ := Prod.mk.inj hp39
  replace ev39 := ev39.symm
  refine lv_aload_n hx hb dX8_tells_42 rfl (lv_at hl 0 rfl) ?_
  refine lv_iload_n hx hb dX8_tells_43 rfl (lv_at hl 1 rfl) ?_
  refine lv_iconst (v := 0) hx hb dX8_tells_44 (by decide) ?_
  refine lv_iload_n hx hb dX8_tells_45 rfl (lv_at hl 3 rfl) ?_
  refine g_ki h (g_runV X h (As := [.int x0, .int 0, .int x2]) (rest := []) (c_X8_tells_k0 gl Z v39 w x0 p hp x2 hp6 own ho6 (t + 1) (by rw [ev39, ranV_ne (by decide) (by decide)]; exact hkd) (by rw [ev39]; exact ranV_43) (by omega)) mi_X8_tells ml_RX8_332 (cc_116) (by decide) kl8 rfl ⟨Nat.le_of_ble_eq_true rfl, Nat.le_of_ble_eq_true rfl⟩ rfl hl.1 rfl (Nat.le_of_ble_eq_true rfl) dX8_tells_46) (fun r46 v46 w46 H locs hp46 h => ?_)
  obtain ⟨hr46, hw46⟩ := hp46
  obtain ⟨ev46, rfl⟩ := Prod.mk.inj hw46
  replace ev46 := ev46.symm
  refine lv_istore (lv' := [(4, .int r46), (0, .ref (zg Z 116)), (1, .int x0), (2, .int 3), (3, .int x2)]) hx hb dX8_tells_49 hl (by decide) rfl (fun ls hl => ?_)
  refine lv_iload hx hb dX8_tells_51 (lv_at hl 0 rfl) ?_
  refine lv_aload_n hx hb dX8_tells_53 rfl (lv_at hl 1 rfl) ?_
  refine lv_iload_n hx hb dX8_tells_54 rfl (lv_at hl 2 rfl) ?_
  refine lv_aload_n hx hb dX8_tells_55 rfl (lv_at hl 1 rfl) ?_
  refine g_getr X h (k := 1) (t := 117) (cc_116) fr_RX8_9 rfl (by decide) (by decide) (by decide) dX8_tells_56 ?_
  refine lv_iload_n hx hb dX8_tells_59 rfl (lv_at hl 2 rfl) ?_
  refine g_iald X h (k := p) (cc_117) hp (by omega) (by decide) dX8_tells_60 ?_
  rcases kind7 hkd ho6 with hk7 | hk7 | hk7 | hk7 | hk7 | hk7 | hk7
  · skip
    obtain rfl : own = 0 := nI_eq1 (b := 0) hkd rfl (by omega) (by omega) hk7
    refine g_tr (y := 0) ((by rw [ev46, ranL_ne (by decide) (by decide), ev39, ranV_ne (by decide) (by decide)] : v46 117 p = v 117 p).trans hk7) ?_
    refine lv_iconst (v := 1) hx hb dX8_tells_61 (by decide) ?_
    refine g_ki h (g_runV X h (As := [.int x0, .int 0, .int 1]) (rest := [.int r46]) (c_X8_prays__k0 gl Z v46 w x0 p hp 1 hp6 0 (by omega) (t + 1 + (tlL 0 0).length) (by rw [ev46, ranL_ne (by decide) (by decide), ev39, ranV_ne (by decide) (by decide)]; exact hkd) (by rw [ev46]; exact ranL_43 _ _ _ (by rw [ev39]; exact ranV_43)) (by have : (tlL 0 0).length ≤ 20 := (by decide); omega)) mi_X8_prays_ ml_RX8_330 (cc_116) (by decide) kl8 rfl ⟨Nat.le_of_ble_eq_true rfl, Nat.le_of_ble_eq_true rfl⟩ rfl hl.1 rfl (Nat.le_of_ble_eq_true rfl) dX8_tells_62) (fun r62 v62 w62 H locs hp62 h => ?_)
    obtain ⟨hr62, hw62⟩ := hp62
    obtain ⟨ev62, rfl⟩ := Prod.mk.inj hw62
    replace ev62 := ev62.symm
    refine lv_iadd hx hb dX8_tells_65 ?_
    exact g_iret X h dX8_tells_66 ⟨(by rw [hr62, hr46, ev46, ranL_ne (by decide) (by decide), ev39, ranV_ne (by decide) (by decide)]; rfl), (by rw [ev62, ev46, ev39, ranL_app]; rfl)⟩
  · skip
    obtain rfl : own = 1 := nI_eq1 (b := 1) hkd rfl (by omega) (by omega) hk7
    refine g_tr (y := 1) ((by rw [ev46, ranL_ne (by decide) (by decide), ev39, ranV_ne (by decide) (by decide)] : v46 117 p = v 117 p).trans hk7) ?_
    refine lv_iconst (v := 1) hx hb dX8_tells_61 (by decide) ?_
    refine g_ki h (g_runV X h (As := [.int x0, .int 1, .int 1]) (rest := [.int r46]) (c_X8_prays__k1 gl Z v46 w x0 p hp 1 hp6 1 (by omega) (t + 1 + (tlL 1 0).length) (by rw [ev46, ranL_ne (by decide) (by decide), ev39, ranV_ne (by decide) (by decide)]; exact hkd) (by rw [ev46]; exact ranL_43 _ _ _ (by rw [ev39]; exact ranV_43)) (by have : (tlL 1 0).length ≤ 20 := (by decide); omega)) mi_X8_prays_ ml_RX8_330 (cc_116) (by decide) kl8 rfl ⟨Nat.le_of_ble_eq_true rfl, Nat.le_of_ble_eq_true rfl⟩ rfl hl.1 rfl (Nat.le_of_ble_eq_true rfl) dX8_tells_62) (fun r62 v62 w62 H locs hp62 h => ?_)
    obtain ⟨hr62, hw62⟩ := hp62
    obtain ⟨ev62, rfl⟩ := Prod.mk.inj hw62
    replace ev62 := ev62.symm
    refine lv_iadd hx hb dX8_tells_65 ?_
    exact g_iret X h dX8_tells_66 ⟨(by rw [hr62, hr46, ev46, ranL_ne (by decide) (by decide), ev39, ranV_ne (by decide) (by decide)]; rfl), (by rw [ev62, ev46, ev39, ranL_app]; rfl)⟩
  · skip
    obtain rfl : own = 2 := nI_eq1 (b := 2) hkd rfl (by omega) (by omega) hk7
    refine g_tr (y := 2) ((by rw [ev46, ranL_ne (by decide) (by decide), ev39, ranV_ne (by decide) (by decide)] : v46 117 p = v 117 p).trans hk7) ?_
    refine lv_iconst (v := 1) hx hb dX8_tells_61 (by decide) ?_
    refine g_ki h (g_runV X h (As := [.int x0, .int 2, .int 1]) (rest := [.int r46]) (c_X8_prays__k2 gl Z v46 w x0 p hp 1 hp6 2 (by omega) (t + 1 + (tlL 2 0).length) (by rw [ev46, ranL_ne (by decide) (by decide), ev39, ranV_ne (by decide) (by decide)]; exact hkd) (by rw [ev46]; exact ranL_43 _ _ _ (by rw [ev39]; exact ranV_43)) (by have : (tlL 2 0).length ≤ 20 := (by decide); omega)) mi_X8_prays_ ml_RX8_330 (cc_116) (by decide) kl8 rfl ⟨Nat.le_of_ble_eq_true rfl, Nat.le_of_ble_eq_true rfl⟩ rfl hl.1 rfl (Nat.le_of_ble_eq_true rfl) dX8_tells_62) (fun r62 v62 w62 H locs hp62 h => ?_)
    obtain ⟨hr62, hw62⟩ := hp62
    obtain ⟨ev62, rfl⟩ := Prod.mk.inj hw62
    replace ev62 := ev62.symm
    refine lv_iadd hx hb dX8_tells_65 ?_
    exact g_iret X h dX8_tells_66 ⟨(by rw [hr62, hr46, ev46, ranL_ne (by decide) (by decide), ev39, ranV_ne (by decide) (by decide)]; rfl), (by rw [ev62, ev46, ev39, ranL_app]; rfl)⟩
  · skip
    obtain rfl : own = 3 := nI_eq1 (b := 3) hkd rfl (by omega) (by omega) hk7
    refine g_tr (y := 3) ((by rw [ev46, ranL_ne (by decide) (by decide), ev39, ranV_ne (by decide) (by decide)] : v46 117 p = v 117 p).trans hk7) ?_
    refine lv_iconst (v := 1) hx hb dX8_tells_61 (by decide) ?_
    refine g_ki h (g_runV X h (As := [.int x0, .int 3, .int 1]) (rest := [.int r46]) (c_X8_prays__k3 gl Z v46 w x0 p hp 1 hp6 3 (by omega) (t + 1 + (tlL 3 0).length) (by rw [ev46, ranL_ne (by decide) (by decide), ev39, ranV_ne (by decide) (by decide)]; exact hkd) (by rw [ev46]; exact ranL_43 _ _ _ (by rw [ev39]; exact ranV_43)) (by have : (tlL 3 0).length ≤ 20 := (by decide); omega)) mi_X8_prays_ ml_RX8_330 (cc_116) (by decide) kl8 rfl ⟨Nat.le_of_ble_eq_true rfl, Nat.le_of_ble_eq_true rfl⟩ rfl hl.1 rfl (Nat.le_of_ble_eq_true rfl) dX8_tells_62) (fun r62 v62 w62 H locs hp62 h => ?_)
    obtain ⟨hr62, hw62⟩ := hp62
    obtain ⟨ev62, rfl⟩ := Prod.mk.inj hw62
    replace ev62 := ev62.symm
    refine lv_iadd hx hb dX8_tells_65 ?_
    exact g_iret X h dX8_tells_66 ⟨(by rw [hr62, hr46, ev46, ranL_ne (by decide) (by decide), ev39, ranV_ne (by decide) (by decide)]; rfl), (by rw [ev62, ev46, ev39, ranL_app]; rfl)⟩
  · skip
    obtain rfl : own = 4 := nI_eq1 (b := 4) hkd rfl (by omega) (by omega) hk7
    refine g_tr (y := 4) ((by rw [ev46, ranL_ne (by decide) (by decide), ev39, ranV_ne (by decide) (by decide)] : v46 117 p = v 117 p).trans hk7) ?_
    refine lv_iconst (v := 1) hx hb dX8_tells_61 (by decide) ?_
    refine g_ki h (g_runV X h (As := [.int x0, .int 4, .int 1]) (rest := [.int r46]) (c_X8_prays__k4 gl Z v46 w x0 p hp 1 hp6 4 (by omega) (t + 1 + (tlL 4 0).length) (by rw [ev46, ranL_ne (by decide) (by decide), ev39, ranV_ne (by decide) (by decide)]; exact hkd) (by rw [ev46]; exact ranL_43 _ _ _ (by rw [ev39]; exact ranV_43)) (by have : (tlL 4 0).length ≤ 20 := (by decide); omega)) mi_X8_prays_ ml_RX8_330 (cc_116) (by decide) kl8 rfl ⟨Nat.le_of_ble_eq_true rfl, Nat.le_of_ble_eq_true rfl⟩ rfl hl.1 rfl (Nat.le_of_ble_eq_true rfl) dX8_tells_62) (fun r62 v62 w62 H locs hp62 h => ?_)
    obtain ⟨hr62, hw62⟩ := hp62
    obtain ⟨ev62, rfl⟩ := Prod.mk.inj hw62
    replace ev62 := ev62.symm
    refine lv_iadd hx hb dX8_tells_65 ?_
    exact g_iret X h dX8_tells_66 ⟨(by rw [hr62, hr46, ev46, ranL_ne (by decide) (by decide), ev39, ranV_ne (by decide) (by decide)]; rfl), (by rw [ev62, ev46, ev39, ranL_app]; rfl)⟩
  · skip
    obtain rfl : own = 5 := nI_eq1 (b := 5) hkd rfl (by omega) (by omega) hk7
    refine g_tr (y := 5) ((by rw [ev46, ranL_ne (by decide) (by decide), ev39, ranV_ne (by decide) (by decide)] : v46 117 p = v 117 p).trans hk7) ?_
    refine lv_iconst (v := 1) hx hb dX8_tells_61 (by decide) ?_
    refine g_ki h (g_runV X h (As := [.int x0, .int 5, .int 1]) (rest := [.int r46]) (c_X8_prays__k5 gl Z v46 w x0 p hp 1 hp6 5 (by omega) (t + 1 + (tlL 5 0).length) (by rw [ev46, ranL_ne (by decide) (by decide), ev39, ranV_ne (by decide) (by decide)]; exact hkd) (by rw [ev46]; exact ranL_43 _ _ _ (by rw [ev39]; exact ranV_43)) (by have : (tlL 5 0).length ≤ 20 := (by decide); omega)) mi_X8_prays_ ml_RX8_330 (cc_116) (by decide) kl8 rfl ⟨Nat.le_of_ble_eq_true rfl, Nat.le_of_ble_eq_true rfl⟩ rfl hl.1 rfl (Nat.le_of_ble_eq_true rfl) dX8_tells_62) (fun r62 v62 w62 H locs hp62 h => ?_)
    obtain ⟨hr62, hw62⟩ := hp62
    obtain ⟨ev62, rfl⟩ := Prod.mk.inj hw62
    replace ev62 := ev62.symm
    refine lv_iadd hx hb dX8_tells_65 ?_
    exact g_iret X h dX8_tells_66 ⟨(by rw [hr62, hr46, ev46, ranL_ne (by decide) (by decide), ev39, ranV_ne (by decide) (by decide)]; rfl), (by rw [ev62, ev46, ev39, ranL_app]; rfl)⟩
  · skip
    obtain rfl : own = 6 := nI_eq1 (b := 6) hkd rfl (by omega) (by omega) hk7
    refine g_tr (y := 6) ((by rw [ev46, ranL_ne (by decide) (by decide), ev39, ranV_ne (by decide) (by decide)] : v46 117 p = v 117 p).trans hk7) ?_
    refine lv_iconst (v := 1) hx hb dX8_tells_61 (by decide) ?_
    refine g_ki h (g_runV X h (As := [.int x0, .int 6, .int 1]) (rest := [.int r46]) (c_X8_prays__k6 gl Z v46 w x0 p hp 1 hp6 6 (by omega) (t + 1 + (tlL 6 0).length) (by rw [ev46, ranL_ne (by decide) (by decide), ev39, ranV_ne (by decide) (by decide)]; exact hkd) (by rw [ev46]; exact ranL_43 _ _ _ (by rw [ev39]; exact ranV_43)) (by have : (tlL 6 0).length ≤ 20 := (by decide); omega)) mi_X8_prays_ ml_RX8_330 (cc_116) (by decide) kl8 rfl ⟨Nat.le_of_ble_eq_true rfl, Nat.le_of_ble_eq_true rfl⟩ rfl hl.1 rfl (Nat.le_of_ble_eq_true rfl) dX8_tells_62) (fun r62 v62 w62 H locs hp62 h => ?_)
    obtain ⟨hr62, hw62⟩ := hp62
    obtain ⟨ev62, rfl⟩ := Prod.mk.inj hw62
    replace ev62 := ev62.symm
    refine lv_iadd hx hb dX8_tells_65 ?_
    exact g_iret X h dX8_tells_66 ⟨(by rw [hr62, hr46, ev46, ranL_ne (by decide) (by decide), ev39, ranV_ne (by decide) (by decide)]; rfl), (by rw [ev62, ev46, ev39, ranL_app]; rfl)⟩

set_option maxRecDepth 100000 in
set_option maxHeartbeats 1000000 in
theorem c_X8_tells_k4 (gl : Launch) (Z : PL) (v : VV) (w : WV) (x0 : Int32) (p : Nat) (hp : x0 = nI p) (x2 : Int32) (hp6 : p < 6) (own : Nat) (ho6 : own ≤ 6) (t : Nat) (hkd : v 117 p = nI own) (htr : v 116 43 = nI t) (ht9 : t < 848) : CT gl yX8_tells cX8_tells 5 (some .int) 9 210 Z [.ref (zg Z 116), .int x0, .int 4, .int x2] v w (Qi Z (fun r u => r = tlV own 4 x0 (v 118 p) x2 ∧ (ranL v t (tlL own 4), w) = u)) := by
  refine g_met (by decide) (Nat.le_of_ble_eq_true rfl) ?_
  intro gp ge gs gm ga gb gh gc X h ls hl
  have hx := X.1
  have hb := X.2.1
  have hl : lv_has ls 5 [(0, .ref (zg Z 116)), (1, .int x0), (2, .int 4), (3, .int x2)] := hl
  refine lv_iload_n hx hb dX8_tells_0 rfl (lv_at hl 2 rfl) ?_
  refine lv_lookup (off := 103) (tgt := 104) hx hb dX8_tells_1 (by decide) (by decide) (by decide) ?_
  refine lv_aload_n hx hb dX8_tells_104 rfl (lv_at hl 0 rfl) ?_
  refine lv_iload_n hx hb dX8_tells_105 rfl (lv_at hl 1 rfl) ?_
  refine lv_iload_n hx hb dX8_tells_106 rfl (lv_at hl 2 rfl) ?_
  refine g_ki h (g_runS X h (As := [.int 4]) (rest := [.int x0, .ref (zg Z 116)]) (c_X8_above gl Z v w 4) ms_X8_above ml_RX8_327 ⟨Nat.le_of_ble_eq_true rfl, Nat.le_of_ble_eq_true rfl⟩ rfl hl.1 rfl (Nat.le_of_ble_eq_true rfl) dX8_tells_107) (fun r107 v107 w107 H locs hp107 h => ?_)
  obtain ⟨hr107, hu107⟩ := hp107; obtain ⟨rfl, rfl⟩ := Prod.mk.inj hu107
  refine g_tr (y := 1) (hr107.trans (by decide)) ?_
  refine lv_iload_n hx hb dX8_tells_110 rfl (lv_at hl 3 rfl) ?_
  refine g_ki h (g_runV X h (As := [.int x0, .int 1, .int x2]) (rest := []) (c_X8_tells_k1 gl Z v w x0 p hp x2 hp6 own ho6 t hkd htr (by omega)) mi_X8_tells ml_RX8_332 (cc_116) (by decide) kl8 rfl ⟨Nat.le_of_ble_eq_true rfl, Nat.le_of_ble_eq_true rfl⟩ rfl hl.1 rfl (Nat.le_of_ble_eq_true rfl) dX8_tells_111) (fun r111 v111 w111 H locs hp111 h => ?_)
  obtain ⟨hr111, hw111⟩ := hp111
  obtain ⟨ev111, rfl⟩ := Prod.mk.inj hw111
  replace ev111 := ev111.symm
  exact g_iret X h dX8_tells_114 (by refine ⟨?_, by rw [ev111]; rfl⟩; rw [hr111]; rfl)

set_option maxRecDepth 100000 in
set_option maxHeartbeats 1000000 in
theorem c_X8_tells_k5 (gl : Launch) (Z : PL) (v : VV) (w : WV) (x0 : Int32) (p : Nat) (hp : x0 = nI p) (x2 : Int32) (hp6 : p < 6) (own : Nat) (ho6 : own ≤ 6) (t : Nat) (hkd : v 117 p = nI own) (htr : v 116 43 = nI t) (ht9 : t < 848) : CT gl yX8_tells cX8_tells 5 (some .int) 9 210 Z [.ref (zg Z 116), .int x0, .int 5, .int x2] v w (Qi Z (fun r u => r = tlV own 5 x0 (v 118 p) x2 ∧ (ranL v t (tlL own 5), w) = u)) := by
  refine g_met (by decide) (Nat.le_of_ble_eq_true rfl) ?_
  intro gp ge gs gm ga gb gh gc X h ls hl
  have hx := X.1
  have hb := X.2.1
  have hl : lv_has ls 5 [(0, .ref (zg Z 116)), (1, .int x0), (2, .int 5), (3, .int x2)] := hl
  refine lv_iload_n hx hb dX8_tells_0 rfl (lv_at hl 2 rfl) ?_
  refine lv_lookup (off := 66) (tgt := 67) hx hb dX8_tells_1 (by decide) (by decide) (by decide) ?_
  refine lv_aload_n hx hb dX8_tells_67 rfl (lv_at hl 0 rfl) ?_
  refine lv_bipush (v := 60) hx hb dX8_tells_68 (by decide) ?_
  refine g_kv h (g_runV X h (As := [.int 60]) (rest := []) (c_X8_ran gl Z v w 60 t htr (by omega)) mi_X8_ran ml_RX8_321 (cc_116) (by decide) kl8 rfl ⟨Nat.le_of_ble_eq_true rfl, Nat.le_of_ble_eq_true rfl⟩ rfl hl.1 rfl (Nat.le_of_ble_eq_true rfl) dX8_tells_70) (fun v70 w70 H locs hp70 h => ?_)
  obtain ⟨ev70, rfl⟩ := Prod.mk.inj hp70
  replace ev70 := ev70.symm
  refine lv_aload_n hx hb dX8_tells_73 rfl (lv_at hl 0 rfl) ?_
  refine lv_iload_n hx hb dX8_tells_74 rfl (lv_at hl 1 rfl) ?_
  refine lv_iconst (v := 2) hx hb dX8_tells_75 (by decide) ?_
  refine lv_iload_n hx hb dX8_tells_76 rfl (lv_at hl 3 rfl) ?_
  refine lv_iload_n hx hb dX8_tells_77 rfl (lv_at hl 1 rfl) ?_
  refine lv_isub hx hb dX8_tells_78 ?_
  refine g_ki h (g_runV X h (As := [.int x0, .int 2, .int (x2 - x0)]) (rest := []) (c_X8_tells_k2 gl Z v70 w x0 p hp (x2 - x0) hp6 own ho6 (t + 1) (by rw [ev70, ranV_ne (by decide) (by decide)]; exact hkd) (by rw [ev70]; exact ranV_43) (by omega)) mi_X8_tells ml_RX8_332 (cc_116) (by decide) kl8 rfl ⟨Nat.le_of_ble_eq_true rfl, Nat.le_of_ble_eq_true rfl⟩ rfl hl.1 rfl (Nat.le_of_ble_eq_true rfl) dX8_tells_79) (fun r79 v79 w79 H locs hp79 h => ?_)
  obtain ⟨hr79, hw79⟩ := hp79
  obtain ⟨ev79, rfl⟩ := Prod.mk.inj hw79
  replace ev79 := ev79.symm
  exact g_iret X h dX8_tells_82 (by refine ⟨?_, by rw [ev79, ev70]; rfl⟩; rw [hr79, ev70, ranV_ne (by decide) (by decide)]; rfl)

set_option maxRecDepth 100000 in
set_option maxHeartbeats 1000000 in
theorem c_X8_tells_k6 (gl : Launch) (Z : PL) (v : VV) (w : WV) (x0 : Int32) (p : Nat) (hp : x0 = nI p) (x2 : Int32) (hp6 : p < 6) (own : Nat) (ho6 : own ≤ 6) (t : Nat) (hkd : v 117 p = nI own) (htr : v 116 43 = nI t) (ht9 : t < 848) : CT gl yX8_tells cX8_tells 5 (some .int) 9 210 Z [.ref (zg Z 116), .int x0, .int 6, .int x2] v w (Qi Z (fun r u => r = tlV own 6 x0 (v 118 p) x2 ∧ (ranL v t (tlL own 6), w) = u)) := by
  refine g_met (by decide) (Nat.le_of_ble_eq_true rfl) ?_
  intro gp ge gs gm ga gb gh gc X h ls hl
  have hx := X.1
  have hb := X.2.1
  have hl : lv_has ls 5 [(0, .ref (zg Z 116)), (1, .int x0), (2, .int 6), (3, .int x2)] := hl
  refine lv_iload_n hx hb dX8_tells_0 rfl (lv_at hl 2 rfl) ?_
  refine lv_lookup (off := 103) (tgt := 104) hx hb dX8_tells_1 (by decide) (by decide) (by decide) ?_
  refine lv_aload_n hx hb dX8_tells_104 rfl (lv_at hl 0 rfl) ?_
  refine lv_iload_n hx hb dX8_tells_105 rfl (lv_at hl 1 rfl) ?_
  refine lv_iload_n hx hb dX8_tells_106 rfl (lv_at hl 2 rfl) ?_
  refine g_ki h (g_runS X h (As := [.int 6]) (rest := [.int x0, .ref (zg Z 116)]) (c_X8_above gl Z v w 6) ms_X8_above ml_RX8_327 ⟨Nat.le_of_ble_eq_true rfl, Nat.le_of_ble_eq_true rfl⟩ rfl hl.1 rfl (Nat.le_of_ble_eq_true rfl) dX8_tells_107) (fun r107 v107 w107 H locs hp107 h => ?_)
  obtain ⟨hr107, hu107⟩ := hp107; obtain ⟨rfl, rfl⟩ := Prod.mk.inj hu107
  refine g_tr (y := 3) (hr107.trans (by decide)) ?_
  refine lv_iload_n hx hb dX8_tells_110 rfl (lv_at hl 3 rfl) ?_
  refine g_ki h (g_runV X h (As := [.int x0, .int 3, .int x2]) (rest := []) (c_X8_tells_k3 gl Z v w x0 p hp x2 hp6 own ho6 t hkd htr (by omega)) mi_X8_tells ml_RX8_332 (cc_116) (by decide) kl8 rfl ⟨Nat.le_of_ble_eq_true rfl, Nat.le_of_ble_eq_true rfl⟩ rfl hl.1 rfl (Nat.le_of_ble_eq_true rfl) dX8_tells_111) (fun r111 v111 w111 H locs hp111 h => ?_)
  obtain ⟨hr111, hw111⟩ := hp111
  obtain ⟨ev111, rfl⟩ := Prod.mk.inj hw111
  replace ev111 := ev111.symm
  exact g_iret X h dX8_tells_114 (by refine ⟨?_, by rw [ev111]; rfl⟩; rw [hr111]; rfl)
