/-! the class: what is set -/
theorem nar_b {x : Int32} (h : inR x 0 127 = true) : vp_nar .byte (x.toInt8.toInt32) = x := by
  obtain ⟨k, e, -, hk, -⟩ := inR_nat (a := 0) (b := 127) rfl rfl (by decide) h
  subst e
  have : ∀ k, k < 128 → vp_nar .byte ((nI k).toInt8.toInt32) = nI k := by decide +kernel
  exact this k (by omega)
theorem kk7 {k : Nat} (h : k ≤ 6) : k = 0 ∨ k = 1 ∨ k = 2 ∨ k = 3 ∨ k = 4 ∨ k = 5 ∨ k = 6 := by omega
theorem in02 {x : Int32} (h : inR x 0 2 = true) : x = 0 ∨ x = 1 ∨ x = 2 := inR_012 h
def imF (v u : VV) : Prop := (∀ i, i ≠ 0 → (i < 89 ∨ i = 91 ∨ 107 < i) → u i = v i) ∧ ∀ k, k ≠ 4 → u 0 k = v 0 k
def unF (v u : VV) : Prop := ∀ i, (i < 51 ∨ i = 53 ∨ 69 < i) → u i = v i
set_option maxRecDepth 100000 in
set_option maxHeartbeats 1000000 in
theorem c_X7_person (gl : Launch) (Z : PL) (v : VV) (w : WV) (x0 : Int32) (x1 : Int32) (x2 : Int32) (n : Nat) (hn : v 52 0 = nI n) (h6 : n ≤ 6) : CT gl yX7_person cX7_person 4 (some .int) 2 47 Z [.ref (zg Z 0), .int x0, .int x1, .int x2] v w (Qi Z (fun r u => r = sPerson n x0 x1 x2 ∧ (if okPerson n x0 x1 x2 then joS v 52 n x0 x1 x2 else v, w) = u)) := by
  refine g_met (by decide) (Nat.le_of_ble_eq_true rfl) ?_
  intro gp ge gs gm ga gb gh gc X h ls hl
  have hx := X.1
  have hb := X.2.1
  have hl : lv_has ls 4 [(0, .ref (zg Z 0)), (1, .int x0), (2, .int x1), (3, .int x2)] := hl
  refine lv_iload_n hx hb dX7_person_0 rfl (lv_at hl 1 rfl) ?_
  refine lv_iconst (v := 0) hx hb dX7_person_1 (by decide) ?_
  refine lv_bipush (v := 6) hx hb dX7_person_2 (by decide) ?_
  refine g_ki h (g_runS X h (As := [.int x0, .int 0, .int 6]) (rest := []) (c_X7_isWithin gl Z v w x0 0 6) ms_X7_isWithin ml_RX7_58 ⟨Nat.le_of_ble_eq_true rfl, Nat.le_of_ble_eq_true rfl⟩ rfl hl.1 rfl (Nat.le_of_ble_eq_true rfl) dX7_person_4) (fun r4 v4 w4 H locs hp4 h => ?_)
  obtain ⟨hr4, hu4⟩ := hp4; obtain ⟨rfl, rfl⟩ := Prod.mk.inj hu4
  refine lv_if_ne (tgt := 12) hx hb dX7_person_7 (by decide) (fun c_7 => ?_) (fun c_7 => ?_)
  · skip
    rw [hr4, bI_n] at c_7
    refine lv_iload_n hx hb dX7_person_12 rfl (lv_at hl 2 rfl) ?_
    refine lv_iconst (v := 0) hx hb dX7_person_13 (by decide) ?_
    refine lv_bipush (v := 9) hx hb dX7_person_14 (by decide) ?_
    refine g_ki h (g_runS X h (As := [.int x1, .int 0, .int 9]) (rest := []) (c_X7_isWithin gl Z v w x1 0 9) ms_X7_isWithin ml_RX7_58 ⟨Nat.le_of_ble_eq_true rfl, Nat.le_of_ble_eq_true rfl⟩ rfl hl.1 rfl (Nat.le_of_ble_eq_true rfl) dX7_person_16) (fun r16 v16 w16 H locs hp16 h => ?_)
    obtain ⟨hr16, hu16⟩ := hp16; obtain ⟨rfl, rfl⟩ := Prod.mk.inj hu16
    refine lv_if_eq (tgt := 33) hx hb dX7_person_19 (by decide) (fun c_19 => ?_) (fun c_19 => ?_)
    · skip
      rw [hr16, bI_0] at c_19
      refine lv_bipush (v := (-2)) hx hb dX7_person_33 (by decide) ?_
      exact g_iret X h dX7_person_35 (by simp [sPerson, okPerson, c_7, c_19])
    · skip
      rw [hr16, bI_n] at c_19
      refine lv_iload_n hx hb dX7_person_22 rfl (lv_at hl 3 rfl) ?_
      refine lv_iconst (v := 0) hx hb dX7_person_23 (by decide) ?_
      refine lv_sipush (v := 999) hx hb dX7_person_24 (by decide) ?_
      refine g_ki h (g_runS X h (As := [.int x2, .int 0, .int 999]) (rest := []) (c_X7_isWithin gl Z v w x2 0 999) ms_X7_isWithin ml_RX7_58 ⟨Nat.le_of_ble_eq_true rfl, Nat.le_of_ble_eq_true rfl⟩ rfl hl.1 rfl (Nat.le_of_ble_eq_true rfl) dX7_person_27) (fun r27 v27 w27 H locs hp27 h => ?_)
      obtain ⟨hr27, hu27⟩ := hp27; obtain ⟨rfl, rfl⟩ := Prod.mk.inj hu27
      refine lv_if_ne (tgt := 36) hx hb dX7_person_30 (by decide) (fun c_30 => ?_) (fun c_30 => ?_)
      · skip
        rw [hr27, bI_n] at c_30
        refine lv_aload_n hx hb dX7_person_36 rfl (lv_at hl 0 rfl) ?_
        refine g_getr X h (k := 1) (t := 51) (cc_0) fr_RX7_23 rfl (by decide) (by decide) (by decide) dX7_person_37 ?_
        refine g_getr X h (k := 0) (t := 52) (cc_51) fr_RX7_62 rfl (by decide) (by decide) (by decide) dX7_person_40 ?_
        refine g_geti X h (k := 0) (cc_52) fr_RX7_66 rfl (by decide) dX7_person_43 ?_
        refine lv_bipush (v := 6) hx hb dX7_person_46 (by decide) ?_
        refine lv_icmp_ge (tgt := 67) hx hb dX7_person_48 (by decide) (fun c_48 => ?_) (fun c_48 => ?_)
        · skip
          have hn6 := nI_le1 (a := 6) (b := n) rfl hn (by omega) (by omega) c_48
          refine lv_bipush (v := (-4)) hx hb dX7_person_67 (by decide) ?_
          exact g_iret X h dX7_person_69 ⟨by rw [sPerson, if_pos c_7, if_pos (by rw [c_19, c_30]; rfl), if_neg (by omega)], by rw [if_neg (by rw [okPerson, decide_eq_false (show ¬ n < 6 by omega)]; simp)]⟩
        · skip
          have hn6 := nI_le0 (a := 6) (b := n) rfl hn (by omega) (by omega) c_48
          refine lv_aload_n hx hb dX7_person_51 rfl (lv_at hl 0 rfl) ?_
          refine g_getr X h (k := 1) (t := 51) (cc_0) fr_RX7_23 rfl (by decide) (by decide) (by decide) dX7_person_52 ?_
          refine g_getr X h (k := 0) (t := 52) (cc_51) fr_RX7_62 rfl (by decide) (by decide) (by decide) dX7_person_55 ?_
          refine lv_iload_n hx hb dX7_person_58 rfl (lv_at hl 1 rfl) ?_
          refine lv_iload_n hx hb dX7_person_59 rfl (lv_at hl 2 rfl) ?_
          refine lv_iload_n hx hb dX7_person_60 rfl (lv_at hl 3 rfl) ?_
          refine g_ki h (g_runV X h (As := [.int x0, .int x1, .int x2]) (rest := []) (c_X3_join gl Z v w x0 x1 x2 52 (isWE isW0) n hn (by omega)) mi_X3_join ml_RX7_72 (cc_52) (by decide) kl3 rfl ⟨Nat.le_of_ble_eq_true rfl, Nat.le_of_ble_eq_true rfl⟩ rfl hl.1 rfl (Nat.le_of_ble_eq_true rfl) dX7_person_61) (fun r61 v61 w61 H locs hp61 h => ?_)
          obtain ⟨hr61, hw61⟩ := hp61
          obtain ⟨ev61, rfl⟩ := Prod.mk.inj hw61
          replace ev61 := ev61.symm
          refine lv_goto (tgt := 69) hx hb dX7_person_64 (by decide) ?_
          exact g_iret X h dX7_person_69 ⟨by rw [sPerson, if_pos c_7, if_pos (by rw [c_19, c_30]; rfl), if_pos (by omega)]; exact hr61, by rw [if_pos (by rw [okPerson, c_7, c_19, c_30, decide_eq_true (show n < 6 by omega)]; rfl), ev61]⟩
      · skip
        rw [hr27, bI_0] at c_30
        refine lv_bipush (v := (-2)) hx hb dX7_person_33 (by decide) ?_
        exact g_iret X h dX7_person_35 (by simp [sPerson, okPerson, c_7, c_19, c_30])
  · skip
    rw [hr4, bI_0] at c_7
    refine lv_iconst (v := (-1)) hx hb dX7_person_10 (by decide) ?_
    exact g_iret X h dX7_person_11 (by simp [sPerson, okPerson, c_7])

set_option maxRecDepth 100000 in
set_option maxHeartbeats 1000000 in
theorem c_X7_thanks (gl : Launch) (Z : PL) (v : VV) (w : WV) (x0 : Int32) (x1 : Int32) (n : Nat) (hn : v 52 0 = nI n) (h6 : n ≤ 6) : CT gl yX7_thanks cX7_thanks 4 (some .int) 1 22 Z [.ref (zg Z 0), .int x0, .int x1] v w (Qi Z (fun r u => r = sThanks (nI n) (v 56) x0 x1 ∧ (if isP (nI n) x0 && inR x1 0 999 then up2 v 56 x0.toNatClampNeg x1 else v, w) = u)) := by
  refine g_met (by decide) (Nat.le_of_ble_eq_true rfl) ?_
  intro gp ge gs gm ga gb gh gc X h ls hl
  have hx := X.1
  have hb := X.2.1
  have hl : lv_has ls 4 [(0, .ref (zg Z 0)), (1, .int x0), (2, .int x1)] := hl
  refine lv_aload_n hx hb dX7_thanks_0 rfl (lv_at hl 0 rfl) ?_
  refine lv_iload_n hx hb dX7_thanks_1 rfl (lv_at hl 1 rfl) ?_
  refine g_ki h (g_runV X h (As := [.int x0]) (rest := []) (c_X7_isPerson gl Z v w x0 n hn h6) mi_X7_isPerson ml_RX7_76 (cc_0) (by decide) kl7 rfl ⟨Nat.le_of_ble_eq_true rfl, Nat.le_of_ble_eq_true rfl⟩ rfl hl.1 rfl (Nat.le_of_ble_eq_true rfl) dX7_thanks_2) (fun r2 v2 w2 H locs hp2 h => ?_)
  obtain ⟨hr2, hu2⟩ := hp2; obtain ⟨rfl, rfl⟩ := Prod.mk.inj hu2
  refine lv_if_ne (tgt := 10) hx hb dX7_thanks_5 (by decide) (fun c_5 => ?_) (fun c_5 => ?_)
  · skip
    rw [hr2, bI_n] at c_5
    obtain ⟨k, hk, hkn, hkc⟩ := isP_nat (by omega) c_5
    refine lv_iload_n hx hb dX7_thanks_10 rfl (lv_at hl 2 rfl) ?_
    refine lv_iconst (v := 0) hx hb dX7_thanks_11 (by decide) ?_
    refine lv_sipush (v := 999) hx hb dX7_thanks_12 (by decide) ?_
    refine g_ki h (g_runS X h (As := [.int x1, .int 0, .int 999]) (rest := []) (c_X7_isWithin gl Z v w x1 0 999) ms_X7_isWithin ml_RX7_58 ⟨Nat.le_of_ble_eq_true rfl, Nat.le_of_ble_eq_true rfl⟩ rfl hl.1 rfl (Nat.le_of_ble_eq_true rfl) dX7_thanks_15) (fun r15 v15 w15 H locs hp15 h => ?_)
    obtain ⟨hr15, hu15⟩ := hp15; obtain ⟨rfl, rfl⟩ := Prod.mk.inj hu15
    refine lv_if_ne (tgt := 24) hx hb dX7_thanks_18 (by decide) (fun c_18 => ?_) (fun c_18 => ?_)
    · skip
      rw [hr15, bI_n] at c_18
      refine lv_aload_n hx hb dX7_thanks_24 rfl (lv_at hl 0 rfl) ?_
      refine g_getr X h (k := 1) (t := 51) (cc_0) fr_RX7_23 rfl (by decide) (by decide) (by decide) dX7_thanks_25 ?_
      refine g_getr X h (k := 0) (t := 52) (cc_51) fr_RX7_62 rfl (by decide) (by decide) (by decide) dX7_thanks_28 ?_
      refine g_getr X h (k := 4) (t := 56) (cc_52) fr_RX7_87 rfl (by decide) (by decide) (by decide) dX7_thanks_31 ?_
      refine lv_iload_n hx hb dX7_thanks_34 rfl (lv_at hl 1 rfl) ?_
      refine g_iald X h (k := k) (cc_56) hk (by omega) (by decide) dX7_thanks_35 ?_
      refine lv_topi (fun x3_36 ex3_36 => ?_)
      refine lv_istore_n (lv' := [(3, .int x3_36), (0, .ref (zg Z 0)), (1, .int x0), (2, .int x1)]) hx hb dX7_thanks_36 rfl hl (by decide) rfl (fun ls hl => ?_)
      refine lv_aload_n hx hb dX7_thanks_37 rfl (lv_at hl 1 rfl) ?_
      refine g_getr X h (k := 1) (t := 51) (cc_0) fr_RX7_23 rfl (by decide) (by decide) (by decide) dX7_thanks_38 ?_
      refine g_getr X h (k := 0) (t := 52) (cc_51) fr_RX7_62 rfl (by decide) (by decide) (by decide) dX7_thanks_41 ?_
      refine g_getr X h (k := 4) (t := 56) (cc_52) fr_RX7_87 rfl (by decide) (by decide) (by decide) dX7_thanks_44 ?_
      refine lv_iload_n hx hb dX7_thanks_47 rfl (lv_at hl 2 rfl) ?_
      refine lv_iload_n hx hb dX7_thanks_48 rfl (lv_at hl 3 rfl) ?_
      refine g_iast X h (k := k) (cc_56) hk (by omega) (by decide) dX7_thanks_49 (fun v49 H locs ev49 h => ?_)
      refine lv_iload_n hx hb dX7_thanks_50 rfl (lv_at hl 0 rfl) ?_
      exact g_iret X h dX7_thanks_51 (by simp [sThanks, c_5, c_18, hkc, ev49, ex3_36])
    · skip
      rw [hr15, bI_0] at c_18
      refine lv_bipush (v := (-2)) hx hb dX7_thanks_21 (by decide) ?_
      exact g_iret X h dX7_thanks_23 (by simp [sThanks, c_5, c_18])
  · skip
    rw [hr2, bI_0] at c_5
    refine lv_iconst (v := (-1)) hx hb dX7_thanks_8 (by decide) ?_
    exact g_iret X h dX7_thanks_9 (by simp [sThanks, c_5])

set_option maxRecDepth 100000 in
set_option maxHeartbeats 1000000 in
theorem c_X7_kill (gl : Launch) (Z : PL) (v : VV) (w : WV) (x0 : Int32) (x1 : Int32) (n : Nat) (hn : v 52 0 = nI n) (h6 : n ≤ 6) : CT gl yX7_kill cX7_kill 4 (some .int) 1 22 Z [.ref (zg Z 0), .int x0, .int x1] v w (Qi Z (fun r u => r = (if isP (nI n) x0 then bI (bt (v 52 7) x0.toNatClampNeg) else -1) ∧ (if isP (nI n) x0 then up2 v 52 7 (sdB (v 52 7) x0.toNatClampNeg x1) else v, w) = u)) := by
  refine g_met (by decide) (Nat.le_of_ble_eq_true rfl) ?_
  intro gp ge gs gm ga gb gh gc X h ls hl
  have hx := X.1
  have hb := X.2.1
  have hl : lv_has ls 4 [(0, .ref (zg Z 0)), (1, .int x0), (2, .int x1)] := hl
  refine lv_aload_n hx hb dX7_kill_0 rfl (lv_at hl 0 rfl) ?_
  refine lv_iload_n hx hb dX7_kill_1 rfl (lv_at hl 1 rfl) ?_
  refine g_ki h (g_runV X h (As := [.int x0]) (rest := []) (c_X7_isPerson gl Z v w x0 n hn h6) mi_X7_isPerson ml_RX7_76 (cc_0) (by decide) kl7 rfl ⟨Nat.le_of_ble_eq_true rfl, Nat.le_of_ble_eq_true rfl⟩ rfl hl.1 rfl (Nat.le_of_ble_eq_true rfl) dX7_kill_2) (fun r2 v2 w2 H locs hp2 h => ?_)
  obtain ⟨hr2, hu2⟩ := hp2; obtain ⟨rfl, rfl⟩ := Prod.mk.inj hu2
  refine lv_if_ne (tgt := 10) hx hb dX7_kill_5 (by decide) (fun c_5 => ?_) (fun c_5 => ?_)
  · skip
    rw [hr2, bI_n] at c_5
    obtain ⟨k, hk, hkn, hkc⟩ := isP_nat (by omega) c_5
    refine lv_aload_n hx hb dX7_kill_10 rfl (lv_at hl 0 rfl) ?_
    refine g_getr X h (k := 1) (t := 51) (cc_0) fr_RX7_23 rfl (by decide) (by decide) (by decide) dX7_kill_11 ?_
    refine g_getr X h (k := 0) (t := 52) (cc_51) fr_RX7_62 rfl (by decide) (by decide) (by decide) dX7_kill_14 ?_
    refine lv_iload_n hx hb dX7_kill_17 rfl (lv_at hl 1 rfl) ?_
    refine g_ki h (g_runV X h (As := [.int x0]) (rest := []) (c_X3_isDead gl Z v w x0 k hk (by omega) 52 (isWE isW0)) mi_X3_isDead ml_RX7_93 (cc_52) (by decide) kl3 rfl ⟨Nat.le_of_ble_eq_true rfl, Nat.le_of_ble_eq_true rfl⟩ rfl hl.1 rfl (Nat.le_of_ble_eq_true rfl) dX7_kill_18) (fun r18 v18 w18 H locs hp18 h => ?_)
    obtain ⟨hr18, hu18⟩ := hp18; obtain ⟨rfl, rfl⟩ := Prod.mk.inj hu18
    refine lv_if_eq (tgt := 28) hx hb dX7_kill_21 (by decide) (fun c_21 => ?_) (fun c_21 => ?_)
    · skip
      rw [hr18, bI_0] at c_21
      refine lv_iconst (v := 0) hx hb dX7_kill_28 (by decide) ?_
      refine lv_istore_n (lv' := [(3, .int 0), (0, .ref (zg Z 0)), (1, .int x0), (2, .int x1)]) hx hb dX7_kill_29 rfl hl (by decide) rfl (fun ls hl => ?_)
      refine lv_aload_n hx hb dX7_kill_30 rfl (lv_at hl 1 rfl) ?_
      refine g_getr X h (k := 1) (t := 51) (cc_0) fr_RX7_23 rfl (by decide) (by decide) (by decide) dX7_kill_31 ?_
      refine g_getr X h (k := 0) (t := 52) (cc_51) fr_RX7_62 rfl (by decide) (by decide) (by decide) dX7_kill_34 ?_
      refine lv_iload_n hx hb dX7_kill_37 rfl (lv_at hl 2 rfl) ?_
      refine lv_iload_n hx hb dX7_kill_38 rfl (lv_at hl 3 rfl) ?_
      refine g_kv h (g_runV X h (As := [.int x0, .int x1]) (rest := []) (c_X3_setDead gl Z v w x0 k hk x1 (by omega) 52 (isWE isW0)) mi_X3_setDead ml_RX7_110 (cc_52) (by decide) kl3 rfl ⟨Nat.le_of_ble_eq_true rfl, Nat.le_of_ble_eq_true rfl⟩ rfl hl.1 rfl (Nat.le_of_ble_eq_true rfl) dX7_kill_39) (fun v39 w39 H locs hp39 h => ?_)
      obtain ⟨hv39, rfl⟩ := Prod.mk.inj hp39
      replace hv39 := hv39.symm
      refine lv_iload_n hx hb dX7_kill_42 rfl (lv_at hl 0 rfl) ?_
      exact g_iret X h dX7_kill_43 ⟨by rw [if_pos c_5, hkc, c_21]; rfl, by rw [if_pos c_5, hkc, hv39]⟩
    · skip
      rw [hr18, bI_n] at c_21
      refine lv_iconst (v := 1) hx hb dX7_kill_24 (by decide) ?_
      refine lv_goto (tgt := 29) hx hb dX7_kill_25 (by decide) ?_
      refine lv_istore_n (lv' := [(3, .int 1), (0, .ref (zg Z 0)), (1, .int x0), (2, .int x1)]) hx hb dX7_kill_29 rfl hl (by decide) rfl (fun ls hl => ?_)
      refine lv_aload_n hx hb dX7_kill_30 rfl (lv_at hl 1 rfl) ?_
      refine g_getr X h (k := 1) (t := 51) (cc_0) fr_RX7_23 rfl (by decide) (by decide) (by decide) dX7_kill_31 ?_
      refine g_getr X h (k := 0) (t := 52) (cc_51) fr_RX7_62 rfl (by decide) (by decide) (by decide) dX7_kill_34 ?_
      refine lv_iload_n hx hb dX7_kill_37 rfl (lv_at hl 2 rfl) ?_
      refine lv_iload_n hx hb dX7_kill_38 rfl (lv_at hl 3 rfl) ?_
      refine g_kv h (g_runV X h (As := [.int x0, .int x1]) (rest := []) (c_X3_setDead gl Z v w x0 k hk x1 (by omega) 52 (isWE isW0)) mi_X3_setDead ml_RX7_110 (cc_52) (by decide) kl3 rfl ⟨Nat.le_of_ble_eq_true rfl, Nat.le_of_ble_eq_true rfl⟩ rfl hl.1 rfl (Nat.le_of_ble_eq_true rfl) dX7_kill_39) (fun v39 w39 H locs hp39 h => ?_)
      obtain ⟨hv39, rfl⟩ := Prod.mk.inj hp39
      replace hv39 := hv39.symm
      refine lv_iload_n hx hb dX7_kill_42 rfl (lv_at hl 0 rfl) ?_
      exact g_iret X h dX7_kill_43 ⟨by rw [if_pos c_5, hkc, c_21]; rfl, by rw [if_pos c_5, hkc, hv39]⟩
  · skip
    rw [hr2, bI_0] at c_5
    refine lv_iconst (v := (-1)) hx hb dX7_kill_8 (by decide) ?_
    exact g_iret X h dX7_kill_9 (by simp [c_5])

set_option maxRecDepth 100000 in
set_option maxHeartbeats 1000000 in
theorem c_X7_row (gl : Launch) (Z : PL) (v : VV) (w : WV) (x0 : Int32) (x1 : Int32) (x2 : Int32) (n : Nat) (hn : v 52 0 = nI n) (h6 : n ≤ 6) : CT gl yX7_row cX7_row 6 (some .int) 1 22 Z [.ref (zg Z 0), .int x0, .int x1, .int x2] v w (Qi Z (fun r u => r = sRow (nI n) (v 54) (v 58) x0 x1 x2 ∧ (if okRow (nI n) (v 54) x0 x1 x2 then up2 v 58 (4 * x0.toNatClampNeg + x1.toNatClampNeg) x2 else v, w) = u)) := by
  refine g_met (by decide) (Nat.le_of_ble_eq_true rfl) ?_
  intro gp ge gs gm ga gb gh gc X h ls hl
  have hx := X.1
  have hb := X.2.1
  have hl : lv_has ls 6 [(0, .ref (zg Z 0)), (1, .int x0), (2, .int x1), (3, .int x2)] := hl
  refine lv_aload_n hx hb dX7_row_0 rfl (lv_at hl 0 rfl) ?_
  refine lv_iload_n hx hb dX7_row_1 rfl (lv_at hl 1 rfl) ?_
  refine g_ki h (g_runV X h (As := [.int x0]) (rest := []) (c_X7_isPerson gl Z v w x0 n hn h6) mi_X7_isPerson ml_RX7_76 (cc_0) (by decide) kl7 rfl ⟨Nat.le_of_ble_eq_true rfl, Nat.le_of_ble_eq_true rfl⟩ rfl hl.1 rfl (Nat.le_of_ble_eq_true rfl) dX7_row_2) (fun r2 v2 w2 H locs hp2 h => ?_)
  obtain ⟨hr2, hu2⟩ := hp2; obtain ⟨rfl, rfl⟩ := Prod.mk.inj hu2
  refine lv_if_eq (tgt := 17) hx hb dX7_row_5 (by decide) (fun c_5 => ?_) (fun c_5 => ?_)
  · skip
    rw [hr2, bI_0] at c_5
    refine lv_iconst (v := (-1)) hx hb dX7_row_17 (by decide) ?_
    exact g_iret X h dX7_row_18 (by simp [sRow, okRow, c_5])
  · skip
    rw [hr2, bI_n] at c_5
    obtain ⟨k, hk, hkn, hkc⟩ := isP_nat (by omega) c_5
    refine lv_iload_n hx hb dX7_row_8 rfl (lv_at hl 2 rfl) ?_
    refine lv_iconst (v := 0) hx hb dX7_row_9 (by decide) ?_
    refine lv_iconst (v := 3) hx hb dX7_row_10 (by decide) ?_
    refine g_ki h (g_runS X h (As := [.int x1, .int 0, .int 3]) (rest := []) (c_X7_isWithin gl Z v w x1 0 3) ms_X7_isWithin ml_RX7_58 ⟨Nat.le_of_ble_eq_true rfl, Nat.le_of_ble_eq_true rfl⟩ rfl hl.1 rfl (Nat.le_of_ble_eq_true rfl) dX7_row_11) (fun r11 v11 w11 H locs hp11 h => ?_)
    obtain ⟨hr11, hu11⟩ := hp11; obtain ⟨rfl, rfl⟩ := Prod.mk.inj hu11
    refine lv_if_ne (tgt := 19) hx hb dX7_row_14 (by decide) (fun c_14 => ?_) (fun c_14 => ?_)
    · skip
      rw [hr11, bI_n] at c_14
      obtain ⟨k1, hk1, hk1l, hk1n, hk1c⟩ := inR_nat (a := 0) (b := 3) rfl rfl (by decide) c_14
      refine lv_iload_n hx hb dX7_row_19 rfl (lv_at hl 3 rfl) ?_
      refine lv_iconst (v := 0) hx hb dX7_row_20 (by decide) ?_
      refine lv_bipush (v := 9) hx hb dX7_row_21 (by decide) ?_
      refine g_ki h (g_runS X h (As := [.int x2, .int 0, .int 9]) (rest := []) (c_X7_isWithin gl Z v w x2 0 9) ms_X7_isWithin ml_RX7_58 ⟨Nat.le_of_ble_eq_true rfl, Nat.le_of_ble_eq_true rfl⟩ rfl hl.1 rfl (Nat.le_of_ble_eq_true rfl) dX7_row_23) (fun r23 v23 w23 H locs hp23 h => ?_)
      obtain ⟨hr23, hu23⟩ := hp23; obtain ⟨rfl, rfl⟩ := Prod.mk.inj hu23
      refine lv_if_ne (tgt := 32) hx hb dX7_row_26 (by decide) (fun c_26 => ?_) (fun c_26 => ?_)
      · skip
        rw [hr23, bI_n] at c_26
        refine lv_aload_n hx hb dX7_row_32 rfl (lv_at hl 0 rfl) ?_
        refine g_getr X h (k := 1) (t := 51) (cc_0) fr_RX7_23 rfl (by decide) (by decide) (by decide) dX7_row_33 ?_
        refine g_getr X h (k := 0) (t := 52) (cc_51) fr_RX7_62 rfl (by decide) (by decide) (by decide) dX7_row_36 ?_
        refine g_getr X h (k := 2) (t := 54) (cc_52) fr_RX7_80 rfl (by decide) (by decide) (by decide) dX7_row_39 ?_
        refine lv_iload_n hx hb dX7_row_42 rfl (lv_at hl 1 rfl) ?_
        refine g_iald X h (k := k) (cc_54) hk (by omega) (by decide) dX7_row_43 ?_
        refine lv_bipush (v := 6) hx hb dX7_row_44 (by decide) ?_
        refine lv_icmp_eq (tgt := 52) hx hb dX7_row_46 (by decide) (fun c_46 => ?_) (fun c_46 => ?_)
        · skip
          refine lv_iload_n hx hb dX7_row_52 rfl (lv_at hl 1 rfl) ?_
          refine lv_iconst (v := 4) hx hb dX7_row_53 (by decide) ?_
          refine lv_imul hx hb dX7_row_54 ?_
          refine lv_iload_n hx hb dX7_row_55 rfl (lv_at hl 2 rfl) ?_
          refine lv_iadd hx hb dX7_row_56 ?_
          refine lv_topi (fun x4_57 ex4_57 => ?_)
          refine lv_istore (lv' := [(4, .int x4_57), (0, .ref (zg Z 0)), (1, .int x0), (2, .int x1), (3, .int x2)]) hx hb dX7_row_57 hl (by decide) rfl (fun ls hl => ?_)
          refine lv_aload_n hx hb dX7_row_59 rfl (lv_at hl 1 rfl) ?_
          refine g_getr X h (k := 1) (t := 51) (cc_0) fr_RX7_23 rfl (by decide) (by decide) (by decide) dX7_row_60 ?_
          refine g_getr X h (k := 0) (t := 52) (cc_51) fr_RX7_62 rfl (by decide) (by decide) (by decide) dX7_row_63 ?_
          refine g_getr X h (k := 6) (t := 58) (cc_52) fr_RX7_114 rfl (by decide) (by decide) (by decide) dX7_row_66 ?_
          refine lv_iload hx hb dX7_row_69 (lv_at hl 0 rfl) ?_
          refine g_iald X h (k := (4 * k + k1)) (cc_58) (by rw [ex4_57, hk, hk1]; exact (congrArg (fun z => z + nI k1) ((Int32.mul_comm _ _).trans (pk_mul 4 k))).trans (nI_add _ _)) (by omega) (by decide) dX7_row_71 ?_
          refine lv_topi (fun x5_72 ex5_72 => ?_)
          refine lv_istore (lv' := [(5, .int x5_72), (4, .int x4_57), (0, .ref (zg Z 0)), (1, .int x0), (2, .int x1), (3, .int x2)]) hx hb dX7_row_72 hl (by decide) rfl (fun ls hl => ?_)
          refine lv_aload_n hx hb dX7_row_74 rfl (lv_at hl 2 rfl) ?_
          refine g_getr X h (k := 1) (t := 51) (cc_0) fr_RX7_23 rfl (by decide) (by decide) (by decide) dX7_row_75 ?_
          refine g_getr X h (k := 0) (t := 52) (cc_51) fr_RX7_62 rfl (by decide) (by decide) (by decide) dX7_row_78 ?_
          refine g_getr X h (k := 6) (t := 58) (cc_52) fr_RX7_114 rfl (by decide) (by decide) (by decide) dX7_row_81 ?_
          refine lv_iload hx hb dX7_row_84 (lv_at hl 1 rfl) ?_
          refine lv_iload_n hx hb dX7_row_86 rfl (lv_at hl 5 rfl) ?_
          refine g_iast X h (k := (4 * k + k1)) (cc_58) (by rw [ex4_57, hk, hk1]; exact (congrArg (fun z => z + nI k1) ((Int32.mul_comm _ _).trans (pk_mul 4 k))).trans (nI_add _ _)) (by omega) (by decide) dX7_row_87 (fun v87 H locs ev87 h => ?_)
          refine lv_iload hx hb dX7_row_88 (lv_at hl 0 rfl) ?_
          exact g_iret X h dX7_row_90 (by simp [sRow, okRow, c_5, c_14, c_26, c_46, hkc, hk1c, ev87, ex5_72])
        · skip
          refine lv_bipush (v := (-3)) hx hb dX7_row_49 (by decide) ?_
          exact g_iret X h dX7_row_51 (by simp [sRow, okRow, c_5, c_14, c_26, c_46, hkc])
      · skip
        rw [hr23, bI_0] at c_26
        refine lv_bipush (v := (-2)) hx hb dX7_row_29 (by decide) ?_
        exact g_iret X h dX7_row_31 (by simp [sRow, okRow, c_5, c_14, c_26])
    · skip
      rw [hr11, bI_0] at c_14
      refine lv_iconst (v := (-1)) hx hb dX7_row_17 (by decide) ?_
      exact g_iret X h dX7_row_18 (by simp [sRow, okRow, c_5, c_14])

set_option maxRecDepth 100000 in
set_option maxHeartbeats 1000000 in
theorem c_X7_soldier (gl : Launch) (Z : PL) (v : VV) (w : WV) (x0 : Int32) (x1 : Int32) : CT gl yX7_soldier cX7_soldier 4 (some .int) 1 22 Z [.ref (zg Z 0), .int x0, .int x1] v w (Qi Z (fun r u => r = sSoldier (v 51 1) (v 51 2) x0 x1 ∧ (if okSoldier x0 x1 then (if x0 = 0 then up2 v 51 1 x1 else up2 v 51 2 x1) else v, w) = u)) := by
  refine g_met (by decide) (Nat.le_of_ble_eq_true rfl) ?_
  intro gp ge gs gm ga gb gh gc X h ls hl
  have hx := X.1
  have hb := X.2.1
  have hl : lv_has ls 4 [(0, .ref (zg Z 0)), (1, .int x0), (2, .int x1)] := hl
  refine lv_iload_n hx hb dX7_soldier_0 rfl (lv_at hl 1 rfl) ?_
  refine lv_iconst (v := 0) hx hb dX7_soldier_1 (by decide) ?_
  refine lv_iconst (v := 1) hx hb dX7_soldier_2 (by decide) ?_
  refine g_ki h (g_runS X h (As := [.int x0, .int 0, .int 1]) (rest := []) (c_X7_isWithin gl Z v w x0 0 1) ms_X7_isWithin ml_RX7_58 ⟨Nat.le_of_ble_eq_true rfl, Nat.le_of_ble_eq_true rfl⟩ rfl hl.1 rfl (Nat.le_of_ble_eq_true rfl) dX7_soldier_3) (fun r3 v3 w3 H locs hp3 h => ?_)
  obtain ⟨hr3, hu3⟩ := hp3; obtain ⟨rfl, rfl⟩ := Prod.mk.inj hu3
  refine lv_if_ne (tgt := 11) hx hb dX7_soldier_6 (by decide) (fun c_6 => ?_) (fun c_6 => ?_)
  · skip
    rw [hr3, bI_n] at c_6
    refine lv_iload_n hx hb dX7_soldier_11 rfl (lv_at hl 2 rfl) ?_
    refine lv_iconst (v := 0) hx hb dX7_soldier_12 (by decide) ?_
    refine lv_iload_n hx hb dX7_soldier_13 rfl (lv_at hl 1 rfl) ?_
    refine lv_if_ne (tgt := 23) hx hb dX7_soldier_14 (by decide) (fun c_14 => ?_) (fun c_14 => ?_)
    · skip
      refine lv_sipush (v := 999) hx hb dX7_soldier_23 (by decide) ?_
      refine g_ki h (g_runS X h (As := [.int x1, .int 0, .int 999]) (rest := []) (c_X7_isWithin gl Z v w x1 0 999) ms_X7_isWithin ml_RX7_58 ⟨Nat.le_of_ble_eq_true rfl, Nat.le_of_ble_eq_true rfl⟩ rfl hl.1 rfl (Nat.le_of_ble_eq_true rfl) dX7_soldier_26) (fun r26 v26 w26 H locs hp26 h => ?_)
      obtain ⟨hr26, hu26⟩ := hp26; obtain ⟨rfl, rfl⟩ := Prod.mk.inj hu26
      refine lv_if_ne (tgt := 35) hx hb dX7_soldier_29 (by decide) (fun c_29 => ?_) (fun c_29 => ?_)
      · skip
        rw [hr26, bI_n] at c_29
        refine lv_iload_n hx hb dX7_soldier_35 rfl (lv_at hl 1 rfl) ?_
        refine lv_if_ne (tgt := 49) hx hb dX7_soldier_36 (by decide) (fun c_36 => ?_) (fun c_36 => ?_)
        · skip
          refine lv_aload_n hx hb dX7_soldier_49 rfl (lv_at hl 0 rfl) ?_
          refine g_getr X h (k := 1) (t := 51) (cc_0) fr_RX7_23 rfl (by decide) (by decide) (by decide) dX7_soldier_50 ?_
          refine g_geti X h (k := 2) (cc_51) fr_RX7_120 rfl (by decide) dX7_soldier_53 ?_
          refine lv_topi (fun x3_56 ex3_56 => ?_)
          refine lv_istore_n (lv' := [(3, .int x3_56), (0, .ref (zg Z 0)), (1, .int x0), (2, .int x1)]) hx hb dX7_soldier_56 rfl hl (by decide) rfl (fun ls hl => ?_)
          refine lv_iload_n hx hb dX7_soldier_57 rfl (lv_at hl 2 rfl) ?_
          refine lv_if_ne (tgt := 72) hx hb dX7_soldier_58 (by decide) (fun c_58 => ?_) (fun c_58 => ?_)
          · skip
            refine lv_aload_n hx hb dX7_soldier_72 rfl (lv_at hl 1 rfl) ?_
            refine g_getr X h (k := 1) (t := 51) (cc_0) fr_RX7_23 rfl (by decide) (by decide) (by decide) dX7_soldier_73 ?_
            refine lv_iload_n hx hb dX7_soldier_76 rfl (lv_at hl 3 rfl) ?_
            refine g_puti X h (k := 2) (cc_51) fp_RX7_120 rfl (by decide) dX7_soldier_77 (fun v77 H locs ev77 h => ?_)
            refine lv_iload_n hx hb dX7_soldier_80 rfl (lv_at hl 0 rfl) ?_
            exact g_iret X h dX7_soldier_81 ⟨by rw [sSoldier, if_pos c_6, if_pos c_29, if_neg c_14, ex3_56], by rw [if_pos (by rw [okSoldier, c_6, c_29]; rfl), if_neg c_14, ev77]⟩
          · exact absurd c_58 c_14
        · exact absurd c_36 c_14
      · skip
        rw [hr26, bI_0] at c_29
        refine lv_bipush (v := (-2)) hx hb dX7_soldier_32 (by decide) ?_
        exact g_iret X h dX7_soldier_34 (by simp [sSoldier, okSoldier, c_6, c_29])
    · skip
      refine lv_sipush (v := 999) hx hb dX7_soldier_17 (by decide) ?_
      refine lv_goto (tgt := 26) hx hb dX7_soldier_20 (by decide) ?_
      refine g_ki h (g_runS X h (As := [.int x1, .int 0, .int 999]) (rest := []) (c_X7_isWithin gl Z v w x1 0 999) ms_X7_isWithin ml_RX7_58 ⟨Nat.le_of_ble_eq_true rfl, Nat.le_of_ble_eq_true rfl⟩ rfl hl.1 rfl (Nat.le_of_ble_eq_true rfl) dX7_soldier_26) (fun r26 v26 w26 H locs hp26 h => ?_)
      obtain ⟨hr26, hu26⟩ := hp26; obtain ⟨rfl, rfl⟩ := Prod.mk.inj hu26
      refine lv_if_ne (tgt := 35) hx hb dX7_soldier_29 (by decide) (fun c_29 => ?_) (fun c_29 => ?_)
      · skip
        rw [hr26, bI_n] at c_29
        refine lv_iload_n hx hb dX7_soldier_35 rfl (lv_at hl 1 rfl) ?_
        refine lv_if_ne (tgt := 49) hx hb dX7_soldier_36 (by decide) (fun c_36 => ?_) (fun c_36 => ?_)
        · exact absurd c_14 c_36
        · skip
          refine lv_aload_n hx hb dX7_soldier_39 rfl (lv_at hl 0 rfl) ?_
          refine g_getr X h (k := 1) (t := 51) (cc_0) fr_RX7_23 rfl (by decide) (by decide) (by decide) dX7_soldier_40 ?_
          refine g_geti X h (k := 1) (cc_51) fr_RX7_117 rfl (by decide) dX7_soldier_43 ?_
          refine lv_goto (tgt := 56) hx hb dX7_soldier_46 (by decide) ?_
          refine lv_topi (fun x3_56 ex3_56 => ?_)
          refine lv_istore_n (lv' := [(3, .int x3_56), (0, .ref (zg Z 0)), (1, .int x0), (2, .int x1)]) hx hb dX7_soldier_56 rfl hl (by decide) rfl (fun ls hl => ?_)
          refine lv_iload_n hx hb dX7_soldier_57 rfl (lv_at hl 2 rfl) ?_
          refine lv_if_ne (tgt := 72) hx hb dX7_soldier_58 (by decide) (fun c_58 => ?_) (fun c_58 => ?_)
          · exact absurd c_14 c_58
          · skip
            refine lv_aload_n hx hb dX7_soldier_61 rfl (lv_at hl 1 rfl) ?_
            refine g_getr X h (k := 1) (t := 51) (cc_0) fr_RX7_23 rfl (by decide) (by decide) (by decide) dX7_soldier_62 ?_
            refine lv_iload_n hx hb dX7_soldier_65 rfl (lv_at hl 3 rfl) ?_
            refine g_puti X h (k := 1) (cc_51) fp_RX7_117 rfl (by decide) dX7_soldier_66 (fun v66 H locs ev66 h => ?_)
            refine lv_goto (tgt := 80) hx hb dX7_soldier_69 (by decide) ?_
            refine lv_iload_n hx hb dX7_soldier_80 rfl (lv_at hl 0 rfl) ?_
            exact g_iret X h dX7_soldier_81 ⟨by rw [sSoldier, if_pos c_6, if_pos c_29, if_pos c_14, ex3_56], by rw [if_pos (by rw [okSoldier, c_6, c_29]; rfl), if_pos c_14, ev66]⟩
      · skip
        rw [hr26, bI_0] at c_29
        refine lv_bipush (v := (-2)) hx hb dX7_soldier_32 (by decide) ?_
        exact g_iret X h dX7_soldier_34 (by simp [sSoldier, okSoldier, c_6, c_29])
  · skip
    rw [hr3, bI_0] at c_6
    refine lv_iconst (v := (-1)) hx hb dX7_soldier_9 (by decide) ?_
    exact g_iret X h dX7_soldier_10 (by simp [sSoldier, okSoldier, c_6])

set_option maxRecDepth 100000 in
set_option maxHeartbeats 1000000 in
theorem c_X7_round (gl : Launch) (Z : PL) (v : VV) (w : WV) (x0 : Int32) (n : Nat) (hn : v 52 0 = nI n) (h6 : n ≤ 6) (q : Nat) (hq : v 51 5 = nI q) (hq6 : q ≤ 6) : CT gl yX7_round cX7_round 2 (some .int) 1 21 Z [.ref (zg Z 0), .int x0] v w (Qi Z (fun r u => r = sRound (nI n) q x0 ∧ (if x0 = -1 then up2 v 51 5 0 else if isP (nI n) x0 && decide (q < 6) then up2 (up2 v 59 q x0) 51 5 (nI (q + 1)) else v, w) = u)) := by
  refine g_met (by decide) (Nat.le_of_ble_eq_true rfl) ?_
  intro gp ge gs gm ga gb gh gc X h ls hl
  have hx := X.1
  have hb := X.2.1
  have hl : lv_has ls 2 [(0, .ref (zg Z 0)), (1, .int x0)] := hl
  refine lv_iload_n hx hb dX7_round_0 rfl (lv_at hl 1 rfl) ?_
  refine lv_iconst (v := (-1)) hx hb dX7_round_1 (by decide) ?_
  refine lv_icmp_ne (tgt := 15) hx hb dX7_round_2 (by decide) (fun c_2 => ?_) (fun c_2 => ?_)
  · skip
    refine lv_aload_n hx hb dX7_round_15 rfl (lv_at hl 0 rfl) ?_
    refine lv_iload_n hx hb dX7_round_16 rfl (lv_at hl 1 rfl) ?_
    refine g_ki h (g_runV X h (As := [.int x0]) (rest := []) (c_X7_isPerson gl Z v w x0 n hn h6) mi_X7_isPerson ml_RX7_76 (cc_0) (by decide) kl7 rfl ⟨Nat.le_of_ble_eq_true rfl, Nat.le_of_ble_eq_true rfl⟩ rfl hl.1 rfl (Nat.le_of_ble_eq_true rfl) dX7_round_17) (fun r17 v17 w17 H locs hp17 h => ?_)
    obtain ⟨hr17, hu17⟩ := hp17; obtain ⟨rfl, rfl⟩ := Prod.mk.inj hu17
    refine lv_if_ne (tgt := 25) hx hb dX7_round_20 (by decide) (fun c_20 => ?_) (fun c_20 => ?_)
    · skip
      rw [hr17, bI_n] at c_20
      refine lv_aload_n hx hb dX7_round_25 rfl (lv_at hl 0 rfl) ?_
      refine g_getr X h (k := 1) (t := 51) (cc_0) fr_RX7_23 rfl (by decide) (by decide) (by decide) dX7_round_26 ?_
      refine g_geti X h (k := 5) (cc_51) fr_RX7_123 rfl (by decide) dX7_round_29 ?_
      refine lv_bipush (v := 6) hx hb dX7_round_32 (by decide) ?_
      refine lv_icmp_lt (tgt := 40) hx hb dX7_round_34 (by decide) (fun c_34 => ?_) (fun c_34 => ?_)
      · skip
        have hq7 := nI_lt1 (a := q) (b := 6) hq rfl (by omega) (by omega) c_34
        refine lv_aload_n hx hb dX7_round_40 rfl (lv_at hl 0 rfl) ?_
        refine g_getr X h (k := 1) (t := 51) (cc_0) fr_RX7_23 rfl (by decide) (by decide) (by decide) dX7_round_41 ?_
        refine g_getr X h (k := 4) (t := 59) (cc_51) fr_RX7_126 rfl (by decide) (by decide) (by decide) dX7_round_44 ?_
        refine lv_aload_n hx hb dX7_round_47 rfl (lv_at hl 0 rfl) ?_
        refine g_getr X h (k := 1) (t := 51) (cc_0) fr_RX7_23 rfl (by decide) (by decide) (by decide) dX7_round_48 ?_
        refine g_geti X h (k := 5) (cc_51) fr_RX7_123 rfl (by decide) dX7_round_51 ?_
        refine lv_iload_n hx hb dX7_round_54 rfl (lv_at hl 1 rfl) ?_
        refine g_iast X h (k := q) (cc_59) hq (by omega) (by decide) dX7_round_55 (fun v55 H locs ev55 h => ?_)
        refine lv_aload_n hx hb dX7_round_56 rfl (lv_at hl 0 rfl) ?_
        refine g_getr X h (k := 1) (t := 51) (cc_0) fr_RX7_23 rfl (by decide) (by decide) (by decide) dX7_round_57 ?_
        refine lv_dup hx hb dX7_round_60 rfl ?_
        refine g_geti X h (k := 5) (cc_51) fr_RX7_123 rfl (by decide) dX7_round_61 ?_
        refine g_tr (y := (v 51 5)) (by rw [ev55, up2_ne (by omega)]) ?_
        refine lv_iconst (v := 1) hx hb dX7_round_64 (by decide) ?_
        refine lv_iadd hx hb dX7_round_65 ?_
        refine g_puti X h (k := 5) (cc_51) fp_RX7_123 rfl (by decide) dX7_round_66 (fun v66 H locs ev66 h => ?_)
        refine lv_aload_n hx hb dX7_round_69 rfl (lv_at hl 0 rfl) ?_
        refine g_getr X h (k := 1) (t := 51) (cc_0) fr_RX7_23 rfl (by decide) (by decide) (by decide) dX7_round_70 ?_
        refine g_geti X h (k := 5) (cc_51) fr_RX7_123 rfl (by decide) dX7_round_73 ?_
        refine g_tr (y := ((v 51 5) + 1)) (by rw [ev66, up2_same]) ?_
        exact g_iret X h dX7_round_76 ⟨by rw [sRound, if_neg c_2, if_pos c_20, if_pos hq7, hq, nI_1], by rw [if_neg c_2, c_20, decide_eq_true hq7, ev66, ev55, hq, nI_1]; rfl⟩
      · skip
        have hq7 := nI_lt0 (a := q) (b := 6) hq rfl (by omega) (by omega) c_34
        refine lv_bipush (v := (-4)) hx hb dX7_round_37 (by decide) ?_
        exact g_iret X h dX7_round_39 ⟨by rw [sRound, if_neg c_2, if_pos c_20, if_neg (by omega)], by rw [if_neg c_2, decide_eq_false (show ¬ q < 6 by omega), Bool.and_false]; rfl⟩
    · skip
      rw [hr17, bI_0] at c_20
      refine lv_iconst (v := (-1)) hx hb dX7_round_23 (by decide) ?_
      exact g_iret X h dX7_round_24 ⟨by rw [sRound, if_neg c_2, if_neg (by rw [c_20]; simp)], by rw [if_neg c_2, c_20]; rfl⟩
  · skip
    refine lv_aload_n hx hb dX7_round_5 rfl (lv_at hl 0 rfl) ?_
    refine g_getr X h (k := 1) (t := 51) (cc_0) fr_RX7_23 rfl (by decide) (by decide) (by decide) dX7_round_6 ?_
    refine lv_iconst (v := 0) hx hb dX7_round_9 (by decide) ?_
    refine g_puti X h (k := 5) (cc_51) fp_RX7_123 rfl (by decide) dX7_round_10 (fun v10 H locs ev10 h => ?_)
    refine lv_iconst (v := 0) hx hb dX7_round_13 (by decide) ?_
    exact g_iret X h dX7_round_14 ⟨by rw [sRound, if_pos c_2], by rw [if_pos c_2, ev10]⟩

set_option maxRecDepth 100000 in
set_option maxHeartbeats 1000000 in
theorem c_X5_isFull (gl : Launch) (Z : PL) (v : VV) (w : WV) (z : Nat) (hz : v 108 1 = nI z) (hz1 : z ≤ 100) : CT gl yX5_isFull cX5_isFull 1 (some .boolean) 0 0 Z [.ref (zg Z 108)] v w (Qi Z (fun r u => r = bI (decide (100 ≤ z)) ∧ (v, w) = u)) := by
  refine g_met (by decide) (Nat.le_of_ble_eq_true rfl) ?_
  intro gp ge gs gm ga gb gh gc X h ls hl
  have hx := X.1
  have hb := X.2.1
  have hl : lv_has ls 1 [(0, .ref (zg Z 108))] := hl
  refine lv_aload_n hx hb dX5_isFull_0 rfl (lv_at hl 0 rfl) ?_
  refine g_geti X h (k := 1) (cc_108) fr_RX5_15 rfl (by decide) dX5_isFull_1 ?_
  refine lv_bipush (v := 100) hx hb dX5_isFull_4 (by decide) ?_
  refine lv_icmp_lt (tgt := 13) hx hb dX5_isFull_6 (by decide) (fun c_6 => ?_) (fun c_6 => ?_)
  · skip
    have hlt := nI_lt1 (a := z) (b := 100) hz rfl (by omega) (by omega) c_6
    refine lv_iconst (v := 0) hx hb dX5_isFull_13 (by decide) ?_
    exact g_nret X h dX5_isFull_14 rfl ⟨by rw [decide_eq_false (by omega)]; rfl, rfl⟩
  · skip
    have hlt := nI_lt0 (a := z) (b := 100) hz rfl (by omega) (by omega) c_6
    refine lv_iconst (v := 1) hx hb dX5_isFull_9 (by decide) ?_
    refine lv_goto (tgt := 14) hx hb dX5_isFull_10 (by decide) ?_
    exact g_nret X h dX5_isFull_14 rfl ⟨by rw [decide_eq_true (by omega)]; rfl, rfl⟩

set_option maxRecDepth 100000 in
set_option maxHeartbeats 1000000 in
theorem c_X5_put (gl : Launch) (Z : PL) (v : VV) (w : WV) (x0 : Int32) (hb127 : inR x0 0 127 = true) (z : Nat) (hz : v 108 1 = nI z) (hz1 : z ≤ 100) (hz9 : z < 100) : CT gl yX5_put cX5_put 2 (some .int) 1 20 Z [.ref (zg Z 108), .int x0] v w (Qi Z (fun r u => r = nI (z + 1) ∧ (up2 (up2 v 109 z x0) 108 1 (nI (z + 1)), w) = u)) := by
  refine g_met (by decide) (Nat.le_of_ble_eq_true rfl) ?_
  intro gp ge gs gm ga gb gh gc X h ls hl
  have hx := X.1
  have hb := X.2.1
  have hl : lv_has ls 2 [(0, .ref (zg Z 108)), (1, .int x0)] := hl
  refine lv_aload_n hx hb dX5_put_0 rfl (lv_at hl 0 rfl) ?_
  refine g_ki h (g_runV X h (As := []) (rest := []) (c_X5_isFull gl Z v w z hz hz1) mi_X5_isFull ml_RX5_19 (cc_108) (by decide) kl5 rfl ⟨Nat.le_of_ble_eq_true rfl, Nat.le_of_ble_eq_true rfl⟩ rfl hl.1 rfl (Nat.le_of_ble_eq_true rfl) dX5_put_1) (fun r1 v1 w1 H locs hp1 h => ?_)
  obtain ⟨hr1, hu1⟩ := hp1; obtain ⟨rfl, rfl⟩ := Prod.mk.inj hu1
  refine lv_if_eq (tgt := 10) hx hb dX5_put_4 (by decide) (fun c_4 => ?_) (fun c_4 => ?_)
  · skip
    rw [hr1, bI_0] at c_4
    refine lv_aload_n hx hb dX5_put_10 rfl (lv_at hl 0 rfl) ?_
    refine g_getr X h (k := 0) (t := 109) (cc_108) fr_RX5_11 rfl (by decide) (by decide) (by decide) dX5_put_11 ?_
    refine lv_aload_n hx hb dX5_put_14 rfl (lv_at hl 0 rfl) ?_
    refine g_geti X h (k := 1) (cc_108) fr_RX5_15 rfl (by decide) dX5_put_15 ?_
    refine lv_iload_n hx hb dX5_put_18 rfl (lv_at hl 1 rfl) ?_
    refine lv_i2b hx hb dX5_put_19 rfl ?_
    refine g_bast X h (k := z) (cc_109) hz (by omega) (by decide) dX5_put_20 (fun v20 H locs ev20 h => ?_)
    refine lv_aload_n hx hb dX5_put_21 rfl (lv_at hl 0 rfl) ?_
    refine lv_dup hx hb dX5_put_22 rfl ?_
    refine g_geti X h (k := 1) (cc_108) fr_RX5_15 rfl (by decide) dX5_put_23 ?_
    refine g_tr (y := (v 108 1)) (by rw [ev20, up2_ne (by omega)]) ?_
    refine lv_iconst (v := 1) hx hb dX5_put_26 (by decide) ?_
    refine lv_iadd hx hb dX5_put_27 ?_
    refine g_puti X h (k := 1) (cc_108) fp_RX5_15 rfl (by decide) dX5_put_28 (fun v28 H locs ev28 h => ?_)
    refine lv_aload_n hx hb dX5_put_31 rfl (lv_at hl 0 rfl) ?_
    refine g_geti X h (k := 1) (cc_108) fr_RX5_15 rfl (by decide) dX5_put_32 ?_
    refine g_tr (y := ((v 108 1) + 1)) (by rw [ev28, up2_same]) ?_
    exact g_iret X h dX5_put_35 ⟨by rw [hz, nI_1], by rw [ev28, ev20, nar_b hb127, hz, nI_1]⟩
  · rw [hr1, decide_eq_false (show ¬ 100 ≤ z by omega)] at c_4
    exact absurd rfl c_4

set_option maxRecDepth 100000 in
set_option maxHeartbeats 1000000 in
theorem c_X7_feed (gl : Launch) (Z : PL) (v : VV) (w : WV) (x0 : Int32) (z : Nat) (hz : v 108 1 = nI z) (hz1 : z ≤ 100) : CT gl yX7_feed cX7_feed 2 (some .int) 2 41 Z [.ref (zg Z 0), .int x0] v w (Qi Z (fun r u => r = sFeed z x0 ∧ (if inR x0 0 127 && decide (z < 100) then up2 (up2 v 109 z x0) 108 1 (nI (z + 1)) else v, w) = u)) := by
  refine g_met (by decide) (Nat.le_of_ble_eq_true rfl) ?_
  intro gp ge gs gm ga gb gh gc X h ls hl
  have hx := X.1
  have hb := X.2.1
  have hl : lv_has ls 2 [(0, .ref (zg Z 0)), (1, .int x0)] := hl
  refine lv_iload_n hx hb dX7_feed_0 rfl (lv_at hl 1 rfl) ?_
  refine lv_iconst (v := 0) hx hb dX7_feed_1 (by decide) ?_
  refine lv_bipush (v := 127) hx hb dX7_feed_2 (by decide) ?_
  refine g_ki h (g_runS X h (As := [.int x0, .int 0, .int 127]) (rest := []) (c_X7_isWithin gl Z v w x0 0 127) ms_X7_isWithin ml_RX7_58 ⟨Nat.le_of_ble_eq_true rfl, Nat.le_of_ble_eq_true rfl⟩ rfl hl.1 rfl (Nat.le_of_ble_eq_true rfl) dX7_feed_4) (fun r4 v4 w4 H locs hp4 h => ?_)
  obtain ⟨hr4, hu4⟩ := hp4; obtain ⟨rfl, rfl⟩ := Prod.mk.inj hu4
  refine lv_if_ne (tgt := 13) hx hb dX7_feed_7 (by decide) (fun c_7 => ?_) (fun c_7 => ?_)
  · skip
    rw [hr4, bI_n] at c_7
    refine lv_aload_n hx hb dX7_feed_13 rfl (lv_at hl 0 rfl) ?_
    refine g_getr X h (k := 7) (t := 108) (cc_0) fr_RX7_40 rfl (by decide) (by decide) (by decide) dX7_feed_14 ?_
    refine g_ki h (g_runV X h (As := []) (rest := []) (c_X5_isFull gl Z v w z hz hz1) mi_X5_isFull ml_RX7_129 (cc_108) (by decide) kl5 rfl ⟨Nat.le_of_ble_eq_true rfl, Nat.le_of_ble_eq_true rfl⟩ rfl hl.1 rfl (Nat.le_of_ble_eq_true rfl) dX7_feed_17) (fun r17 v17 w17 H locs hp17 h => ?_)
    obtain ⟨hr17, hu17⟩ := hp17; obtain ⟨rfl, rfl⟩ := Prod.mk.inj hu17
    refine lv_if_eq (tgt := 28) hx hb dX7_feed_20 (by decide) (fun c_20 => ?_) (fun c_20 => ?_)
    · skip
      rw [hr17, bI_0] at c_20
      have hlt : z < 100 := by have q := of_decide_eq_false c_20; omega
      refine lv_aload_n hx hb dX7_feed_28 rfl (lv_at hl 0 rfl) ?_
      refine g_getr X h (k := 7) (t := 108) (cc_0) fr_RX7_40 rfl (by decide) (by decide) (by decide) dX7_feed_29 ?_
      refine lv_iload_n hx hb dX7_feed_32 rfl (lv_at hl 1 rfl) ?_
      refine g_ki h (g_runV X h (As := [.int x0]) (rest := []) (c_X5_put gl Z v w x0 c_7 z hz hz1 hlt) mi_X5_put ml_RX7_133 (cc_108) (by decide) kl5 rfl ⟨Nat.le_of_ble_eq_true rfl, Nat.le_of_ble_eq_true rfl⟩ rfl hl.1 rfl (Nat.le_of_ble_eq_true rfl) dX7_feed_33) (fun r33 v33 w33 H locs hp33 h => ?_)
      obtain ⟨hr33, hu33⟩ := hp33
      obtain ⟨ev33, rfl⟩ := Prod.mk.inj hu33
      replace ev33 := ev33.symm
      exact g_iret X h dX7_feed_36 ⟨by rw [sFeed, if_pos c_7, if_pos hlt]; exact hr33, by rw [c_7, decide_eq_true hlt]; exact (congrArg (fun q => (q, w)) ev33.symm)⟩
    · skip
      rw [hr17, bI_n] at c_20
      have hlt : 100 ≤ z := of_decide_eq_true c_20
      refine lv_bipush (v := (-4)) hx hb dX7_feed_23 (by decide) ?_
      refine lv_goto (tgt := 36) hx hb dX7_feed_25 (by decide) ?_
      exact g_iret X h dX7_feed_36 ⟨by rw [sFeed, if_pos c_7, if_neg (by omega)], by rw [decide_eq_false (show ¬ z < 100 by omega), Bool.and_false]; rfl⟩
  · skip
    rw [hr4, bI_0] at c_7
    refine lv_bipush (v := (-2)) hx hb dX7_feed_10 (by decide) ?_
    exact g_iret X h dX7_feed_12 ⟨by simp [sFeed, c_7], by rw [c_7]; rfl⟩

set_option maxRecDepth 100000 in
set_option maxHeartbeats 1000000 in
theorem c_X7_see (gl : Launch) (Z : PL) (v : VV) (w : WV) (x0 : Int32) (x1 : Int32) (z : Nat) (hz : v 61 2 = nI z) (hzm : z ≤ 5) : CT gl yX7_see cX7_see 3 (some .int) 2 42 Z [.ref (zg Z 0), .int x0, .int x1] v w (Qi Z (fun r u => r = sSee z x0 x1 ∧ (if x0 = -1 then up2 v 61 2 0 else if okSee z x0 x1 then up2 (up2 (up2 v 62 z x0) 63 z x1) 61 2 (nI (z + 1)) else v, w) = u)) := by
  refine g_met (by decide) (Nat.le_of_ble_eq_true rfl) ?_
  intro gp ge gs gm ga gb gh gc X h ls hl
  have hx := X.1
  have hb := X.2.1
  have hl : lv_has ls 3 [(0, .ref (zg Z 0)), (1, .int x0), (2, .int x1)] := hl
  refine lv_iload_n hx hb dX7_see_0 rfl (lv_at hl 1 rfl) ?_
  refine lv_iconst (v := (-1)) hx hb dX7_see_1 (by decide) ?_
  refine lv_icmp_ne (tgt := 17) hx hb dX7_see_2 (by decide) (fun c_2 => ?_) (fun c_2 => ?_)
  · skip
    refine lv_iload_n hx hb dX7_see_17 rfl (lv_at hl 1 rfl) ?_
    refine lv_iconst (v := 0) hx hb dX7_see_18 (by decide) ?_
    refine lv_sipush (v := 999) hx hb dX7_see_19 (by decide) ?_
    refine g_ki h (g_runS X h (As := [.int x0, .int 0, .int 999]) (rest := []) (c_X7_isWithin gl Z v w x0 0 999) ms_X7_isWithin ml_RX7_58 ⟨Nat.le_of_ble_eq_true rfl, Nat.le_of_ble_eq_true rfl⟩ rfl hl.1 rfl (Nat.le_of_ble_eq_true rfl) dX7_see_22) (fun r22 v22 w22 H locs hp22 h => ?_)
    obtain ⟨hr22, hu22⟩ := hp22; obtain ⟨rfl, rfl⟩ := Prod.mk.inj hu22
    refine lv_if_eq (tgt := 38) hx hb dX7_see_25 (by decide) (fun c_25 => ?_) (fun c_25 => ?_)
    · skip
      rw [hr22, bI_0] at c_25
      refine lv_bipush (v := (-2)) hx hb dX7_see_38 (by decide) ?_
      exact g_iret X h dX7_see_40 ⟨by rw [sSee, if_neg c_2, if_neg (by rw [c_25]; simp)], by rw [if_neg c_2, if_neg (by rw [okSee, c_25]; simp)]⟩
    · skip
      rw [hr22, bI_n] at c_25
      refine lv_iload_n hx hb dX7_see_28 rfl (lv_at hl 2 rfl) ?_
      refine lv_iconst (v := 0) hx hb dX7_see_29 (by decide) ?_
      refine lv_bipush (v := 20) hx hb dX7_see_30 (by decide) ?_
      refine g_ki h (g_runS X h (As := [.int x1, .int 0, .int 20]) (rest := []) (c_X7_isWithin gl Z v w x1 0 20) ms_X7_isWithin ml_RX7_58 ⟨Nat.le_of_ble_eq_true rfl, Nat.le_of_ble_eq_true rfl⟩ rfl hl.1 rfl (Nat.le_of_ble_eq_true rfl) dX7_see_32) (fun r32 v32 w32 H locs hp32 h => ?_)
      obtain ⟨hr32, hu32⟩ := hp32; obtain ⟨rfl, rfl⟩ := Prod.mk.inj hu32
      refine lv_if_ne (tgt := 41) hx hb dX7_see_35 (by decide) (fun c_35 => ?_) (fun c_35 => ?_)
      · skip
        rw [hr32, bI_n] at c_35
        refine lv_aload_n hx hb dX7_see_41 rfl (lv_at hl 0 rfl) ?_
        refine g_getr X h (k := 1) (t := 51) (cc_0) fr_RX7_23 rfl (by decide) (by decide) (by decide) dX7_see_42 ?_
        refine g_getr X h (k := 11) (t := 61) (cc_51) fr_RX7_180 rfl (by decide) (by decide) (by decide) dX7_see_45 ?_
        refine g_ki h (g_runV X h (As := []) (rest := []) (c_X2_isFull gl Z v w 61 5 (isWQ10 isW0) z hz hzm (by omega)) mi_X2_isFull ml_RX7_189 (cc_61) (by decide) kl2 rfl ⟨Nat.le_of_ble_eq_true rfl, Nat.le_of_ble_eq_true rfl⟩ rfl hl.1 rfl (Nat.le_of_ble_eq_true rfl) dX7_see_48) (fun r48 v48 w48 H locs hp48 h => ?_)
        obtain ⟨hr48, hu48⟩ := hp48; obtain ⟨rfl, rfl⟩ := Prod.mk.inj hu48
        refine lv_if_eq (tgt := 59) hx hb dX7_see_51 (by decide) (fun c_51 => ?_) (fun c_51 => ?_)
        · skip
          rw [hr48, bI_0] at c_51
          have hlt : z < 5 := by have q := of_decide_eq_false c_51; omega
          refine lv_aload_n hx hb dX7_see_59 rfl (lv_at hl 0 rfl) ?_
          refine g_getr X h (k := 1) (t := 51) (cc_0) fr_RX7_23 rfl (by decide) (by decide) (by decide) dX7_see_60 ?_
          refine g_getr X h (k := 11) (t := 61) (cc_51) fr_RX7_180 rfl (by decide) (by decide) (by decide) dX7_see_63 ?_
          refine lv_iload_n hx hb dX7_see_66 rfl (lv_at hl 1 rfl) ?_
          refine lv_iload_n hx hb dX7_see_67 rfl (lv_at hl 2 rfl) ?_
          refine g_ki h (g_runV X h (As := [.int x0, .int x1]) (rest := []) (c_X2_put gl Z v w x0 x1 61 5 (isWQ10 isW0) z hz hzm (by omega)) mi_X2_put ml_RX7_190 (cc_61) (by decide) kl2 rfl ⟨Nat.le_of_ble_eq_true rfl, Nat.le_of_ble_eq_true rfl⟩ rfl hl.1 rfl (Nat.le_of_ble_eq_true rfl) dX7_see_68) (fun r68 v68 w68 H locs hp68 h => ?_)
          obtain ⟨hr68, hu68⟩ := hp68
          obtain ⟨ev68, rfl⟩ := Prod.mk.inj hu68
          replace ev68 := ev68.symm
          exact g_iret X h dX7_see_71 ⟨by rw [sSee, if_neg c_2, if_pos (by rw [c_25, c_35]; rfl), if_pos hlt, hr68, if_neg (by omega)], by rw [if_neg c_2, if_pos (by rw [okSee, c_25, c_35, decide_eq_true hlt]; rfl), ev68, if_neg (by omega)]⟩
        · skip
          rw [hr48, bI_n] at c_51
          have hlt : 5 ≤ z := of_decide_eq_true c_51
          refine lv_bipush (v := (-4)) hx hb dX7_see_54 (by decide) ?_
          refine lv_goto (tgt := 71) hx hb dX7_see_56 (by decide) ?_
          exact g_iret X h dX7_see_71 ⟨by rw [sSee, if_neg c_2, if_pos (by rw [c_25, c_35]; rfl), if_neg (by omega)], by rw [if_neg c_2, if_neg (by rw [okSee, decide_eq_false (show ¬ z < 5 by omega)]; simp)]⟩
      · skip
        rw [hr32, bI_0] at c_35
        refine lv_bipush (v := (-2)) hx hb dX7_see_38 (by decide) ?_
        exact g_iret X h dX7_see_40 ⟨by rw [sSee, if_neg c_2, if_neg (by rw [c_35]; simp)], by rw [if_neg c_2, if_neg (by rw [okSee, c_35]; simp)]⟩
  · skip
    refine lv_aload_n hx hb dX7_see_5 rfl (lv_at hl 0 rfl) ?_
    refine g_getr X h (k := 1) (t := 51) (cc_0) fr_RX7_23 rfl (by decide) (by decide) (by decide) dX7_see_6 ?_
    refine g_getr X h (k := 11) (t := 61) (cc_51) fr_RX7_180 rfl (by decide) (by decide) (by decide) dX7_see_9 ?_
    refine g_kv h (g_runV X h (As := []) (rest := []) (c_X2_empty gl Z v w 61 5 (isWQ10 isW0)) mi_X2_empty ml_RX7_184 (cc_61) (by decide) kl2 rfl ⟨Nat.le_of_ble_eq_true rfl, Nat.le_of_ble_eq_true rfl⟩ rfl hl.1 rfl (Nat.le_of_ble_eq_true rfl) dX7_see_12) (fun v12 w12 H locs hp12 h => ?_)
    obtain ⟨hv12, rfl⟩ := Prod.mk.inj hp12
    refine lv_iconst (v := 0) hx hb dX7_see_15 (by decide) ?_
    exact g_iret X h dX7_see_16 ⟨by rw [sSee, if_pos c_2], by rw [if_pos c_2]; exact congrArg (fun q => (q, w)) hv12⟩

set_option maxRecDepth 100000 in
set_option maxHeartbeats 1000000 in
theorem c_X7_winter (gl : Launch) (Z : PL) (v : VV) (w : WV) (x0 : Int32) (x1 : Int32) (n : Nat) (hn : v 52 0 = nI n) (h6 : n ≤ 6) (z : Nat) (hz : v 64 2 = nI z) (hzm : z ≤ 10) : CT gl yX7_winter cX7_winter 3 (some .int) 2 42 Z [.ref (zg Z 0), .int x0, .int x1] v w (Qi Z (fun r u => r = sWin n z x0 x1 ∧ (if x0 = -1 then up2 v 64 2 0 else if okWin n z x0 x1 then up2 (up2 (up2 v 65 z x0) 66 z x1) 64 2 (nI (z + 1)) else v, w) = u)) := by
  refine g_met (by decide) (Nat.le_of_ble_eq_true rfl) ?_
  intro gp ge gs gm ga gb gh gc X h ls hl
  have hx := X.1
  have hb := X.2.1
  have hl : lv_has ls 3 [(0, .ref (zg Z 0)), (1, .int x0), (2, .int x1)] := hl
  refine lv_iload_n hx hb dX7_winter_0 rfl (lv_at hl 1 rfl) ?_
  refine lv_iconst (v := (-1)) hx hb dX7_winter_1 (by decide) ?_
  refine lv_icmp_ne (tgt := 17) hx hb dX7_winter_2 (by decide) (fun c_2 => ?_) (fun c_2 => ?_)
  · skip
    refine lv_iload_n hx hb dX7_winter_17 rfl (lv_at hl 1 rfl) ?_
    refine lv_iconst (v := 0) hx hb dX7_winter_18 (by decide) ?_
    refine lv_iconst (v := 3) hx hb dX7_winter_19 (by decide) ?_
    refine g_ki h (g_runS X h (As := [.int x0, .int 0, .int 3]) (rest := []) (c_X7_isWithin gl Z v w x0 0 3) ms_X7_isWithin ml_RX7_58 ⟨Nat.le_of_ble_eq_true rfl, Nat.le_of_ble_eq_true rfl⟩ rfl hl.1 rfl (Nat.le_of_ble_eq_true rfl) dX7_winter_20) (fun r20 v20 w20 H locs hp20 h => ?_)
    obtain ⟨hr20, hu20⟩ := hp20; obtain ⟨rfl, rfl⟩ := Prod.mk.inj hu20
    refine lv_if_eq (tgt := 39) hx hb dX7_winter_23 (by decide) (fun c_23 => ?_) (fun c_23 => ?_)
    · skip
      rw [hr20, bI_0] at c_23
      refine lv_iconst (v := (-1)) hx hb dX7_winter_39 (by decide) ?_
      exact g_iret X h dX7_winter_40 ⟨by rw [sWin, if_neg c_2, if_neg (by rw [c_23]; simp)], by rw [if_neg c_2, if_neg (by rw [okWin, c_23]; simp)]⟩
    · skip
      rw [hr20, bI_n] at c_23
      refine lv_iload_n hx hb dX7_winter_26 rfl (lv_at hl 1 rfl) ?_
      refine lv_iconst (v := 1) hx hb dX7_winter_27 (by decide) ?_
      refine lv_icmp_ne (tgt := 41) hx hb dX7_winter_28 (by decide) (fun c_28 => ?_) (fun c_28 => ?_)
      · skip
        have hwn : (decide (¬ x0 = 1) || isP (nI n) x1) = true := by rw [decide_eq_true c_28]; rfl
        refine lv_aload_n hx hb dX7_winter_41 rfl (lv_at hl 0 rfl) ?_
        refine g_getr X h (k := 1) (t := 51) (cc_0) fr_RX7_23 rfl (by decide) (by decide) (by decide) dX7_winter_42 ?_
        refine g_getr X h (k := 12) (t := 64) (cc_51) fr_RX7_202 rfl (by decide) (by decide) (by decide) dX7_winter_45 ?_
        refine g_ki h (g_runV X h (As := []) (rest := []) (c_X2_isFull gl Z v w 64 10 (isWQ13 isW0) z hz hzm (by omega)) mi_X2_isFull ml_RX7_189 (cc_64) (by decide) kl2 rfl ⟨Nat.le_of_ble_eq_true rfl, Nat.le_of_ble_eq_true rfl⟩ rfl hl.1 rfl (Nat.le_of_ble_eq_true rfl) dX7_winter_48) (fun r48 v48 w48 H locs hp48 h => ?_)
        obtain ⟨hr48, hu48⟩ := hp48; obtain ⟨rfl, rfl⟩ := Prod.mk.inj hu48
        refine lv_if_eq (tgt := 59) hx hb dX7_winter_51 (by decide) (fun c_51 => ?_) (fun c_51 => ?_)
        · skip
          rw [hr48, bI_0] at c_51
          have hlt : z < 10 := by have q := of_decide_eq_false c_51; omega
          refine lv_aload_n hx hb dX7_winter_59 rfl (lv_at hl 0 rfl) ?_
          refine g_getr X h (k := 1) (t := 51) (cc_0) fr_RX7_23 rfl (by decide) (by decide) (by decide) dX7_winter_60 ?_
          refine g_getr X h (k := 12) (t := 64) (cc_51) fr_RX7_202 rfl (by decide) (by decide) (by decide) dX7_winter_63 ?_
          refine lv_iload_n hx hb dX7_winter_66 rfl (lv_at hl 1 rfl) ?_
          refine lv_iload_n hx hb dX7_winter_67 rfl (lv_at hl 2 rfl) ?_
          refine g_ki h (g_runV X h (As := [.int x0, .int x1]) (rest := []) (c_X2_put gl Z v w x0 x1 64 10 (isWQ13 isW0) z hz hzm (by omega)) mi_X2_put ml_RX7_190 (cc_64) (by decide) kl2 rfl ⟨Nat.le_of_ble_eq_true rfl, Nat.le_of_ble_eq_true rfl⟩ rfl hl.1 rfl (Nat.le_of_ble_eq_true rfl) dX7_winter_68) (fun r68 v68 w68 H locs hp68 h => ?_)
          obtain ⟨hr68, hu68⟩ := hp68
          obtain ⟨ev68, rfl⟩ := Prod.mk.inj hu68
          replace ev68 := ev68.symm
          exact g_iret X h dX7_winter_71 ⟨by rw [sWin, if_neg c_2, if_pos (by rw [c_23, hwn]; rfl), if_pos hlt, hr68, if_neg (by omega)], by rw [if_neg c_2, if_pos (by rw [okWin, c_23, hwn, decide_eq_true hlt]; rfl), ev68, if_neg (by omega)]⟩
        · skip
          rw [hr48, bI_n] at c_51
          have hlt : 10 ≤ z := of_decide_eq_true c_51
          refine lv_bipush (v := (-4)) hx hb dX7_winter_54 (by decide) ?_
          refine lv_goto (tgt := 71) hx hb dX7_winter_56 (by decide) ?_
          exact g_iret X h dX7_winter_71 ⟨by rw [sWin, if_neg c_2, if_pos (by rw [c_23, hwn]; rfl), if_neg (by omega)], by rw [if_neg c_2, if_neg (by rw [okWin, decide_eq_false (show ¬ z < 10 by omega)]; simp)]⟩
      · skip
        refine lv_aload_n hx hb dX7_winter_31 rfl (lv_at hl 0 rfl) ?_
        refine lv_iload_n hx hb dX7_winter_32 rfl (lv_at hl 2 rfl) ?_
        refine g_ki h (g_runV X h (As := [.int x1]) (rest := []) (c_X7_isPerson gl Z v w x1 n hn h6) mi_X7_isPerson ml_RX7_76 (cc_0) (by decide) kl7 rfl ⟨Nat.le_of_ble_eq_true rfl, Nat.le_of_ble_eq_true rfl⟩ rfl hl.1 rfl (Nat.le_of_ble_eq_true rfl) dX7_winter_33) (fun r33 v33 w33 H locs hp33 h => ?_)
        obtain ⟨hr33, hu33⟩ := hp33; obtain ⟨rfl, rfl⟩ := Prod.mk.inj hu33
        refine lv_if_ne (tgt := 41) hx hb dX7_winter_36 (by decide) (fun c_36 => ?_) (fun c_36 => ?_)
        · skip
          rw [hr33, bI_n] at c_36
          have hwn : (decide (¬ x0 = 1) || isP (nI n) x1) = true := by rw [c_36]; simp
          refine lv_aload_n hx hb dX7_winter_41 rfl (lv_at hl 0 rfl) ?_
          refine g_getr X h (k := 1) (t := 51) (cc_0) fr_RX7_23 rfl (by decide) (by decide) (by decide) dX7_winter_42 ?_
          refine g_getr X h (k := 12) (t := 64) (cc_51) fr_RX7_202 rfl (by decide) (by decide) (by decide) dX7_winter_45 ?_
          refine g_ki h (g_runV X h (As := []) (rest := []) (c_X2_isFull gl Z v w 64 10 (isWQ13 isW0) z hz hzm (by omega)) mi_X2_isFull ml_RX7_189 (cc_64) (by decide) kl2 rfl ⟨Nat.le_of_ble_eq_true rfl, Nat.le_of_ble_eq_true rfl⟩ rfl hl.1 rfl (Nat.le_of_ble_eq_true rfl) dX7_winter_48) (fun r48 v48 w48 H locs hp48 h => ?_)
          obtain ⟨hr48, hu48⟩ := hp48; obtain ⟨rfl, rfl⟩ := Prod.mk.inj hu48
          refine lv_if_eq (tgt := 59) hx hb dX7_winter_51 (by decide) (fun c_51 => ?_) (fun c_51 => ?_)
          · skip
            rw [hr48, bI_0] at c_51
            have hlt : z < 10 := by have q := of_decide_eq_false c_51; omega
            refine lv_aload_n hx hb dX7_winter_59 rfl (lv_at hl 0 rfl) ?_
            refine g_getr X h (k := 1) (t := 51) (cc_0) fr_RX7_23 rfl (by decide) (by decide) (by decide) dX7_winter_60 ?_
            refine g_getr X h (k := 12) (t := 64) (cc_51) fr_RX7_202 rfl (by decide) (by decide) (by decide) dX7_winter_63 ?_
            refine lv_iload_n hx hb dX7_winter_66 rfl (lv_at hl 1 rfl) ?_
            refine lv_iload_n hx hb dX7_winter_67 rfl (lv_at hl 2 rfl) ?_
            refine g_ki h (g_runV X h (As := [.int x0, .int x1]) (rest := []) (c_X2_put gl Z v w x0 x1 64 10 (isWQ13 isW0) z hz hzm (by omega)) mi_X2_put ml_RX7_190 (cc_64) (by decide) kl2 rfl ⟨Nat.le_of_ble_eq_true rfl, Nat.le_of_ble_eq_true rfl⟩ rfl hl.1 rfl (Nat.le_of_ble_eq_true rfl) dX7_winter_68) (fun r68 v68 w68 H locs hp68 h => ?_)
            obtain ⟨hr68, hu68⟩ := hp68
            obtain ⟨ev68, rfl⟩ := Prod.mk.inj hu68
            replace ev68 := ev68.symm
            exact g_iret X h dX7_winter_71 ⟨by rw [sWin, if_neg c_2, if_pos (by rw [c_23, hwn]; rfl), if_pos hlt, hr68, if_neg (by omega)], by rw [if_neg c_2, if_pos (by rw [okWin, c_23, hwn, decide_eq_true hlt]; rfl), ev68, if_neg (by omega)]⟩
          · skip
            rw [hr48, bI_n] at c_51
            have hlt : 10 ≤ z := of_decide_eq_true c_51
            refine lv_bipush (v := (-4)) hx hb dX7_winter_54 (by decide) ?_
            refine lv_goto (tgt := 71) hx hb dX7_winter_56 (by decide) ?_
            exact g_iret X h dX7_winter_71 ⟨by rw [sWin, if_neg c_2, if_pos (by rw [c_23, hwn]; rfl), if_neg (by omega)], by rw [if_neg c_2, if_neg (by rw [okWin, decide_eq_false (show ¬ z < 10 by omega)]; simp)]⟩
        · skip
          rw [hr33, bI_0] at c_36
          have hwn : (decide (¬ x0 = 1) || isP (nI n) x1) = false := by rw [c_36, decide_eq_false (fun q => q c_28)]; rfl
          refine lv_iconst (v := (-1)) hx hb dX7_winter_39 (by decide) ?_
          exact g_iret X h dX7_winter_40 ⟨by rw [sWin, if_neg c_2, if_neg (by rw [hwn]; simp)], by rw [if_neg c_2, if_neg (by rw [okWin, hwn]; simp)]⟩
  · skip
    refine lv_aload_n hx hb dX7_winter_5 rfl (lv_at hl 0 rfl) ?_
    refine g_getr X h (k := 1) (t := 51) (cc_0) fr_RX7_23 rfl (by decide) (by decide) (by decide) dX7_winter_6 ?_
    refine g_getr X h (k := 12) (t := 64) (cc_51) fr_RX7_202 rfl (by decide) (by decide) (by decide) dX7_winter_9 ?_
    refine g_kv h (g_runV X h (As := []) (rest := []) (c_X2_empty gl Z v w 64 10 (isWQ13 isW0)) mi_X2_empty ml_RX7_184 (cc_64) (by decide) kl2 rfl ⟨Nat.le_of_ble_eq_true rfl, Nat.le_of_ble_eq_true rfl⟩ rfl hl.1 rfl (Nat.le_of_ble_eq_true rfl) dX7_winter_12) (fun v12 w12 H locs hp12 h => ?_)
    obtain ⟨hv12, rfl⟩ := Prod.mk.inj hp12
    refine lv_iconst (v := 0) hx hb dX7_winter_15 (by decide) ?_
    exact g_iret X h dX7_winter_16 ⟨by rw [sWin, if_pos c_2], by rw [if_pos c_2]; exact congrArg (fun q => (q, w)) hv12⟩

set_option maxRecDepth 100000 in
set_option maxHeartbeats 1000000 in
theorem c_X7_book (gl : Launch) (Z : PL) (v : VV) (w : WV) (x0 : Int32) (x1 : Int32) (n : Nat) (hn : v 52 0 = nI n) (h6 : n ≤ 6) (z : Nat) (hz : v 67 2 = nI z) (hzm : z ≤ 8) : CT gl yX7_book cX7_book 3 (some .int) 2 42 Z [.ref (zg Z 0), .int x0, .int x1] v w (Qi Z (fun r u => r = sBook n z x0 x1 ∧ (if x0 = -1 then up2 v 67 2 0 else if okBook n z x0 x1 then up2 (up2 (up2 v 68 z x0) 69 z x1) 67 2 (nI (z + 1)) else v, w) = u)) := by
  refine g_met (by decide) (Nat.le_of_ble_eq_true rfl) ?_
  intro gp ge gs gm ga gb gh gc X h ls hl
  have hx := X.1
  have hb := X.2.1
  have hl : lv_has ls 3 [(0, .ref (zg Z 0)), (1, .int x0), (2, .int x1)] := hl
  refine lv_iload_n hx hb dX7_book_0 rfl (lv_at hl 1 rfl) ?_
  refine lv_iconst (v := (-1)) hx hb dX7_book_1 (by decide) ?_
  refine lv_icmp_ne (tgt := 17) hx hb dX7_book_2 (by decide) (fun c_2 => ?_) (fun c_2 => ?_)
  · skip
    refine lv_aload_n hx hb dX7_book_17 rfl (lv_at hl 0 rfl) ?_
    refine lv_iload_n hx hb dX7_book_18 rfl (lv_at hl 1 rfl) ?_
    refine g_ki h (g_runV X h (As := [.int x0]) (rest := []) (c_X7_isPerson gl Z v w x0 n hn h6) mi_X7_isPerson ml_RX7_76 (cc_0) (by decide) kl7 rfl ⟨Nat.le_of_ble_eq_true rfl, Nat.le_of_ble_eq_true rfl⟩ rfl hl.1 rfl (Nat.le_of_ble_eq_true rfl) dX7_book_19) (fun r19 v19 w19 H locs hp19 h => ?_)
    obtain ⟨hr19, hu19⟩ := hp19; obtain ⟨rfl, rfl⟩ := Prod.mk.inj hu19
    refine lv_if_ne (tgt := 27) hx hb dX7_book_22 (by decide) (fun c_22 => ?_) (fun c_22 => ?_)
    · skip
      rw [hr19, bI_n] at c_22
      refine lv_iload_n hx hb dX7_book_27 rfl (lv_at hl 2 rfl) ?_
      refine lv_iconst (v := 0) hx hb dX7_book_28 (by decide) ?_
      refine lv_sipush (v := 999) hx hb dX7_book_29 (by decide) ?_
      refine g_ki h (g_runS X h (As := [.int x1, .int 0, .int 999]) (rest := []) (c_X7_isWithin gl Z v w x1 0 999) ms_X7_isWithin ml_RX7_58 ⟨Nat.le_of_ble_eq_true rfl, Nat.le_of_ble_eq_true rfl⟩ rfl hl.1 rfl (Nat.le_of_ble_eq_true rfl) dX7_book_32) (fun r32 v32 w32 H locs hp32 h => ?_)
      obtain ⟨hr32, hu32⟩ := hp32; obtain ⟨rfl, rfl⟩ := Prod.mk.inj hu32
      refine lv_if_ne (tgt := 41) hx hb dX7_book_35 (by decide) (fun c_35 => ?_) (fun c_35 => ?_)
      · skip
        rw [hr32, bI_n] at c_35
        refine lv_aload_n hx hb dX7_book_41 rfl (lv_at hl 0 rfl) ?_
        refine g_getr X h (k := 1) (t := 51) (cc_0) fr_RX7_23 rfl (by decide) (by decide) (by decide) dX7_book_42 ?_
        refine g_getr X h (k := 13) (t := 67) (cc_51) fr_RX7_216 rfl (by decide) (by decide) (by decide) dX7_book_45 ?_
        refine g_ki h (g_runV X h (As := []) (rest := []) (c_X2_isFull gl Z v w 67 8 (isWQ16 isW0) z hz hzm (by omega)) mi_X2_isFull ml_RX7_189 (cc_67) (by decide) kl2 rfl ⟨Nat.le_of_ble_eq_true rfl, Nat.le_of_ble_eq_true rfl⟩ rfl hl.1 rfl (Nat.le_of_ble_eq_true rfl) dX7_book_48) (fun r48 v48 w48 H locs hp48 h => ?_)
        obtain ⟨hr48, hu48⟩ := hp48; obtain ⟨rfl, rfl⟩ := Prod.mk.inj hu48
        refine lv_if_eq (tgt := 59) hx hb dX7_book_51 (by decide) (fun c_51 => ?_) (fun c_51 => ?_)
        · skip
          rw [hr48, bI_0] at c_51
          have hlt : z < 8 := by have q := of_decide_eq_false c_51; omega
          refine lv_aload_n hx hb dX7_book_59 rfl (lv_at hl 0 rfl) ?_
          refine g_getr X h (k := 1) (t := 51) (cc_0) fr_RX7_23 rfl (by decide) (by decide) (by decide) dX7_book_60 ?_
          refine g_getr X h (k := 13) (t := 67) (cc_51) fr_RX7_216 rfl (by decide) (by decide) (by decide) dX7_book_63 ?_
          refine lv_iload_n hx hb dX7_book_66 rfl (lv_at hl 1 rfl) ?_
          refine lv_iload_n hx hb dX7_book_67 rfl (lv_at hl 2 rfl) ?_
          refine g_ki h (g_runV X h (As := [.int x0, .int x1]) (rest := []) (c_X2_put gl Z v w x0 x1 67 8 (isWQ16 isW0) z hz hzm (by omega)) mi_X2_put ml_RX7_190 (cc_67) (by decide) kl2 rfl ⟨Nat.le_of_ble_eq_true rfl, Nat.le_of_ble_eq_true rfl⟩ rfl hl.1 rfl (Nat.le_of_ble_eq_true rfl) dX7_book_68) (fun r68 v68 w68 H locs hp68 h => ?_)
          obtain ⟨hr68, hu68⟩ := hp68
          obtain ⟨ev68, rfl⟩ := Prod.mk.inj hu68
          replace ev68 := ev68.symm
          exact g_iret X h dX7_book_71 ⟨by rw [sBook, if_neg c_2, if_pos c_22, if_pos c_35, if_pos hlt, hr68, if_neg (by omega)], by rw [if_neg c_2, if_pos (by rw [okBook, c_22, c_35, decide_eq_true hlt]; rfl), ev68, if_neg (by omega)]⟩
        · skip
          rw [hr48, bI_n] at c_51
          have hlt : 8 ≤ z := of_decide_eq_true c_51
          refine lv_bipush (v := (-4)) hx hb dX7_book_54 (by decide) ?_
          refine lv_goto (tgt := 71) hx hb dX7_book_56 (by decide) ?_
          exact g_iret X h dX7_book_71 ⟨by rw [sBook, if_neg c_2, if_pos c_22, if_pos c_35, if_neg (by omega)], by rw [if_neg c_2, if_neg (by rw [okBook, decide_eq_false (show ¬ z < 8 by omega)]; simp)]⟩
      · skip
        rw [hr32, bI_0] at c_35
        refine lv_bipush (v := (-2)) hx hb dX7_book_38 (by decide) ?_
        exact g_iret X h dX7_book_40 ⟨by rw [sBook, if_neg c_2, if_pos c_22, if_neg (by rw [c_35]; simp)], by rw [if_neg c_2, if_neg (by rw [okBook, c_35]; simp)]⟩
    · skip
      rw [hr19, bI_0] at c_22
      refine lv_iconst (v := (-1)) hx hb dX7_book_25 (by decide) ?_
      exact g_iret X h dX7_book_26 ⟨by rw [sBook, if_neg c_2, if_neg (by rw [c_22]; simp)], by rw [if_neg c_2, if_neg (by rw [okBook, c_22]; simp)]⟩
  · skip
    refine lv_aload_n hx hb dX7_book_5 rfl (lv_at hl 0 rfl) ?_
    refine g_getr X h (k := 1) (t := 51) (cc_0) fr_RX7_23 rfl (by decide) (by decide) (by decide) dX7_book_6 ?_
    refine g_getr X h (k := 13) (t := 67) (cc_51) fr_RX7_216 rfl (by decide) (by decide) (by decide) dX7_book_9 ?_
    refine g_kv h (g_runV X h (As := []) (rest := []) (c_X2_empty gl Z v w 67 8 (isWQ16 isW0)) mi_X2_empty ml_RX7_184 (cc_67) (by decide) kl2 rfl ⟨Nat.le_of_ble_eq_true rfl, Nat.le_of_ble_eq_true rfl⟩ rfl hl.1 rfl (Nat.le_of_ble_eq_true rfl) dX7_book_12) (fun v12 w12 H locs hp12 h => ?_)
    obtain ⟨hv12, rfl⟩ := Prod.mk.inj hp12
    refine lv_iconst (v := 0) hx hb dX7_book_15 (by decide) ?_
    exact g_iret X h dX7_book_16 ⟨by rw [sBook, if_pos c_2], by rw [if_pos c_2]; exact congrArg (fun q => (q, w)) hv12⟩

set_option maxRecDepth 100000 in
set_option maxHeartbeats 1000000 in
theorem c_X7_looked (gl : Launch) (Z : PL) (v : VV) (w : WV) (n : Nat) (hn : v 52 0 = nI n) (h6 : n ≤ 6) (z : Nat) (hz : v 67 2 = nI z) (hzm : z ≤ 8) (hbk : ∀ i, i < z → ∃ p, p < n ∧ v 68 i = nI p) : CT gl yX7_looked cX7_looked 3 (some .int) 1 21 Z [.ref (zg Z 0)] v w (Qi Z (fun r u => r = lookF (v 56) (v 68) (v 69) z 0 ∧ (v, w) = u)) := by
  refine g_met (by decide) (Nat.le_of_ble_eq_true rfl) ?_
  intro gp ge gs gm ga gb gh gc X h ls hl
  have hx := X.1
  have hb := X.2.1
  have hl : lv_has ls 3 [(0, .ref (zg Z 0))] := hl
  refine lv_iconst (v := 0) hx hb dX7_looked_0 (by decide) ?_
  refine lv_istore_n (lv' := [(1, .int 0), (0, .ref (zg Z 0))]) hx hb dX7_looked_1 rfl hl (by decide) rfl (fun ls hl => ?_)
  have L2 : ∀ (n2 : Nat) (i : Nat) (x1 : Int32), (x1 = nI i) → (i ≤ z) → (lookF (v 56) (v 68) (v 69) z 0 = lookF (v 56) (v 68) (v 69) (z - i) i) → z - i < n2 → ∀ (H : Heap) (locs : List Loc), HS Z gs v w H locs → ∀ ls : Array Slot, lv_has ls 3 [(0, .ref (zg Z 0)), (1, .int x1)] → W gp gl ge (rmm 1 21) gs gm ga gb gh gc H locs 0 0 (MQ gb (Qi Z (fun r u => r = lookF (v 56) (v 68) (v 69) z 0 ∧ (v, w) = u)) ga gs 0 0 (zA Z)) (F0 gm 2 ls []) := by
    intro n2
    induction n2 with
    | zero => intro i x1 hx1 hi hlf hmu; exact absurd hmu (Nat.not_lt_zero _)
    | succ n2 ih2 =>
      intro i x1 hx1 hi hlf hmu2 H locs h ls hl
      refine lv_iload_n hx hb dX7_looked_2 rfl (lv_at hl 1 rfl) ?_
      refine lv_aload_n hx hb dX7_looked_3 rfl (lv_at hl 0 rfl) ?_
      refine g_getr X h (k := 1) (t := 51) (cc_0) fr_RX7_23 rfl (by decide) (by decide) (by decide) dX7_looked_4 ?_
      refine g_getr X h (k := 13) (t := 67) (cc_51) fr_RX7_216 rfl (by decide) (by decide) (by decide) dX7_looked_7 ?_
      refine g_geti X h (k := 2) (cc_67) fr_RX7_205 rfl (by decide) dX7_looked_10 ?_
      refine lv_icmp_ge (tgt := 72) hx hb dX7_looked_13 (by decide) (fun c_13 => ?_) (fun c_13 => ?_)
      · skip
        have hiz := nI_le1 (a := z) (b := i) hz hx1 (by omega) (by omega) c_13
        refine lv_bipush (v := (-5)) hx hb dX7_looked_72 (by decide) ?_
        exact g_iret X h dX7_looked_74 ⟨by rw [hlf, show z - i = 0 by omega]; rfl, rfl⟩
      · skip
        have hiz := nI_le0 (a := z) (b := i) hz hx1 (by omega) (by omega) c_13
        obtain ⟨p, hpn, hp⟩ := hbk i hiz
        refine lv_aload_n hx hb dX7_looked_16 rfl (lv_at hl 0 rfl) ?_
        refine g_getr X h (k := 1) (t := 51) (cc_0) fr_RX7_23 rfl (by decide) (by decide) (by decide) dX7_looked_17 ?_
        refine g_getr X h (k := 13) (t := 67) (cc_51) fr_RX7_216 rfl (by decide) (by decide) (by decide) dX7_looked_20 ?_
        refine g_getr X h (k := 0) (t := 68) (cc_67) fr_RX7_206 rfl (by decide) (by decide) (by decide) dX7_looked_23 ?_
        refine lv_iload_n hx hb dX7_looked_26 rfl (lv_at hl 1 rfl) ?_
        refine g_iald X h (k := i) (cc_68) hx1 (by omega) (by decide) dX7_looked_27 ?_
        refine lv_topi (fun x2_28 ex2_28 => ?_)
        refine lv_istore_n (lv' := [(2, .int x2_28), (0, .ref (zg Z 0)), (1, .int x1)]) hx hb dX7_looked_28 rfl hl (by decide) rfl (fun ls hl => ?_)
        refine lv_aload_n hx hb dX7_looked_29 rfl (lv_at hl 1 rfl) ?_
        refine lv_iload_n hx hb dX7_looked_30 rfl (lv_at hl 0 rfl) ?_
        refine g_ki h (g_runV X h (As := [.int x2_28]) (rest := []) (c_X7_isPerson gl Z v w x2_28 n hn h6) mi_X7_isPerson ml_RX7_76 (cc_0) (by decide) kl7 rfl ⟨Nat.le_of_ble_eq_true rfl, Nat.le_of_ble_eq_true rfl⟩ rfl hl.1 rfl (Nat.le_of_ble_eq_true rfl) dX7_looked_31) (fun r31 v31 w31 H locs hp31 h => ?_)
        obtain ⟨hr31, hu31⟩ := hp31; obtain ⟨rfl, rfl⟩ := Prod.mk.inj hu31
        refine lv_if_eq (tgt := 66) hx hb dX7_looked_34 (by decide) (fun c_34 => ?_) (fun c_34 => ?_)
        · rw [hr31, ex2_28, hp, isP_lt hpn (by omega)] at c_34
          exact absurd c_34 (by decide)
        · skip
          rw [hr31, bI_n] at c_34
          refine lv_aload_n hx hb dX7_looked_37 rfl (lv_at hl 1 rfl) ?_
          refine g_getr X h (k := 1) (t := 51) (cc_0) fr_RX7_23 rfl (by decide) (by decide) (by decide) dX7_looked_38 ?_
          refine g_getr X h (k := 0) (t := 52) (cc_51) fr_RX7_62 rfl (by decide) (by decide) (by decide) dX7_looked_41 ?_
          refine g_getr X h (k := 4) (t := 56) (cc_52) fr_RX7_87 rfl (by decide) (by decide) (by decide) dX7_looked_44 ?_
          refine lv_iload_n hx hb dX7_looked_47 rfl (lv_at hl 0 rfl) ?_
          refine g_iald X h (k := p) (cc_56) (ex2_28.trans hp) (by omega) (by decide) dX7_looked_48 ?_
          refine lv_aload_n hx hb dX7_looked_49 rfl (lv_at hl 1 rfl) ?_
          refine g_getr X h (k := 1) (t := 51) (cc_0) fr_RX7_23 rfl (by decide) (by decide) (by decide) dX7_looked_50 ?_
          refine g_getr X h (k := 13) (t := 67) (cc_51) fr_RX7_216 rfl (by decide) (by decide) (by decide) dX7_looked_53 ?_
          refine g_getr X h (k := 1) (t := 69) (cc_67) fr_RX7_209 rfl (by decide) (by decide) (by decide) dX7_looked_56 ?_
          refine lv_iload_n hx hb dX7_looked_59 rfl (lv_at hl 2 rfl) ?_
          refine g_iald X h (k := i) (cc_69) hx1 (by omega) (by decide) dX7_looked_60 ?_
          refine lv_icmp_eq (tgt := 66) hx hb dX7_looked_61 (by decide) (fun c_61 => ?_) (fun c_61 => ?_)
          · skip
            refine lv_iinc (v := (x1 + 1)) (lv' := [(1, .int (x1 + 1)), (2, .int x2_28), (0, .ref (zg Z 0))]) hx hb dX7_looked_66 hl (k := 2) rfl rfl (by decide) rfl (fun ls hl => ?_)
            refine lv_goto (tgt := 2) hx hb dX7_looked_69 (by decide) ?_
            exact ih2 (i + 1) (x1 + 1) (by rw [hx1]; exact nI_1 _) (by omega) (by rw [hlf, show z - i = (z - (i + 1)) + 1 by omega, lookF, hp, nI_clamp (by omega), if_pos c_61]) (by omega) _ _ h ls (lv_sub hl [2, 0] rfl)
          · skip
            refine lv_iload_n hx hb dX7_looked_64 rfl (lv_at hl 2 rfl) ?_
            exact g_iret X h dX7_looked_65 ⟨by rw [hlf, show z - i = (z - (i + 1)) + 1 by omega, lookF, hp, nI_clamp (by omega), if_neg c_61]; exact hx1, rfl⟩
  exact L2 (z - 0 + 1) 0 0 rfl (Nat.zero_le _) rfl (Nat.lt_succ_self _) _ _ h ls (lv_sub hl [1, 0] rfl)

set_option maxRecDepth 100000 in
set_option maxHeartbeats 1000000 in
theorem c_X7_count (gl : Launch) (Z : PL) (v : VV) (w : WV) (x0 : Int32) : CT gl yX7_count cX7_count 2 (some .int) 0 0 Z [.ref (zg Z 0), .int x0] v w (Qi Z (fun r u => r = sCount (v 52 0) (v 0 6) (v 51 5) (v 61 2) (v 64 2) (v 67 2) (v 108 1) (v 110 1) x0 ∧ (v, w) = u)) := by
  refine g_met (by decide) (Nat.le_of_ble_eq_true rfl) ?_
  intro gp ge gs gm ga gb gh gc X h ls hl
  have hx := X.1
  have hb := X.2.1
  have hl : lv_has ls 2 [(0, .ref (zg Z 0)), (1, .int x0)] := hl
  refine lv_iload_n hx hb dX7_count_0 rfl (lv_at hl 1 rfl) ?_
  by_cases t1_0 : x0 = 0
  · refine lv_tableIn (off := 47) (tgt := 48) hx hb dX7_count_1 (by rw [t1_0]; decide) (by rw [t1_0]; decide) (by rw [t1_0]; rfl) (by decide) ?_
    refine lv_aload_n hx hb dX7_count_48 rfl (lv_at hl 0 rfl) ?_
    refine g_getr X h (k := 1) (t := 51) (cc_0) fr_RX7_23 rfl (by decide) (by decide) (by decide) dX7_count_49 ?_
    refine g_getr X h (k := 0) (t := 52) (cc_51) fr_RX7_62 rfl (by decide) (by decide) (by decide) dX7_count_52 ?_
    refine g_geti X h (k := 0) (cc_52) fr_RX7_66 rfl (by decide) dX7_count_55 ?_
    exact g_iret X h dX7_count_58 ⟨by rw [sCount, if_pos t1_0], rfl⟩
  · skip
    by_cases t1_1 : x0 = 1
    · refine lv_tableIn (off := 58) (tgt := 59) hx hb dX7_count_1 (by rw [t1_1]; decide) (by rw [t1_1]; decide) (by rw [t1_1]; rfl) (by decide) ?_
      refine lv_aload_n hx hb dX7_count_59 rfl (lv_at hl 0 rfl) ?_
      refine g_geti X h (k := 6) (cc_0) fr_RX7_137 rfl (by decide) dX7_count_60 ?_
      exact g_iret X h dX7_count_63 ⟨by rw [sCount, if_neg t1_0, if_pos t1_1], rfl⟩
    · skip
      by_cases t1_2 : x0 = 2
      · refine lv_tableIn (off := 63) (tgt := 64) hx hb dX7_count_1 (by rw [t1_2]; decide) (by rw [t1_2]; decide) (by rw [t1_2]; rfl) (by decide) ?_
        refine lv_aload_n hx hb dX7_count_64 rfl (lv_at hl 0 rfl) ?_
        refine g_getr X h (k := 1) (t := 51) (cc_0) fr_RX7_23 rfl (by decide) (by decide) (by decide) dX7_count_65 ?_
        refine g_geti X h (k := 5) (cc_51) fr_RX7_123 rfl (by decide) dX7_count_68 ?_
        exact g_iret X h dX7_count_71 ⟨by rw [sCount, if_neg t1_0, if_neg t1_1, if_pos t1_2], rfl⟩
      · skip
        by_cases t1_3 : x0 = 3
        · refine lv_tableIn (off := 71) (tgt := 72) hx hb dX7_count_1 (by rw [t1_3]; decide) (by rw [t1_3]; decide) (by rw [t1_3]; rfl) (by decide) ?_
          refine lv_aload_n hx hb dX7_count_72 rfl (lv_at hl 0 rfl) ?_
          refine g_getr X h (k := 1) (t := 51) (cc_0) fr_RX7_23 rfl (by decide) (by decide) (by decide) dX7_count_73 ?_
          refine g_getr X h (k := 11) (t := 61) (cc_51) fr_RX7_180 rfl (by decide) (by decide) (by decide) dX7_count_76 ?_
          refine g_geti X h (k := 2) (cc_61) fr_RX7_205 rfl (by decide) dX7_count_79 ?_
          exact g_iret X h dX7_count_82 ⟨by rw [sCount, if_neg t1_0, if_neg t1_1, if_neg t1_2, if_pos t1_3], rfl⟩
        · skip
          by_cases t1_4 : x0 = 4
          · refine lv_tableIn (off := 82) (tgt := 83) hx hb dX7_count_1 (by rw [t1_4]; decide) (by rw [t1_4]; decide) (by rw [t1_4]; rfl) (by decide) ?_
            refine lv_aload_n hx hb dX7_count_83 rfl (lv_at hl 0 rfl) ?_
            refine g_getr X h (k := 1) (t := 51) (cc_0) fr_RX7_23 rfl (by decide) (by decide) (by decide) dX7_count_84 ?_
            refine g_getr X h (k := 12) (t := 64) (cc_51) fr_RX7_202 rfl (by decide) (by decide) (by decide) dX7_count_87 ?_
            refine g_geti X h (k := 2) (cc_64) fr_RX7_205 rfl (by decide) dX7_count_90 ?_
            exact g_iret X h dX7_count_93 ⟨by rw [sCount, if_neg t1_0, if_neg t1_1, if_neg t1_2, if_neg t1_3, if_pos t1_4], rfl⟩
          · skip
            by_cases t1_5 : x0 = 5
            · refine lv_tableIn (off := 93) (tgt := 94) hx hb dX7_count_1 (by rw [t1_5]; decide) (by rw [t1_5]; decide) (by rw [t1_5]; rfl) (by decide) ?_
              refine lv_aload_n hx hb dX7_count_94 rfl (lv_at hl 0 rfl) ?_
              refine g_getr X h (k := 1) (t := 51) (cc_0) fr_RX7_23 rfl (by decide) (by decide) (by decide) dX7_count_95 ?_
              refine g_getr X h (k := 13) (t := 67) (cc_51) fr_RX7_216 rfl (by decide) (by decide) (by decide) dX7_count_98 ?_
              refine g_geti X h (k := 2) (cc_67) fr_RX7_205 rfl (by decide) dX7_count_101 ?_
              exact g_iret X h dX7_count_104 ⟨by rw [sCount, if_neg t1_0, if_neg t1_1, if_neg t1_2, if_neg t1_3, if_neg t1_4, if_pos t1_5], rfl⟩
            · skip
              by_cases t1_6 : x0 = 6
              · refine lv_tableIn (off := 104) (tgt := 105) hx hb dX7_count_1 (by rw [t1_6]; decide) (by rw [t1_6]; decide) (by rw [t1_6]; rfl) (by decide) ?_
                refine lv_aload_n hx hb dX7_count_105 rfl (lv_at hl 0 rfl) ?_
                refine g_getr X h (k := 7) (t := 108) (cc_0) fr_RX7_40 rfl (by decide) (by decide) (by decide) dX7_count_106 ?_
                refine g_geti X h (k := 1) (cc_108) fr_RX7_259 rfl (by decide) dX7_count_109 ?_
                exact g_iret X h dX7_count_112 ⟨by rw [sCount, if_neg t1_0, if_neg t1_1, if_neg t1_2, if_neg t1_3, if_neg t1_4, if_neg t1_5, if_pos t1_6], rfl⟩
              · skip
                by_cases t1_7 : x0 = 7
                · refine lv_tableIn (off := 112) (tgt := 113) hx hb dX7_count_1 (by rw [t1_7]; decide) (by rw [t1_7]; decide) (by rw [t1_7]; rfl) (by decide) ?_
                  refine lv_aload_n hx hb dX7_count_113 rfl (lv_at hl 0 rfl) ?_
                  refine g_getr X h (k := 8) (t := 110) (cc_0) fr_RX7_47 rfl (by decide) (by decide) (by decide) dX7_count_114 ?_
                  refine g_geti X h (k := 1) (cc_110) fr_RX7_260 rfl (by decide) dX7_count_117 ?_
                  exact g_iret X h dX7_count_120 ⟨by rw [sCount, if_neg t1_0, if_neg t1_1, if_neg t1_2, if_neg t1_3, if_neg t1_4, if_neg t1_5, if_neg t1_6, if_pos t1_7], rfl⟩
                · skip
                  have q0 := lv_neT t1_0 (a := 0) (by decide)
                  have q1 := lv_neT t1_1 (a := 1) (by decide)
                  have q2 := lv_neT t1_2 (a := 2) (by decide)
                  have q3 := lv_neT t1_3 (a := 3) (by decide)
                  have q4 := lv_neT t1_4 (a := 4) (by decide)
                  have q5 := lv_neT t1_5 (a := 5) (by decide)
                  have q6 := lv_neT t1_6 (a := 6) (by decide)
                  have q7 := lv_neT t1_7 (a := 7) (by decide)
                  refine lv_tableOut (tgt := 121) hx hb dX7_count_1 (by omega) (by decide) ?_
                  refine lv_bipush (v := (-2)) hx hb dX7_count_121 (by decide) ?_
                  exact g_iret X h dX7_count_123 ⟨by rw [sCount, if_neg t1_0, if_neg t1_1, if_neg t1_2, if_neg t1_3, if_neg t1_4, if_neg t1_5, if_neg t1_6, if_neg t1_7], rfl⟩

set_option maxRecDepth 100000 in
set_option maxHeartbeats 1000000 in
theorem c_X7_trace (gl : Launch) (Z : PL) (v : VV) (w : WV) (x0 : Int32) (t : Nat) (htr : v 110 1 = nI t) (ht9 : t < 1000) : CT gl yX7_trace cX7_trace 2 (some .int) 2 41 Z [.ref (zg Z 0), .int x0] v w (Qi Z (fun r u => r = sTrace t (v 111) x0 ∧ (v, w) = u)) := by
  refine g_met (by decide) (Nat.le_of_ble_eq_true rfl) ?_
  intro gp ge gs gm ga gb gh gc X h ls hl
  have hx := X.1
  have hb := X.2.1
  have hl : lv_has ls 2 [(0, .ref (zg Z 0)), (1, .int x0)] := hl
  refine lv_iload_n hx hb dX7_trace_0 rfl (lv_at hl 1 rfl) ?_
  refine lv_iconst (v := 0) hx hb dX7_trace_1 (by decide) ?_
  refine lv_aload_n hx hb dX7_trace_2 rfl (lv_at hl 0 rfl) ?_
  refine g_getr X h (k := 8) (t := 110) (cc_0) fr_RX7_47 rfl (by decide) (by decide) (by decide) dX7_trace_3 ?_
  refine g_ki h (g_runV X h (As := []) (rest := [.int 0, .int x0]) (c_X0_keptBodies gl Z v w t htr (by omega)) mi_X0_keptBodies ml_RX7_250 (cc_110) (by decide) kl0 rfl ⟨Nat.le_of_ble_eq_true rfl, Nat.le_of_ble_eq_true rfl⟩ rfl hl.1 rfl (Nat.le_of_ble_eq_true rfl) dX7_trace_6) (fun r6 v6 w6 H locs hp6 h => ?_)
  obtain ⟨hr6, hu6⟩ := hp6; obtain ⟨rfl, rfl⟩ := Prod.mk.inj hu6
  refine lv_iconst (v := 1) hx hb dX7_trace_9 (by decide) ?_
  refine lv_isub hx hb dX7_trace_10 ?_
  refine g_ki h (g_runS X h (As := [.int x0, .int 0, .int (r6 - 1)]) (rest := []) (c_X7_isWithin gl Z v w x0 0 (r6 - 1)) ms_X7_isWithin ml_RX7_58 ⟨Nat.le_of_ble_eq_true rfl, Nat.le_of_ble_eq_true rfl⟩ rfl hl.1 rfl (Nat.le_of_ble_eq_true rfl) dX7_trace_11) (fun r11 v11 w11 H locs hp11 h => ?_)
  obtain ⟨hr11, hu11⟩ := hp11; obtain ⟨rfl, rfl⟩ := Prod.mk.inj hu11
  refine lv_if_eq (tgt := 29) hx hb dX7_trace_14 (by decide) (fun c_14 => ?_) (fun c_14 => ?_)
  · skip
    rw [hr11, bI_0] at c_14
    refine lv_iconst (v := (-1)) hx hb dX7_trace_29 (by decide) ?_
    exact g_iret X h dX7_trace_30 ⟨by rw [hr6, inR_isP' (by omega)] at c_14; rw [sTrace, if_neg (by rw [c_14]; simp)], rfl⟩
  · skip
    rw [hr11, bI_n] at c_14
    rw [hr6, inR_isP' (by omega)] at c_14
    obtain ⟨k, hk, hkn, hkc⟩ := isP_nat (by omega) c_14
    refine lv_aload_n hx hb dX7_trace_17 rfl (lv_at hl 0 rfl) ?_
    refine g_getr X h (k := 8) (t := 110) (cc_0) fr_RX7_47 rfl (by decide) (by decide) (by decide) dX7_trace_18 ?_
    refine g_getr X h (k := 0) (t := 111) (cc_110) fr_RX7_253 rfl (by decide) (by decide) (by decide) dX7_trace_21 ?_
    refine lv_iload_n hx hb dX7_trace_24 rfl (lv_at hl 1 rfl) ?_
    refine g_iald X h (k := k) (cc_111) hk (by omega) (by decide) dX7_trace_25 ?_
    refine lv_goto (tgt := 30) hx hb dX7_trace_26 (by decide) ?_
    exact g_iret X h dX7_trace_30 ⟨by rw [sTrace, if_pos c_14, hkc], rfl⟩

set_option maxRecDepth 100000 in
set_option maxHeartbeats 1000000 in
theorem c_X7_isUnder_0 (gl : Launch) (Z : PL) (v : VV) (w : WV) (x1 : Int32) (k : Nat) (hk : x1 = nI k) (hk6 : k ≤ 6) : CT gl yX7_isUnder cX7_isUnder 4 (some .boolean) 1 22 Z [.int 0, .int x1] v w (Qi Z (fun r u => r = bI (undS 0 k) ∧ (v, w) = u)) := by
  refine g_met (by decide) (Nat.le_of_ble_eq_true rfl) ?_
  intro gp ge gs gm ga gb gh gc X h ls hl
  have hx := X.1
  have hb := X.2.1
  have hl : lv_has ls 4 [(0, .int 0), (1, .int x1)] := hl
  refine lv_iload_n hx hb dX7_isUnder_0 rfl (lv_at hl 0 rfl) ?_
  refine lv_istore_n (lv' := [(2, .int 0), (0, .int 0), (1, .int x1)]) hx hb dX7_isUnder_1 rfl hl (by decide) rfl (fun ls hl => ?_)
  refine lv_iconst (v := 0) hx hb dX7_isUnder_2 (by decide) ?_
  refine lv_istore_n (lv' := [(3, .int 0), (2, .int 0), (0, .int 0), (1, .int x1)]) hx hb dX7_isUnder_3 rfl hl (by decide) rfl (fun ls hl => ?_)
  refine lv_iload_n hx hb dX7_isUnder_4 rfl (lv_at hl 0 rfl) ?_
  refine lv_bipush (v := 7) hx hb dX7_isUnder_5 (by decide) ?_
  refine lv_icmp_ge (tgt := 39) hx hb dX7_isUnder_7 (by decide) (fun q => absurd q (by decide)) (fun _ => ?_)
  refine lv_iload_n hx hb dX7_isUnder_10 rfl (lv_at hl 1 rfl) ?_
  refine lv_iconst (v := 0) hx hb dX7_isUnder_11 (by decide) ?_
  refine lv_bipush (v := 6) hx hb dX7_isUnder_12 (by decide) ?_
  refine g_ki h (g_runS X h (As := [.int 0, .int 0, .int 6]) (rest := []) (c_X7_isWithin gl Z v w 0 0 6) ms_X7_isWithin ml_RX7_58 ⟨Nat.le_of_ble_eq_true rfl, Nat.le_of_ble_eq_true rfl⟩ rfl hl.1 rfl (Nat.le_of_ble_eq_true rfl) dX7_isUnder_14) (fun r14 v14 w14 H locs hp14 h => ?_)
  obtain ⟨hr14, hu14⟩ := hp14; obtain ⟨rfl, rfl⟩ := Prod.mk.inj hu14
  refine g_tr (y := 1) hr14 ?_
  refine lv_if_eq (tgt := 39) hx hb dX7_isUnder_17 (by decide) (fun q => absurd q (by decide)) (fun _ => ?_)
  refine lv_iload_n hx hb dX7_isUnder_20 rfl (lv_at hl 1 rfl) ?_
  refine lv_iload_n hx hb dX7_isUnder_21 rfl (lv_at hl 3 rfl) ?_
  refine lv_icmp_ne (tgt := 27) hx hb dX7_isUnder_22 (by decide) (fun c_22 => ?_) (fun c_22 => ?_)
  · skip
    refine g_st_ABOVE X h dX7_isUnder_27 ?_
    refine lv_iload_n hx hb dX7_isUnder_30 rfl (lv_at hl 1 rfl) ?_
    refine g_tab0 X h (k := 0) rfl (by decide) dX7_isUnder_31 ?_
    refine g_tr (y := (-1)) rfl ?_
    refine lv_istore_n (lv' := [(2, .int (-1)), (3, .int 0), (0, .int 0), (1, .int x1)]) hx hb dX7_isUnder_32 rfl hl (by decide) rfl (fun ls hl => ?_)
    refine lv_iinc (v := 1) (lv' := [(3, .int 1), (2, .int (-1)), (0, .int 0), (1, .int x1)]) hx hb dX7_isUnder_33 hl (k := 1) rfl rfl (by decide) rfl (fun ls hl => ?_)
    refine lv_goto (tgt := 4) hx hb dX7_isUnder_36 (by decide) ?_
    refine lv_iload_n hx hb dX7_isUnder_4 rfl (lv_at hl 0 rfl) ?_
    refine lv_bipush (v := 7) hx hb dX7_isUnder_5 (by decide) ?_
    refine lv_icmp_ge (tgt := 39) hx hb dX7_isUnder_7 (by decide) (fun q => absurd q (by decide)) (fun _ => ?_)
    refine lv_iload_n hx hb dX7_isUnder_10 rfl (lv_at hl 1 rfl) ?_
    refine lv_iconst (v := 0) hx hb dX7_isUnder_11 (by decide) ?_
    refine lv_bipush (v := 6) hx hb dX7_isUnder_12 (by decide) ?_
    refine g_ki h (g_runS X h (As := [.int (-1), .int 0, .int 6]) (rest := []) (c_X7_isWithin gl Z v w (-1) 0 6) ms_X7_isWithin ml_RX7_58 ⟨Nat.le_of_ble_eq_true rfl, Nat.le_of_ble_eq_true rfl⟩ rfl hl.1 rfl (Nat.le_of_ble_eq_true rfl) dX7_isUnder_14) (fun r14 v14 w14 H locs hp14 h => ?_)
    obtain ⟨hr14, hu14⟩ := hp14; obtain ⟨rfl, rfl⟩ := Prod.mk.inj hu14
    refine g_tr (y := 0) hr14 ?_
    refine lv_if_eq (tgt := 39) hx hb dX7_isUnder_17 (by decide) (fun _ => ?_) (fun q => absurd q (by decide))
    refine lv_iconst (v := 0) hx hb dX7_isUnder_39 (by decide) ?_
    exact g_nret X h dX7_isUnder_40 rfl (by subst hk; rcases kk7 hk6 with rfl | rfl | rfl | rfl | rfl | rfl | rfl <;> first | exact ⟨by decide, rfl⟩ | (exfalso; first | exact absurd c_22 (by decide) | exact c_22 (by decide)))
  · skip
    refine lv_iconst (v := 1) hx hb dX7_isUnder_25 (by decide) ?_
    exact g_nret X h dX7_isUnder_26 rfl (by subst hk; rcases kk7 hk6 with rfl | rfl | rfl | rfl | rfl | rfl | rfl <;> first | exact ⟨by decide, rfl⟩ | (exfalso; first | exact absurd c_22 (by decide) | exact c_22 (by decide)))

set_option maxRecDepth 100000 in
set_option maxHeartbeats 1000000 in
theorem c_X7_isUnder_1 (gl : Launch) (Z : PL) (v : VV) (w : WV) (x1 : Int32) (k : Nat) (hk : x1 = nI k) (hk6 : k ≤ 6) : CT gl yX7_isUnder cX7_isUnder 4 (some .boolean) 1 22 Z [.int 1, .int x1] v w (Qi Z (fun r u => r = bI (undS 1 k) ∧ (v, w) = u)) := by
  refine g_met (by decide) (Nat.le_of_ble_eq_true rfl) ?_
  intro gp ge gs gm ga gb gh gc X h ls hl
  have hx := X.1
  have hb := X.2.1
  have hl : lv_has ls 4 [(0, .int 1), (1, .int x1)] := hl
  refine lv_iload_n hx hb dX7_isUnder_0 rfl (lv_at hl 0 rfl) ?_
  refine lv_istore_n (lv' := [(2, .int 1), (0, .int 1), (1, .int x1)]) hx hb dX7_isUnder_1 rfl hl (by decide) rfl (fun ls hl => ?_)
  refine lv_iconst (v := 0) hx hb dX7_isUnder_2 (by decide) ?_
  refine lv_istore_n (lv' := [(3, .int 0), (2, .int 1), (0, .int 1), (1, .int x1)]) hx hb dX7_isUnder_3 rfl hl (by decide) rfl (fun ls hl => ?_)
  refine lv_iload_n hx hb dX7_isUnder_4 rfl (lv_at hl 0 rfl) ?_
  refine lv_bipush (v := 7) hx hb dX7_isUnder_5 (by decide) ?_
  refine lv_icmp_ge (tgt := 39) hx hb dX7_isUnder_7 (by decide) (fun q => absurd q (by decide)) (fun _ => ?_)
  refine lv_iload_n hx hb dX7_isUnder_10 rfl (lv_at hl 1 rfl) ?_
  refine lv_iconst (v := 0) hx hb dX7_isUnder_11 (by decide) ?_
  refine lv_bipush (v := 6) hx hb dX7_isUnder_12 (by decide) ?_
  refine g_ki h (g_runS X h (As := [.int 1, .int 0, .int 6]) (rest := []) (c_X7_isWithin gl Z v w 1 0 6) ms_X7_isWithin ml_RX7_58 ⟨Nat.le_of_ble_eq_true rfl, Nat.le_of_ble_eq_true rfl⟩ rfl hl.1 rfl (Nat.le_of_ble_eq_true rfl) dX7_isUnder_14) (fun r14 v14 w14 H locs hp14 h => ?_)
  obtain ⟨hr14, hu14⟩ := hp14; obtain ⟨rfl, rfl⟩ := Prod.mk.inj hu14
  refine g_tr (y := 1) hr14 ?_
  refine lv_if_eq (tgt := 39) hx hb dX7_isUnder_17 (by decide) (fun q => absurd q (by decide)) (fun _ => ?_)
  refine lv_iload_n hx hb dX7_isUnder_20 rfl (lv_at hl 1 rfl) ?_
  refine lv_iload_n hx hb dX7_isUnder_21 rfl (lv_at hl 3 rfl) ?_
  refine lv_icmp_ne (tgt := 27) hx hb dX7_isUnder_22 (by decide) (fun c_22 => ?_) (fun c_22 => ?_)
  · skip
    refine g_st_ABOVE X h dX7_isUnder_27 ?_
    refine lv_iload_n hx hb dX7_isUnder_30 rfl (lv_at hl 1 rfl) ?_
    refine g_tab0 X h (k := 1) rfl (by decide) dX7_isUnder_31 ?_
    refine g_tr (y := 0) rfl ?_
    refine lv_istore_n (lv' := [(2, .int 0), (3, .int 0), (0, .int 1), (1, .int x1)]) hx hb dX7_isUnder_32 rfl hl (by decide) rfl (fun ls hl => ?_)
    refine lv_iinc (v := 1) (lv' := [(3, .int 1), (2, .int 0), (0, .int 1), (1, .int x1)]) hx hb dX7_isUnder_33 hl (k := 1) rfl rfl (by decide) rfl (fun ls hl => ?_)
    refine lv_goto (tgt := 4) hx hb dX7_isUnder_36 (by decide) ?_
    refine lv_iload_n hx hb dX7_isUnder_4 rfl (lv_at hl 0 rfl) ?_
    refine lv_bipush (v := 7) hx hb dX7_isUnder_5 (by decide) ?_
    refine lv_icmp_ge (tgt := 39) hx hb dX7_isUnder_7 (by decide) (fun q => absurd q (by decide)) (fun _ => ?_)
    refine lv_iload_n hx hb dX7_isUnder_10 rfl (lv_at hl 1 rfl) ?_
    refine lv_iconst (v := 0) hx hb dX7_isUnder_11 (by decide) ?_
    refine lv_bipush (v := 6) hx hb dX7_isUnder_12 (by decide) ?_
    refine g_ki h (g_runS X h (As := [.int 0, .int 0, .int 6]) (rest := []) (c_X7_isWithin gl Z v w 0 0 6) ms_X7_isWithin ml_RX7_58 ⟨Nat.le_of_ble_eq_true rfl, Nat.le_of_ble_eq_true rfl⟩ rfl hl.1 rfl (Nat.le_of_ble_eq_true rfl) dX7_isUnder_14) (fun r14 v14 w14 H locs hp14 h => ?_)
    obtain ⟨hr14, hu14⟩ := hp14; obtain ⟨rfl, rfl⟩ := Prod.mk.inj hu14
    refine g_tr (y := 1) hr14 ?_
    refine lv_if_eq (tgt := 39) hx hb dX7_isUnder_17 (by decide) (fun q => absurd q (by decide)) (fun _ => ?_)
    refine lv_iload_n hx hb dX7_isUnder_20 rfl (lv_at hl 1 rfl) ?_
    refine lv_iload_n hx hb dX7_isUnder_21 rfl (lv_at hl 3 rfl) ?_
    refine lv_icmp_ne (tgt := 27) hx hb dX7_isUnder_22 (by decide) (fun c_22_ => ?_) (fun c_22_ => ?_)
    · skip
      refine g_st_ABOVE X h dX7_isUnder_27 ?_
      refine lv_iload_n hx hb dX7_isUnder_30 rfl (lv_at hl 1 rfl) ?_
      refine g_tab0 X h (k := 0) rfl (by decide) dX7_isUnder_31 ?_
      refine g_tr (y := (-1)) rfl ?_
      refine lv_istore_n (lv' := [(2, .int (-1)), (3, .int 1), (0, .int 1), (1, .int x1)]) hx hb dX7_isUnder_32 rfl hl (by decide) rfl (fun ls hl => ?_)
      refine lv_iinc (v := 2) (lv' := [(3, .int 2), (2, .int (-1)), (0, .int 1), (1, .int x1)]) hx hb dX7_isUnder_33 hl (k := 1) rfl rfl (by decide) rfl (fun ls hl => ?_)
      refine lv_goto (tgt := 4) hx hb dX7_isUnder_36 (by decide) ?_
      refine lv_iload_n hx hb dX7_isUnder_4 rfl (lv_at hl 0 rfl) ?_
      refine lv_bipush (v := 7) hx hb dX7_isUnder_5 (by decide) ?_
      refine lv_icmp_ge (tgt := 39) hx hb dX7_isUnder_7 (by decide) (fun q => absurd q (by decide)) (fun _ => ?_)
      refine lv_iload_n hx hb dX7_isUnder_10 rfl (lv_at hl 1 rfl) ?_
      refine lv_iconst (v := 0) hx hb dX7_isUnder_11 (by decide) ?_
      refine lv_bipush (v := 6) hx hb dX7_isUnder_12 (by decide) ?_
      refine g_ki h (g_runS X h (As := [.int (-1), .int 0, .int 6]) (rest := []) (c_X7_isWithin gl Z v w (-1) 0 6) ms_X7_isWithin ml_RX7_58 ⟨Nat.le_of_ble_eq_true rfl, Nat.le_of_ble_eq_true rfl⟩ rfl hl.1 rfl (Nat.le_of_ble_eq_true rfl) dX7_isUnder_14) (fun r14 v14 w14 H locs hp14 h => ?_)
      obtain ⟨hr14, hu14⟩ := hp14; obtain ⟨rfl, rfl⟩ := Prod.mk.inj hu14
      refine g_tr (y := 0) hr14 ?_
      refine lv_if_eq (tgt := 39) hx hb dX7_isUnder_17 (by decide) (fun _ => ?_) (fun q => absurd q (by decide))
      refine lv_iconst (v := 0) hx hb dX7_isUnder_39 (by decide) ?_
      exact g_nret X h dX7_isUnder_40 rfl (by subst hk; rcases kk7 hk6 with rfl | rfl | rfl | rfl | rfl | rfl | rfl <;> first | exact ⟨by decide, rfl⟩ | (exfalso; first | exact absurd c_22 (by decide) | exact c_22 (by decide) | exact absurd c_22_ (by decide) | exact c_22_ (by decide)))
    · skip
      refine lv_iconst (v := 1) hx hb dX7_isUnder_25 (by decide) ?_
      exact g_nret X h dX7_isUnder_26 rfl (by subst hk; rcases kk7 hk6 with rfl | rfl | rfl | rfl | rfl | rfl | rfl <;> first | exact ⟨by decide, rfl⟩ | (exfalso; first | exact absurd c_22 (by decide) | exact c_22 (by decide) | exact absurd c_22_ (by decide) | exact c_22_ (by decide)))
  · skip
    refine lv_iconst (v := 1) hx hb dX7_isUnder_25 (by decide) ?_
    exact g_nret X h dX7_isUnder_26 rfl (by subst hk; rcases kk7 hk6 with rfl | rfl | rfl | rfl | rfl | rfl | rfl <;> first | exact ⟨by decide, rfl⟩ | (exfalso; first | exact absurd c_22 (by decide) | exact c_22 (by decide)))

set_option maxRecDepth 100000 in
set_option maxHeartbeats 1000000 in
theorem c_X7_isUnder_2 (gl : Launch) (Z : PL) (v : VV) (w : WV) (x1 : Int32) (k : Nat) (hk : x1 = nI k) (hk6 : k ≤ 6) : CT gl yX7_isUnder cX7_isUnder 4 (some .boolean) 1 22 Z [.int 2, .int x1] v w (Qi Z (fun r u => r = bI (undS 2 k) ∧ (v, w) = u)) := by
  refine g_met (by decide) (Nat.le_of_ble_eq_true rfl) ?_
  intro gp ge gs gm ga gb gh gc X h ls hl
  have hx := X.1
  have hb := X.2.1
  have hl : lv_has ls 4 [(0, .int 2), (1, .int x1)] := hl
  refine lv_iload_n hx hb dX7_isUnder_0 rfl (lv_at hl 0 rfl) ?_
  refine lv_istore_n (lv' := [(2, .int 2), (0, .int 2), (1, .int x1)]) hx hb dX7_isUnder_1 rfl hl (by decide) rfl (fun ls hl => ?_)
  refine lv_iconst (v := 0) hx hb dX7_isUnder_2 (by decide) ?_
  refine lv_istore_n (lv' := [(3, .int 0), (2, .int 2), (0, .int 2), (1, .int x1)]) hx hb dX7_isUnder_3 rfl hl (by decide) rfl (fun ls hl => ?_)
  refine lv_iload_n hx hb dX7_isUnder_4 rfl (lv_at hl 0 rfl) ?_
  refine lv_bipush (v := 7) hx hb dX7_isUnder_5 (by decide) ?_
  refine lv_icmp_ge (tgt := 39) hx hb dX7_isUnder_7 (by decide) (fun q => absurd q (by decide)) (fun _ => ?_)
  refine lv_iload_n hx hb dX7_isUnder_10 rfl (lv_at hl 1 rfl) ?_
  refine lv_iconst (v := 0) hx hb dX7_isUnder_11 (by decide) ?_
  refine lv_bipush (v := 6) hx hb dX7_isUnder_12 (by decide) ?_
  refine g_ki h (g_runS X h (As := [.int 2, .int 0, .int 6]) (rest := []) (c_X7_isWithin gl Z v w 2 0 6) ms_X7_isWithin ml_RX7_58 ⟨Nat.le_of_ble_eq_true rfl, Nat.le_of_ble_eq_true rfl⟩ rfl hl.1 rfl (Nat.le_of_ble_eq_true rfl) dX7_isUnder_14) (fun r14 v14 w14 H locs hp14 h => ?_)
  obtain ⟨hr14, hu14⟩ := hp14; obtain ⟨rfl, rfl⟩ := Prod.mk.inj hu14
  refine g_tr (y := 1) hr14 ?_
  refine lv_if_eq (tgt := 39) hx hb dX7_isUnder_17 (by decide) (fun q => absurd q (by decide)) (fun _ => ?_)
  refine lv_iload_n hx hb dX7_isUnder_20 rfl (lv_at hl 1 rfl) ?_
  refine lv_iload_n hx hb dX7_isUnder_21 rfl (lv_at hl 3 rfl) ?_
  refine lv_icmp_ne (tgt := 27) hx hb dX7_isUnder_22 (by decide) (fun c_22 => ?_) (fun c_22 => ?_)
  · skip
    refine g_st_ABOVE X h dX7_isUnder_27 ?_
    refine lv_iload_n hx hb dX7_isUnder_30 rfl (lv_at hl 1 rfl) ?_
    refine g_tab0 X h (k := 2) rfl (by decide) dX7_isUnder_31 ?_
    refine g_tr (y := 0) rfl ?_
    refine lv_istore_n (lv' := [(2, .int 0), (3, .int 0), (0, .int 2), (1, .int x1)]) hx hb dX7_isUnder_32 rfl hl (by decide) rfl (fun ls hl => ?_)
    refine lv_iinc (v := 1) (lv' := [(3, .int 1), (2, .int 0), (0, .int 2), (1, .int x1)]) hx hb dX7_isUnder_33 hl (k := 1) rfl rfl (by decide) rfl (fun ls hl => ?_)
    refine lv_goto (tgt := 4) hx hb dX7_isUnder_36 (by decide) ?_
    refine lv_iload_n hx hb dX7_isUnder_4 rfl (lv_at hl 0 rfl) ?_
    refine lv_bipush (v := 7) hx hb dX7_isUnder_5 (by decide) ?_
    refine lv_icmp_ge (tgt := 39) hx hb dX7_isUnder_7 (by decide) (fun q => absurd q (by decide)) (fun _ => ?_)
    refine lv_iload_n hx hb dX7_isUnder_10 rfl (lv_at hl 1 rfl) ?_
    refine lv_iconst (v := 0) hx hb dX7_isUnder_11 (by decide) ?_
    refine lv_bipush (v := 6) hx hb dX7_isUnder_12 (by decide) ?_
    refine g_ki h (g_runS X h (As := [.int 0, .int 0, .int 6]) (rest := []) (c_X7_isWithin gl Z v w 0 0 6) ms_X7_isWithin ml_RX7_58 ⟨Nat.le_of_ble_eq_true rfl, Nat.le_of_ble_eq_true rfl⟩ rfl hl.1 rfl (Nat.le_of_ble_eq_true rfl) dX7_isUnder_14) (fun r14 v14 w14 H locs hp14 h => ?_)
    obtain ⟨hr14, hu14⟩ := hp14; obtain ⟨rfl, rfl⟩ := Prod.mk.inj hu14
    refine g_tr (y := 1) hr14 ?_
    refine lv_if_eq (tgt := 39) hx hb dX7_isUnder_17 (by decide) (fun q => absurd q (by decide)) (fun _ => ?_)
    refine lv_iload_n hx hb dX7_isUnder_20 rfl (lv_at hl 1 rfl) ?_
    refine lv_iload_n hx hb dX7_isUnder_21 rfl (lv_at hl 3 rfl) ?_
    refine lv_icmp_ne (tgt := 27) hx hb dX7_isUnder_22 (by decide) (fun c_22_ => ?_) (fun c_22_ => ?_)
    · skip
      refine g_st_ABOVE X h dX7_isUnder_27 ?_
      refine lv_iload_n hx hb dX7_isUnder_30 rfl (lv_at hl 1 rfl) ?_
      refine g_tab0 X h (k := 0) rfl (by decide) dX7_isUnder_31 ?_
      refine g_tr (y := (-1)) rfl ?_
      refine lv_istore_n (lv' := [(2, .int (-1)), (3, .int 1), (0, .int 2), (1, .int x1)]) hx hb dX7_isUnder_32 rfl hl (by decide) rfl (fun ls hl => ?_)
      refine lv_iinc (v := 2) (lv' := [(3, .int 2), (2, .int (-1)), (0, .int 2), (1, .int x1)]) hx hb dX7_isUnder_33 hl (k := 1) rfl rfl (by decide) rfl (fun ls hl => ?_)
      refine lv_goto (tgt := 4) hx hb dX7_isUnder_36 (by decide) ?_
      refine lv_iload_n hx hb dX7_isUnder_4 rfl (lv_at hl 0 rfl) ?_
      refine lv_bipush (v := 7) hx hb dX7_isUnder_5 (by decide) ?_
      refine lv_icmp_ge (tgt := 39) hx hb dX7_isUnder_7 (by decide) (fun q => absurd q (by decide)) (fun _ => ?_)
      refine lv_iload_n hx hb dX7_isUnder_10 rfl (lv_at hl 1 rfl) ?_
      refine lv_iconst (v := 0) hx hb dX7_isUnder_11 (by decide) ?_
      refine lv_bipush (v := 6) hx hb dX7_isUnder_12 (by decide) ?_
      refine g_ki h (g_runS X h (As := [.int (-1), .int 0, .int 6]) (rest := []) (c_X7_isWithin gl Z v w (-1) 0 6) ms_X7_isWithin ml_RX7_58 ⟨Nat.le_of_ble_eq_true rfl, Nat.le_of_ble_eq_true rfl⟩ rfl hl.1 rfl (Nat.le_of_ble_eq_true rfl) dX7_isUnder_14) (fun r14 v14 w14 H locs hp14 h => ?_)
      obtain ⟨hr14, hu14⟩ := hp14; obtain ⟨rfl, rfl⟩ := Prod.mk.inj hu14
      refine g_tr (y := 0) hr14 ?_
      refine lv_if_eq (tgt := 39) hx hb dX7_isUnder_17 (by decide) (fun _ => ?_) (fun q => absurd q (by decide))
      refine lv_iconst (v := 0) hx hb dX7_isUnder_39 (by decide) ?_
      exact g_nret X h dX7_isUnder_40 rfl (by subst hk; rcases kk7 hk6 with rfl | rfl | rfl | rfl | rfl | rfl | rfl <;> first | exact ⟨by decide, rfl⟩ | (exfalso; first | exact absurd c_22 (by decide) | exact c_22 (by decide) | exact absurd c_22_ (by decide) | exact c_22_ (by decide)))
    · skip
      refine lv_iconst (v := 1) hx hb dX7_isUnder_25 (by decide) ?_
      exact g_nret X h dX7_isUnder_26 rfl (by subst hk; rcases kk7 hk6 with rfl | rfl | rfl | rfl | rfl | rfl | rfl <;> first | exact ⟨by decide, rfl⟩ | (exfalso; first | exact absurd c_22 (by decide) | exact c_22 (by decide) | exact absurd c_22_ (by decide) | exact c_22_ (by decide)))
  · skip
    refine lv_iconst (v := 1) hx hb dX7_isUnder_25 (by decide) ?_
    exact g_nret X h dX7_isUnder_26 rfl (by subst hk; rcases kk7 hk6 with rfl | rfl | rfl | rfl | rfl | rfl | rfl <;> first | exact ⟨by decide, rfl⟩ | (exfalso; first | exact absurd c_22 (by decide) | exact c_22 (by decide)))

set_option maxRecDepth 100000 in
set_option maxHeartbeats 1000000 in
theorem c_X7_isUnder_3 (gl : Launch) (Z : PL) (v : VV) (w : WV) (x1 : Int32) (k : Nat) (hk : x1 = nI k) (hk6 : k ≤ 6) : CT gl yX7_isUnder cX7_isUnder 4 (some .boolean) 1 22 Z [.int 3, .int x1] v w (Qi Z (fun r u => r = bI (undS 3 k) ∧ (v, w) = u)) := by
  refine g_met (by decide) (Nat.le_of_ble_eq_true rfl) ?_
  intro gp ge gs gm ga gb gh gc X h ls hl
  have hx := X.1
  have hb := X.2.1
  have hl : lv_has ls 4 [(0, .int 3), (1, .int x1)] := hl
  refine lv_iload_n hx hb dX7_isUnder_0 rfl (lv_at hl 0 rfl) ?_
  refine lv_istore_n (lv' := [(2, .int 3), (0, .int 3), (1, .int x1)]) hx hb dX7_isUnder_1 rfl hl (by decide) rfl (fun ls hl => ?_)
  refine lv_iconst (v := 0) hx hb dX7_isUnder_2 (by decide) ?_
  refine lv_istore_n (lv' := [(3, .int 0), (2, .int 3), (0, .int 3), (1, .int x1)]) hx hb dX7_isUnder_3 rfl hl (by decide) rfl (fun ls hl => ?_)
  refine lv_iload_n hx hb dX7_isUnder_4 rfl (lv_at hl 0 rfl) ?_
  refine lv_bipush (v := 7) hx hb dX7_isUnder_5 (by decide) ?_
  refine lv_icmp_ge (tgt := 39) hx hb dX7_isUnder_7 (by decide) (fun q => absurd q (by decide)) (fun _ => ?_)
  refine lv_iload_n hx hb dX7_isUnder_10 rfl (lv_at hl 1 rfl) ?_
  refine lv_iconst (v := 0) hx hb dX7_isUnder_11 (by decide) ?_
  refine lv_bipush (v := 6) hx hb dX7_isUnder_12 (by decide) ?_
  refine g_ki h (g_runS X h (As := [.int 3, .int 0, .int 6]) (rest := []) (c_X7_isWithin gl Z v w 3 0 6) ms_X7_isWithin ml_RX7_58 ⟨Nat.le_of_ble_eq_true rfl, Nat.le_of_ble_eq_true rfl⟩ rfl hl.1 rfl (Nat.le_of_ble_eq_true rfl) dX7_isUnder_14) (fun r14 v14 w14 H locs hp14 h => ?_)
  obtain ⟨hr14, hu14⟩ := hp14; obtain ⟨rfl, rfl⟩ := Prod.mk.inj hu14
  refine g_tr (y := 1) hr14 ?_
  refine lv_if_eq (tgt := 39) hx hb dX7_isUnder_17 (by decide) (fun q => absurd q (by decide)) (fun _ => ?_)
  refine lv_iload_n hx hb dX7_isUnder_20 rfl (lv_at hl 1 rfl) ?_
  refine lv_iload_n hx hb dX7_isUnder_21 rfl (lv_at hl 3 rfl) ?_
  refine lv_icmp_ne (tgt := 27) hx hb dX7_isUnder_22 (by decide) (fun c_22 => ?_) (fun c_22 => ?_)
  · skip
    refine g_st_ABOVE X h dX7_isUnder_27 ?_
    refine lv_iload_n hx hb dX7_isUnder_30 rfl (lv_at hl 1 rfl) ?_
    refine g_tab0 X h (k := 3) rfl (by decide) dX7_isUnder_31 ?_
    refine g_tr (y := 0) rfl ?_
    refine lv_istore_n (lv' := [(2, .int 0), (3, .int 0), (0, .int 3), (1, .int x1)]) hx hb dX7_isUnder_32 rfl hl (by decide) rfl (fun ls hl => ?_)
    refine lv_iinc (v := 1) (lv' := [(3, .int 1), (2, .int 0), (0, .int 3), (1, .int x1)]) hx hb dX7_isUnder_33 hl (k := 1) rfl rfl (by decide) rfl (fun ls hl => ?_)
    refine lv_goto (tgt := 4) hx hb dX7_isUnder_36 (by decide) ?_
    refine lv_iload_n hx hb dX7_isUnder_4 rfl (lv_at hl 0 rfl) ?_
    refine lv_bipush (v := 7) hx hb dX7_isUnder_5 (by decide) ?_
    refine lv_icmp_ge (tgt := 39) hx hb dX7_isUnder_7 (by decide) (fun q => absurd q (by decide)) (fun _ => ?_)
    refine lv_iload_n hx hb dX7_isUnder_10 rfl (lv_at hl 1 rfl) ?_
    refine lv_iconst (v := 0) hx hb dX7_isUnder_11 (by decide) ?_
    refine lv_bipush (v := 6) hx hb dX7_isUnder_12 (by decide) ?_
    refine g_ki h (g_runS X h (As := [.int 0, .int 0, .int 6]) (rest := []) (c_X7_isWithin gl Z v w 0 0 6) ms_X7_isWithin ml_RX7_58 ⟨Nat.le_of_ble_eq_true rfl, Nat.le_of_ble_eq_true rfl⟩ rfl hl.1 rfl (Nat.le_of_ble_eq_true rfl) dX7_isUnder_14) (fun r14 v14 w14 H locs hp14 h => ?_)
    obtain ⟨hr14, hu14⟩ := hp14; obtain ⟨rfl, rfl⟩ := Prod.mk.inj hu14
    refine g_tr (y := 1) hr14 ?_
    refine lv_if_eq (tgt := 39) hx hb dX7_isUnder_17 (by decide) (fun q => absurd q (by decide)) (fun _ => ?_)
    refine lv_iload_n hx hb dX7_isUnder_20 rfl (lv_at hl 1 rfl) ?_
    refine lv_iload_n hx hb dX7_isUnder_21 rfl (lv_at hl 3 rfl) ?_
    refine lv_icmp_ne (tgt := 27) hx hb dX7_isUnder_22 (by decide) (fun c_22_ => ?_) (fun c_22_ => ?_)
    · skip
      refine g_st_ABOVE X h dX7_isUnder_27 ?_
      refine lv_iload_n hx hb dX7_isUnder_30 rfl (lv_at hl 1 rfl) ?_
      refine g_tab0 X h (k := 0) rfl (by decide) dX7_isUnder_31 ?_
      refine g_tr (y := (-1)) rfl ?_
      refine lv_istore_n (lv' := [(2, .int (-1)), (3, .int 1), (0, .int 3), (1, .int x1)]) hx hb dX7_isUnder_32 rfl hl (by decide) rfl (fun ls hl => ?_)
      refine lv_iinc (v := 2) (lv' := [(3, .int 2), (2, .int (-1)), (0, .int 3), (1, .int x1)]) hx hb dX7_isUnder_33 hl (k := 1) rfl rfl (by decide) rfl (fun ls hl => ?_)
      refine lv_goto (tgt := 4) hx hb dX7_isUnder_36 (by decide) ?_
      refine lv_iload_n hx hb dX7_isUnder_4 rfl (lv_at hl 0 rfl) ?_
      refine lv_bipush (v := 7) hx hb dX7_isUnder_5 (by decide) ?_
      refine lv_icmp_ge (tgt := 39) hx hb dX7_isUnder_7 (by decide) (fun q => absurd q (by decide)) (fun _ => ?_)
      refine lv_iload_n hx hb dX7_isUnder_10 rfl (lv_at hl 1 rfl) ?_
      refine lv_iconst (v := 0) hx hb dX7_isUnder_11 (by decide) ?_
      refine lv_bipush (v := 6) hx hb dX7_isUnder_12 (by decide) ?_
      refine g_ki h (g_runS X h (As := [.int (-1), .int 0, .int 6]) (rest := []) (c_X7_isWithin gl Z v w (-1) 0 6) ms_X7_isWithin ml_RX7_58 ⟨Nat.le_of_ble_eq_true rfl, Nat.le_of_ble_eq_true rfl⟩ rfl hl.1 rfl (Nat.le_of_ble_eq_true rfl) dX7_isUnder_14) (fun r14 v14 w14 H locs hp14 h => ?_)
      obtain ⟨hr14, hu14⟩ := hp14; obtain ⟨rfl, rfl⟩ := Prod.mk.inj hu14
      refine g_tr (y := 0) hr14 ?_
      refine lv_if_eq (tgt := 39) hx hb dX7_isUnder_17 (by decide) (fun _ => ?_) (fun q => absurd q (by decide))
      refine lv_iconst (v := 0) hx hb dX7_isUnder_39 (by decide) ?_
      exact g_nret X h dX7_isUnder_40 rfl (by subst hk; rcases kk7 hk6 with rfl | rfl | rfl | rfl | rfl | rfl | rfl <;> first | exact ⟨by decide, rfl⟩ | (exfalso; first | exact absurd c_22 (by decide) | exact c_22 (by decide) | exact absurd c_22_ (by decide) | exact c_22_ (by decide)))
    · skip
      refine lv_iconst (v := 1) hx hb dX7_isUnder_25 (by decide) ?_
      exact g_nret X h dX7_isUnder_26 rfl (by subst hk; rcases kk7 hk6 with rfl | rfl | rfl | rfl | rfl | rfl | rfl <;> first | exact ⟨by decide, rfl⟩ | (exfalso; first | exact absurd c_22 (by decide) | exact c_22 (by decide) | exact absurd c_22_ (by decide) | exact c_22_ (by decide)))
  · skip
    refine lv_iconst (v := 1) hx hb dX7_isUnder_25 (by decide) ?_
    exact g_nret X h dX7_isUnder_26 rfl (by subst hk; rcases kk7 hk6 with rfl | rfl | rfl | rfl | rfl | rfl | rfl <;> first | exact ⟨by decide, rfl⟩ | (exfalso; first | exact absurd c_22 (by decide) | exact c_22 (by decide)))

set_option maxRecDepth 100000 in
set_option maxHeartbeats 1000000 in
theorem c_X7_isUnder_4 (gl : Launch) (Z : PL) (v : VV) (w : WV) (x1 : Int32) (k : Nat) (hk : x1 = nI k) (hk6 : k ≤ 6) : CT gl yX7_isUnder cX7_isUnder 4 (some .boolean) 1 22 Z [.int 4, .int x1] v w (Qi Z (fun r u => r = bI (undS 4 k) ∧ (v, w) = u)) := by
  refine g_met (by decide) (Nat.le_of_ble_eq_true rfl) ?_
  intro gp ge gs gm ga gb gh gc X h ls hl
  have hx := X.1
  have hb := X.2.1
  have hl : lv_has ls 4 [(0, .int 4), (1, .int x1)] := hl
  refine lv_iload_n hx hb dX7_isUnder_0 rfl (lv_at hl 0 rfl) ?_
  refine lv_istore_n (lv' := [(2, .int 4), (0, .int 4), (1, .int x1)]) hx hb dX7_isUnder_1 rfl hl (by decide) rfl (fun ls hl => ?_)
  refine lv_iconst (v := 0) hx hb dX7_isUnder_2 (by decide) ?_
  refine lv_istore_n (lv' := [(3, .int 0), (2, .int 4), (0, .int 4), (1, .int x1)]) hx hb dX7_isUnder_3 rfl hl (by decide) rfl (fun ls hl => ?_)
  refine lv_iload_n hx hb dX7_isUnder_4 rfl (lv_at hl 0 rfl) ?_
  refine lv_bipush (v := 7) hx hb dX7_isUnder_5 (by decide) ?_
  refine lv_icmp_ge (tgt := 39) hx hb dX7_isUnder_7 (by decide) (fun q => absurd q (by decide)) (fun _ => ?_)
  refine lv_iload_n hx hb dX7_isUnder_10 rfl (lv_at hl 1 rfl) ?_
  refine lv_iconst (v := 0) hx hb dX7_isUnder_11 (by decide) ?_
  refine lv_bipush (v := 6) hx hb dX7_isUnder_12 (by decide) ?_
  refine g_ki h (g_runS X h (As := [.int 4, .int 0, .int 6]) (rest := []) (c_X7_isWithin gl Z v w 4 0 6) ms_X7_isWithin ml_RX7_58 ⟨Nat.le_of_ble_eq_true rfl, Nat.le_of_ble_eq_true rfl⟩ rfl hl.1 rfl (Nat.le_of_ble_eq_true rfl) dX7_isUnder_14) (fun r14 v14 w14 H locs hp14 h => ?_)
  obtain ⟨hr14, hu14⟩ := hp14; obtain ⟨rfl, rfl⟩ := Prod.mk.inj hu14
  refine g_tr (y := 1) hr14 ?_
  refine lv_if_eq (tgt := 39) hx hb dX7_isUnder_17 (by decide) (fun q => absurd q (by decide)) (fun _ => ?_)
  refine lv_iload_n hx hb dX7_isUnder_20 rfl (lv_at hl 1 rfl) ?_
  refine lv_iload_n hx hb dX7_isUnder_21 rfl (lv_at hl 3 rfl) ?_
  refine lv_icmp_ne (tgt := 27) hx hb dX7_isUnder_22 (by decide) (fun c_22 => ?_) (fun c_22 => ?_)
  · skip
    refine g_st_ABOVE X h dX7_isUnder_27 ?_
    refine lv_iload_n hx hb dX7_isUnder_30 rfl (lv_at hl 1 rfl) ?_
    refine g_tab0 X h (k := 4) rfl (by decide) dX7_isUnder_31 ?_
    refine g_tr (y := 1) rfl ?_
    refine lv_istore_n (lv' := [(2, .int 1), (3, .int 0), (0, .int 4), (1, .int x1)]) hx hb dX7_isUnder_32 rfl hl (by decide) rfl (fun ls hl => ?_)
    refine lv_iinc (v := 1) (lv' := [(3, .int 1), (2, .int 1), (0, .int 4), (1, .int x1)]) hx hb dX7_isUnder_33 hl (k := 1) rfl rfl (by decide) rfl (fun ls hl => ?_)
    refine lv_goto (tgt := 4) hx hb dX7_isUnder_36 (by decide) ?_
    refine lv_iload_n hx hb dX7_isUnder_4 rfl (lv_at hl 0 rfl) ?_
    refine lv_bipush (v := 7) hx hb dX7_isUnder_5 (by decide) ?_
    refine lv_icmp_ge (tgt := 39) hx hb dX7_isUnder_7 (by decide) (fun q => absurd q (by decide)) (fun _ => ?_)
    refine lv_iload_n hx hb dX7_isUnder_10 rfl (lv_at hl 1 rfl) ?_
    refine lv_iconst (v := 0) hx hb dX7_isUnder_11 (by decide) ?_
    refine lv_bipush (v := 6) hx hb dX7_isUnder_12 (by decide) ?_
    refine g_ki h (g_runS X h (As := [.int 1, .int 0, .int 6]) (rest := []) (c_X7_isWithin gl Z v w 1 0 6) ms_X7_isWithin ml_RX7_58 ⟨Nat.le_of_ble_eq_true rfl, Nat.le_of_ble_eq_true rfl⟩ rfl hl.1 rfl (Nat.le_of_ble_eq_true rfl) dX7_isUnder_14) (fun r14 v14 w14 H locs hp14 h => ?_)
    obtain ⟨hr14, hu14⟩ := hp14; obtain ⟨rfl, rfl⟩ := Prod.mk.inj hu14
    refine g_tr (y := 1) hr14 ?_
    refine lv_if_eq (tgt := 39) hx hb dX7_isUnder_17 (by decide) (fun q => absurd q (by decide)) (fun _ => ?_)
    refine lv_iload_n hx hb dX7_isUnder_20 rfl (lv_at hl 1 rfl) ?_
    refine lv_iload_n hx hb dX7_isUnder_21 rfl (lv_at hl 3 rfl) ?_
    refine lv_icmp_ne (tgt := 27) hx hb dX7_isUnder_22 (by decide) (fun c_22_ => ?_) (fun c_22_ => ?_)
    · skip
      refine g_st_ABOVE X h dX7_isUnder_27 ?_
      refine lv_iload_n hx hb dX7_isUnder_30 rfl (lv_at hl 1 rfl) ?_
      refine g_tab0 X h (k := 1) rfl (by decide) dX7_isUnder_31 ?_
      refine g_tr (y := 0) rfl ?_
      refine lv_istore_n (lv' := [(2, .int 0), (3, .int 1), (0, .int 4), (1, .int x1)]) hx hb dX7_isUnder_32 rfl hl (by decide) rfl (fun ls hl => ?_)
      refine lv_iinc (v := 2) (lv' := [(3, .int 2), (2, .int 0), (0, .int 4), (1, .int x1)]) hx hb dX7_isUnder_33 hl (k := 1) rfl rfl (by decide) rfl (fun ls hl => ?_)
      refine lv_goto (tgt := 4) hx hb dX7_isUnder_36 (by decide) ?_
      refine lv_iload_n hx hb dX7_isUnder_4 rfl (lv_at hl 0 rfl) ?_
      refine lv_bipush (v := 7) hx hb dX7_isUnder_5 (by decide) ?_
      refine lv_icmp_ge (tgt := 39) hx hb dX7_isUnder_7 (by decide) (fun q => absurd q (by decide)) (fun _ => ?_)
      refine lv_iload_n hx hb dX7_isUnder_10 rfl (lv_at hl 1 rfl) ?_
      refine lv_iconst (v := 0) hx hb dX7_isUnder_11 (by decide) ?_
      refine lv_bipush (v := 6) hx hb dX7_isUnder_12 (by decide) ?_
      refine g_ki h (g_runS X h (As := [.int 0, .int 0, .int 6]) (rest := []) (c_X7_isWithin gl Z v w 0 0 6) ms_X7_isWithin ml_RX7_58 ⟨Nat.le_of_ble_eq_true rfl, Nat.le_of_ble_eq_true rfl⟩ rfl hl.1 rfl (Nat.le_of_ble_eq_true rfl) dX7_isUnder_14) (fun r14 v14 w14 H locs hp14 h => ?_)
      obtain ⟨hr14, hu14⟩ := hp14; obtain ⟨rfl, rfl⟩ := Prod.mk.inj hu14
      refine g_tr (y := 1) hr14 ?_
      refine lv_if_eq (tgt := 39) hx hb dX7_isUnder_17 (by decide) (fun q => absurd q (by decide)) (fun _ => ?_)
      refine lv_iload_n hx hb dX7_isUnder_20 rfl (lv_at hl 1 rfl) ?_
      refine lv_iload_n hx hb dX7_isUnder_21 rfl (lv_at hl 3 rfl) ?_
      refine lv_icmp_ne (tgt := 27) hx hb dX7_isUnder_22 (by decide) (fun c_22__ => ?_) (fun c_22__ => ?_)
      · skip
        refine g_st_ABOVE X h dX7_isUnder_27 ?_
        refine lv_iload_n hx hb dX7_isUnder_30 rfl (lv_at hl 1 rfl) ?_
        refine g_tab0 X h (k := 0) rfl (by decide) dX7_isUnder_31 ?_
        refine g_tr (y := (-1)) rfl ?_
        refine lv_istore_n (lv' := [(2, .int (-1)), (3, .int 2), (0, .int 4), (1, .int x1)]) hx hb dX7_isUnder_32 rfl hl (by decide) rfl (fun ls hl => ?_)
        refine lv_iinc (v := 3) (lv' := [(3, .int 3), (2, .int (-1)), (0, .int 4), (1, .int x1)]) hx hb dX7_isUnder_33 hl (k := 1) rfl rfl (by decide) rfl (fun ls hl => ?_)
        refine lv_goto (tgt := 4) hx hb dX7_isUnder_36 (by decide) ?_
        refine lv_iload_n hx hb dX7_isUnder_4 rfl (lv_at hl 0 rfl) ?_
        refine lv_bipush (v := 7) hx hb dX7_isUnder_5 (by decide) ?_
        refine lv_icmp_ge (tgt := 39) hx hb dX7_isUnder_7 (by decide) (fun q => absurd q (by decide)) (fun _ => ?_)
        refine lv_iload_n hx hb dX7_isUnder_10 rfl (lv_at hl 1 rfl) ?_
        refine lv_iconst (v := 0) hx hb dX7_isUnder_11 (by decide) ?_
        refine lv_bipush (v := 6) hx hb dX7_isUnder_12 (by decide) ?_
        refine g_ki h (g_runS X h (As := [.int (-1), .int 0, .int 6]) (rest := []) (c_X7_isWithin gl Z v w (-1) 0 6) ms_X7_isWithin ml_RX7_58 ⟨Nat.le_of_ble_eq_true rfl, Nat.le_of_ble_eq_true rfl⟩ rfl hl.1 rfl (Nat.le_of_ble_eq_true rfl) dX7_isUnder_14) (fun r14 v14 w14 H locs hp14 h => ?_)
        obtain ⟨hr14, hu14⟩ := hp14; obtain ⟨rfl, rfl⟩ := Prod.mk.inj hu14
        refine g_tr (y := 0) hr14 ?_
        refine lv_if_eq (tgt := 39) hx hb dX7_isUnder_17 (by decide) (fun _ => ?_) (fun q => absurd q (by decide))
        refine lv_iconst (v := 0) hx hb dX7_isUnder_39 (by decide) ?_
        exact g_nret X h dX7_isUnder_40 rfl (by subst hk; rcases kk7 hk6 with rfl | rfl | rfl | rfl | rfl | rfl | rfl <;> first | exact ⟨by decide, rfl⟩ | (exfalso; first | exact absurd c_22 (by decide) | exact c_22 (by decide) | exact absurd c_22_ (by decide) | exact c_22_ (by decide) | exact absurd c_22__ (by decide) | exact c_22__ (by decide)))
      · skip
        refine lv_iconst (v := 1) hx hb dX7_isUnder_25 (by decide) ?_
        exact g_nret X h dX7_isUnder_26 rfl (by subst hk; rcases kk7 hk6 with rfl | rfl | rfl | rfl | rfl | rfl | rfl <;> first | exact ⟨by decide, rfl⟩ | (exfalso; first | exact absurd c_22 (by decide) | exact c_22 (by decide) | exact absurd c_22_ (by decide) | exact c_22_ (by decide) | exact absurd c_22__ (by decide) | exact c_22__ (by decide)))
    · skip
      refine lv_iconst (v := 1) hx hb dX7_isUnder_25 (by decide) ?_
      exact g_nret X h dX7_isUnder_26 rfl (by subst hk; rcases kk7 hk6 with rfl | rfl | rfl | rfl | rfl | rfl | rfl <;> first | exact ⟨by decide, rfl⟩ | (exfalso; first | exact absurd c_22 (by decide) | exact c_22 (by decide) | exact absurd c_22_ (by decide) | exact c_22_ (by decide)))
  · skip
    refine lv_iconst (v := 1) hx hb dX7_isUnder_25 (by decide) ?_
    exact g_nret X h dX7_isUnder_26 rfl (by subst hk; rcases kk7 hk6 with rfl | rfl | rfl | rfl | rfl | rfl | rfl <;> first | exact ⟨by decide, rfl⟩ | (exfalso; first | exact absurd c_22 (by decide) | exact c_22 (by decide)))

set_option maxRecDepth 100000 in
set_option maxHeartbeats 1000000 in
theorem c_X7_isUnder_5 (gl : Launch) (Z : PL) (v : VV) (w : WV) (x1 : Int32) (k : Nat) (hk : x1 = nI k) (hk6 : k ≤ 6) : CT gl yX7_isUnder cX7_isUnder 4 (some .boolean) 1 22 Z [.int 5, .int x1] v w (Qi Z (fun r u => r = bI (undS 5 k) ∧ (v, w) = u)) := by
  refine g_met (by decide) (Nat.le_of_ble_eq_true rfl) ?_
  intro gp ge gs gm ga gb gh gc X h ls hl
  have hx := X.1
  have hb := X.2.1
  have hl : lv_has ls 4 [(0, .int 5), (1, .int x1)] := hl
  refine lv_iload_n hx hb dX7_isUnder_0 rfl (lv_at hl 0 rfl) ?_
  refine lv_istore_n (lv' := [(2, .int 5), (0, .int 5), (1, .int x1)]) hx hb dX7_isUnder_1 rfl hl (by decide) rfl (fun ls hl => ?_)
  refine lv_iconst (v := 0) hx hb dX7_isUnder_2 (by decide) ?_
  refine lv_istore_n (lv' := [(3, .int 0), (2, .int 5), (0, .int 5), (1, .int x1)]) hx hb dX7_isUnder_3 rfl hl (by decide) rfl (fun ls hl => ?_)
  refine lv_iload_n hx hb dX7_isUnder_4 rfl (lv_at hl 0 rfl) ?_
  refine lv_bipush (v := 7) hx hb dX7_isUnder_5 (by decide) ?_
  refine lv_icmp_ge (tgt := 39) hx hb dX7_isUnder_7 (by decide) (fun q => absurd q (by decide)) (fun _ => ?_)
  refine lv_iload_n hx hb dX7_isUnder_10 rfl (lv_at hl 1 rfl) ?_
  refine lv_iconst (v := 0) hx hb dX7_isUnder_11 (by decide) ?_
  refine lv_bipush (v := 6) hx hb dX7_isUnder_12 (by decide) ?_
  refine g_ki h (g_runS X h (As := [.int 5, .int 0, .int 6]) (rest := []) (c_X7_isWithin gl Z v w 5 0 6) ms_X7_isWithin ml_RX7_58 ⟨Nat.le_of_ble_eq_true rfl, Nat.le_of_ble_eq_true rfl⟩ rfl hl.1 rfl (Nat.le_of_ble_eq_true rfl) dX7_isUnder_14) (fun r14 v14 w14 H locs hp14 h => ?_)
  obtain ⟨hr14, hu14⟩ := hp14; obtain ⟨rfl, rfl⟩ := Prod.mk.inj hu14
  refine g_tr (y := 1) hr14 ?_
  refine lv_if_eq (tgt := 39) hx hb dX7_isUnder_17 (by decide) (fun q => absurd q (by decide)) (fun _ => ?_)
  refine lv_iload_n hx hb dX7_isUnder_20 rfl (lv_at hl 1 rfl) ?_
  refine lv_iload_n hx hb dX7_isUnder_21 rfl (lv_at hl 3 rfl) ?_
  refine lv_icmp_ne (tgt := 27) hx hb dX7_isUnder_22 (by decide) (fun c_22 => ?_) (fun c_22 => ?_)
  · skip
    refine g_st_ABOVE X h dX7_isUnder_27 ?_
    refine lv_iload_n hx hb dX7_isUnder_30 rfl (lv_at hl 1 rfl) ?_
    refine g_tab0 X h (k := 5) rfl (by decide) dX7_isUnder_31 ?_
    refine g_tr (y := 2) rfl ?_
    refine lv_istore_n (lv' := [(2, .int 2), (3, .int 0), (0, .int 5), (1, .int x1)]) hx hb dX7_isUnder_32 rfl hl (by decide) rfl (fun ls hl => ?_)
    refine lv_iinc (v := 1) (lv' := [(3, .int 1), (2, .int 2), (0, .int 5), (1, .int x1)]) hx hb dX7_isUnder_33 hl (k := 1) rfl rfl (by decide) rfl (fun ls hl => ?_)
    refine lv_goto (tgt := 4) hx hb dX7_isUnder_36 (by decide) ?_
    refine lv_iload_n hx hb dX7_isUnder_4 rfl (lv_at hl 0 rfl) ?_
    refine lv_bipush (v := 7) hx hb dX7_isUnder_5 (by decide) ?_
    refine lv_icmp_ge (tgt := 39) hx hb dX7_isUnder_7 (by decide) (fun q => absurd q (by decide)) (fun _ => ?_)
    refine lv_iload_n hx hb dX7_isUnder_10 rfl (lv_at hl 1 rfl) ?_
    refine lv_iconst (v := 0) hx hb dX7_isUnder_11 (by decide) ?_
    refine lv_bipush (v := 6) hx hb dX7_isUnder_12 (by decide) ?_
    refine g_ki h (g_runS X h (As := [.int 2, .int 0, .int 6]) (rest := []) (c_X7_isWithin gl Z v w 2 0 6) ms_X7_isWithin ml_RX7_58 ⟨Nat.le_of_ble_eq_true rfl, Nat.le_of_ble_eq_true rfl⟩ rfl hl.1 rfl (Nat.le_of_ble_eq_true rfl) dX7_isUnder_14) (fun r14 v14 w14 H locs hp14 h => ?_)
    obtain ⟨hr14, hu14⟩ := hp14; obtain ⟨rfl, rfl⟩ := Prod.mk.inj hu14
    refine g_tr (y := 1) hr14 ?_
    refine lv_if_eq (tgt := 39) hx hb dX7_isUnder_17 (by decide) (fun q => absurd q (by decide)) (fun _ => ?_)
    refine lv_iload_n hx hb dX7_isUnder_20 rfl (lv_at hl 1 rfl) ?_
    refine lv_iload_n hx hb dX7_isUnder_21 rfl (lv_at hl 3 rfl) ?_
    refine lv_icmp_ne (tgt := 27) hx hb dX7_isUnder_22 (by decide) (fun c_22_ => ?_) (fun c_22_ => ?_)
    · skip
      refine g_st_ABOVE X h dX7_isUnder_27 ?_
      refine lv_iload_n hx hb dX7_isUnder_30 rfl (lv_at hl 1 rfl) ?_
      refine g_tab0 X h (k := 2) rfl (by decide) dX7_isUnder_31 ?_
      refine g_tr (y := 0) rfl ?_
      refine lv_istore_n (lv' := [(2, .int 0), (3, .int 1), (0, .int 5), (1, .int x1)]) hx hb dX7_isUnder_32 rfl hl (by decide) rfl (fun ls hl => ?_)
      refine lv_iinc (v := 2) (lv' := [(3, .int 2), (2, .int 0), (0, .int 5), (1, .int x1)]) hx hb dX7_isUnder_33 hl (k := 1) rfl rfl (by decide) rfl (fun ls hl => ?_)
      refine lv_goto (tgt := 4) hx hb dX7_isUnder_36 (by decide) ?_
      refine lv_iload_n hx hb dX7_isUnder_4 rfl (lv_at hl 0 rfl) ?_
      refine lv_bipush (v := 7) hx hb dX7_isUnder_5 (by decide) ?_
      refine lv_icmp_ge (tgt := 39) hx hb dX7_isUnder_7 (by decide) (fun q => absurd q (by decide)) (fun _ => ?_)
      refine lv_iload_n hx hb dX7_isUnder_10 rfl (lv_at hl 1 rfl) ?_
      refine lv_iconst (v := 0) hx hb dX7_isUnder_11 (by decide) ?_
      refine lv_bipush (v := 6) hx hb dX7_isUnder_12 (by decide) ?_
      refine g_ki h (g_runS X h (As := [.int 0, .int 0, .int 6]) (rest := []) (c_X7_isWithin gl Z v w 0 0 6) ms_X7_isWithin ml_RX7_58 ⟨Nat.le_of_ble_eq_true rfl, Nat.le_of_ble_eq_true rfl⟩ rfl hl.1 rfl (Nat.le_of_ble_eq_true rfl) dX7_isUnder_14) (fun r14 v14 w14 H locs hp14 h => ?_)
      obtain ⟨hr14, hu14⟩ := hp14; obtain ⟨rfl, rfl⟩ := Prod.mk.inj hu14
      refine g_tr (y := 1) hr14 ?_
      refine lv_if_eq (tgt := 39) hx hb dX7_isUnder_17 (by decide) (fun q => absurd q (by decide)) (fun _ => ?_)
      refine lv_iload_n hx hb dX7_isUnder_20 rfl (lv_at hl 1 rfl) ?_
      refine lv_iload_n hx hb dX7_isUnder_21 rfl (lv_at hl 3 rfl) ?_
      refine lv_icmp_ne (tgt := 27) hx hb dX7_isUnder_22 (by decide) (fun c_22__ => ?_) (fun c_22__ => ?_)
      · skip
        refine g_st_ABOVE X h dX7_isUnder_27 ?_
        refine lv_iload_n hx hb dX7_isUnder_30 rfl (lv_at hl 1 rfl) ?_
        refine g_tab0 X h (k := 0) rfl (by decide) dX7_isUnder_31 ?_
        refine g_tr (y := (-1)) rfl ?_
        refine lv_istore_n (lv' := [(2, .int (-1)), (3, .int 2), (0, .int 5), (1, .int x1)]) hx hb dX7_isUnder_32 rfl hl (by decide) rfl (fun ls hl => ?_)
        refine lv_iinc (v := 3) (lv' := [(3, .int 3), (2, .int (-1)), (0, .int 5), (1, .int x1)]) hx hb dX7_isUnder_33 hl (k := 1) rfl rfl (by decide) rfl (fun ls hl => ?_)
        refine lv_goto (tgt := 4) hx hb dX7_isUnder_36 (by decide) ?_
        refine lv_iload_n hx hb dX7_isUnder_4 rfl (lv_at hl 0 rfl) ?_
        refine lv_bipush (v := 7) hx hb dX7_isUnder_5 (by decide) ?_
        refine lv_icmp_ge (tgt := 39) hx hb dX7_isUnder_7 (by decide) (fun q => absurd q (by decide)) (fun _ => ?_)
        refine lv_iload_n hx hb dX7_isUnder_10 rfl (lv_at hl 1 rfl) ?_
        refine lv_iconst (v := 0) hx hb dX7_isUnder_11 (by decide) ?_
        refine lv_bipush (v := 6) hx hb dX7_isUnder_12 (by decide) ?_
        refine g_ki h (g_runS X h (As := [.int (-1), .int 0, .int 6]) (rest := []) (c_X7_isWithin gl Z v w (-1) 0 6) ms_X7_isWithin ml_RX7_58 ⟨Nat.le_of_ble_eq_true rfl, Nat.le_of_ble_eq_true rfl⟩ rfl hl.1 rfl (Nat.le_of_ble_eq_true rfl) dX7_isUnder_14) (fun r14 v14 w14 H locs hp14 h => ?_)
        obtain ⟨hr14, hu14⟩ := hp14; obtain ⟨rfl, rfl⟩ := Prod.mk.inj hu14
        refine g_tr (y := 0) hr14 ?_
        refine lv_if_eq (tgt := 39) hx hb dX7_isUnder_17 (by decide) (fun _ => ?_) (fun q => absurd q (by decide))
        refine lv_iconst (v := 0) hx hb dX7_isUnder_39 (by decide) ?_
        exact g_nret X h dX7_isUnder_40 rfl (by subst hk; rcases kk7 hk6 with rfl | rfl | rfl | rfl | rfl | rfl | rfl <;> first | exact ⟨by decide, rfl⟩ | (exfalso; first | exact absurd c_22 (by decide) | exact c_22 (by decide) | exact absurd c_22_ (by decide) | exact c_22_ (by decide) | exact absurd c_22__ (by decide) | exact c_22__ (by decide)))
      · skip
        refine lv_iconst (v := 1) hx hb dX7_isUnder_25 (by decide) ?_
        exact g_nret X h dX7_isUnder_26 rfl (by subst hk; rcases kk7 hk6 with rfl | rfl | rfl | rfl | rfl | rfl | rfl <;> first | exact ⟨by decide, rfl⟩ | (exfalso; first | exact absurd c_22 (by decide) | exact c_22 (by decide) | exact absurd c_22_ (by decide) | exact c_22_ (by decide) | exact absurd c_22__ (by decide) | exact c_22__ (by decide)))
    · skip
      refine lv_iconst (v := 1) hx hb dX7_isUnder_25 (by decide) ?_
      exact g_nret X h dX7_isUnder_26 rfl (by subst hk; rcases kk7 hk6 with rfl | rfl | rfl | rfl | rfl | rfl | rfl <;> first | exact ⟨by decide, rfl⟩ | (exfalso; first | exact absurd c_22 (by decide) | exact c_22 (by decide) | exact absurd c_22_ (by decide) | exact c_22_ (by decide)))
  · skip
    refine lv_iconst (v := 1) hx hb dX7_isUnder_25 (by decide) ?_
    exact g_nret X h dX7_isUnder_26 rfl (by subst hk; rcases kk7 hk6 with rfl | rfl | rfl | rfl | rfl | rfl | rfl <;> first | exact ⟨by decide, rfl⟩ | (exfalso; first | exact absurd c_22 (by decide) | exact c_22 (by decide)))

set_option maxRecDepth 100000 in
set_option maxHeartbeats 1000000 in
theorem c_X7_isUnder_6 (gl : Launch) (Z : PL) (v : VV) (w : WV) (x1 : Int32) (k : Nat) (hk : x1 = nI k) (hk6 : k ≤ 6) : CT gl yX7_isUnder cX7_isUnder 4 (some .boolean) 1 22 Z [.int 6, .int x1] v w (Qi Z (fun r u => r = bI (undS 6 k) ∧ (v, w) = u)) := by
  refine g_met (by decide) (Nat.le_of_ble_eq_true rfl) ?_
  intro gp ge gs gm ga gb gh gc X h ls hl
  have hx := X.1
  have hb := X.2.1
  have hl : lv_has ls 4 [(0, .int 6), (1, .int x1)] := hl
  refine lv_iload_n hx hb dX7_isUnder_0 rfl (lv_at hl 0 rfl) ?_
  refine lv_istore_n (lv' := [(2, .int 6), (0, .int 6), (1, .int x1)]) hx hb dX7_isUnder_1 rfl hl (by decide) rfl (fun ls hl => ?_)
  refine lv_iconst (v := 0) hx hb dX7_isUnder_2 (by decide) ?_
  refine lv_istore_n (lv' := [(3, .int 0), (2, .int 6), (0, .int 6), (1, .int x1)]) hx hb dX7_isUnder_3 rfl hl (by decide) rfl (fun ls hl => ?_)
  refine lv_iload_n hx hb dX7_isUnder_4 rfl (lv_at hl 0 rfl) ?_
  refine lv_bipush (v := 7) hx hb dX7_isUnder_5 (by decide) ?_
  refine lv_icmp_ge (tgt := 39) hx hb dX7_isUnder_7 (by decide) (fun q => absurd q (by decide)) (fun _ => ?_)
  refine lv_iload_n hx hb dX7_isUnder_10 rfl (lv_at hl 1 rfl) ?_
  refine lv_iconst (v := 0) hx hb dX7_isUnder_11 (by decide) ?_
  refine lv_bipush (v := 6) hx hb dX7_isUnder_12 (by decide) ?_
  refine g_ki h (g_runS X h (As := [.int 6, .int 0, .int 6]) (rest := []) (c_X7_isWithin gl Z v w 6 0 6) ms_X7_isWithin ml_RX7_58 ⟨Nat.le_of_ble_eq_true rfl, Nat.le_of_ble_eq_true rfl⟩ rfl hl.1 rfl (Nat.le_of_ble_eq_true rfl) dX7_isUnder_14) (fun r14 v14 w14 H locs hp14 h => ?_)
  obtain ⟨hr14, hu14⟩ := hp14; obtain ⟨rfl, rfl⟩ := Prod.mk.inj hu14
  refine g_tr (y := 1) hr14 ?_
  refine lv_if_eq (tgt := 39) hx hb dX7_isUnder_17 (by decide) (fun q => absurd q (by decide)) (fun _ => ?_)
  refine lv_iload_n hx hb dX7_isUnder_20 rfl (lv_at hl 1 rfl) ?_
  refine lv_iload_n hx hb dX7_isUnder_21 rfl (lv_at hl 3 rfl) ?_
  refine lv_icmp_ne (tgt := 27) hx hb dX7_isUnder_22 (by decide) (fun c_22 => ?_) (fun c_22 => ?_)
  · skip
    refine g_st_ABOVE X h dX7_isUnder_27 ?_
    refine lv_iload_n hx hb dX7_isUnder_30 rfl (lv_at hl 1 rfl) ?_
    refine g_tab0 X h (k := 6) rfl (by decide) dX7_isUnder_31 ?_
    refine g_tr (y := 3) rfl ?_
    refine lv_istore_n (lv' := [(2, .int 3), (3, .int 0), (0, .int 6), (1, .int x1)]) hx hb dX7_isUnder_32 rfl hl (by decide) rfl (fun ls hl => ?_)
    refine lv_iinc (v := 1) (lv' := [(3, .int 1), (2, .int 3), (0, .int 6), (1, .int x1)]) hx hb dX7_isUnder_33 hl (k := 1) rfl rfl (by decide) rfl (fun ls hl => ?_)
    refine lv_goto (tgt := 4) hx hb dX7_isUnder_36 (by decide) ?_
    refine lv_iload_n hx hb dX7_isUnder_4 rfl (lv_at hl 0 rfl) ?_
    refine lv_bipush (v := 7) hx hb dX7_isUnder_5 (by decide) ?_
    refine lv_icmp_ge (tgt := 39) hx hb dX7_isUnder_7 (by decide) (fun q => absurd q (by decide)) (fun _ => ?_)
    refine lv_iload_n hx hb dX7_isUnder_10 rfl (lv_at hl 1 rfl) ?_
    refine lv_iconst (v := 0) hx hb dX7_isUnder_11 (by decide) ?_
    refine lv_bipush (v := 6) hx hb dX7_isUnder_12 (by decide) ?_
    refine g_ki h (g_runS X h (As := [.int 3, .int 0, .int 6]) (rest := []) (c_X7_isWithin gl Z v w 3 0 6) ms_X7_isWithin ml_RX7_58 ⟨Nat.le_of_ble_eq_true rfl, Nat.le_of_ble_eq_true rfl⟩ rfl hl.1 rfl (Nat.le_of_ble_eq_true rfl) dX7_isUnder_14) (fun r14 v14 w14 H locs hp14 h => ?_)
    obtain ⟨hr14, hu14⟩ := hp14; obtain ⟨rfl, rfl⟩ := Prod.mk.inj hu14
    refine g_tr (y := 1) hr14 ?_
    refine lv_if_eq (tgt := 39) hx hb dX7_isUnder_17 (by decide) (fun q => absurd q (by decide)) (fun _ => ?_)
    refine lv_iload_n hx hb dX7_isUnder_20 rfl (lv_at hl 1 rfl) ?_
    refine lv_iload_n hx hb dX7_isUnder_21 rfl (lv_at hl 3 rfl) ?_
    refine lv_icmp_ne (tgt := 27) hx hb dX7_isUnder_22 (by decide) (fun c_22_ => ?_) (fun c_22_ => ?_)
    · skip
      refine g_st_ABOVE X h dX7_isUnder_27 ?_
      refine lv_iload_n hx hb dX7_isUnder_30 rfl (lv_at hl 1 rfl) ?_
      refine g_tab0 X h (k := 3) rfl (by decide) dX7_isUnder_31 ?_
      refine g_tr (y := 0) rfl ?_
      refine lv_istore_n (lv' := [(2, .int 0), (3, .int 1), (0, .int 6), (1, .int x1)]) hx hb dX7_isUnder_32 rfl hl (by decide) rfl (fun ls hl => ?_)
      refine lv_iinc (v := 2) (lv' := [(3, .int 2), (2, .int 0), (0, .int 6), (1, .int x1)]) hx hb dX7_isUnder_33 hl (k := 1) rfl rfl (by decide) rfl (fun ls hl => ?_)
      refine lv_goto (tgt := 4) hx hb dX7_isUnder_36 (by decide) ?_
      refine lv_iload_n hx hb dX7_isUnder_4 rfl (lv_at hl 0 rfl) ?_
      refine lv_bipush (v := 7) hx hb dX7_isUnder_5 (by decide) ?_
      refine lv_icmp_ge (tgt := 39) hx hb dX7_isUnder_7 (by decide) (fun q => absurd q (by decide)) (fun _ => ?_)
      refine lv_iload_n hx hb dX7_isUnder_10 rfl (lv_at hl 1 rfl) ?_
      refine lv_iconst (v := 0) hx hb dX7_isUnder_11 (by decide) ?_
      refine lv_bipush (v := 6) hx hb dX7_isUnder_12 (by decide) ?_
      refine g_ki h (g_runS X h (As := [.int 0, .int 0, .int 6]) (rest := []) (c_X7_isWithin gl Z v w 0 0 6) ms_X7_isWithin ml_RX7_58 ⟨Nat.le_of_ble_eq_true rfl, Nat.le_of_ble_eq_true rfl⟩ rfl hl.1 rfl (Nat.le_of_ble_eq_true rfl) dX7_isUnder_14) (fun r14 v14 w14 H locs hp14 h => ?_)
      obtain ⟨hr14, hu14⟩ := hp14; obtain ⟨rfl, rfl⟩ := Prod.mk.inj hu14
      refine g_tr (y := 1) hr14 ?_
      refine lv_if_eq (tgt := 39) hx hb dX7_isUnder_17 (by decide) (fun q => absurd q (by decide)) (fun _ => ?_)
      refine lv_iload_n hx hb dX7_isUnder_20 rfl (lv_at hl 1 rfl) ?_
      refine lv_iload_n hx hb dX7_isUnder_21 rfl (lv_at hl 3 rfl) ?_
      refine lv_icmp_ne (tgt := 27) hx hb dX7_isUnder_22 (by decide) (fun c_22__ => ?_) (fun c_22__ => ?_)
      · skip
        refine g_st_ABOVE X h dX7_isUnder_27 ?_
        refine lv_iload_n hx hb dX7_isUnder_30 rfl (lv_at hl 1 rfl) ?_
        refine g_tab0 X h (k := 0) rfl (by decide) dX7_isUnder_31 ?_
        refine g_tr (y := (-1)) rfl ?_
        refine lv_istore_n (lv' := [(2, .int (-1)), (3, .int 2), (0, .int 6), (1, .int x1)]) hx hb dX7_isUnder_32 rfl hl (by decide) rfl (fun ls hl => ?_)
        refine lv_iinc (v := 3) (lv' := [(3, .int 3), (2, .int (-1)), (0, .int 6), (1, .int x1)]) hx hb dX7_isUnder_33 hl (k := 1) rfl rfl (by decide) rfl (fun ls hl => ?_)
        refine lv_goto (tgt := 4) hx hb dX7_isUnder_36 (by decide) ?_
        refine lv_iload_n hx hb dX7_isUnder_4 rfl (lv_at hl 0 rfl) ?_
        refine lv_bipush (v := 7) hx hb dX7_isUnder_5 (by decide) ?_
        refine lv_icmp_ge (tgt := 39) hx hb dX7_isUnder_7 (by decide) (fun q => absurd q (by decide)) (fun _ => ?_)
        refine lv_iload_n hx hb dX7_isUnder_10 rfl (lv_at hl 1 rfl) ?_
        refine lv_iconst (v := 0) hx hb dX7_isUnder_11 (by decide) ?_
        refine lv_bipush (v := 6) hx hb dX7_isUnder_12 (by decide) ?_
        refine g_ki h (g_runS X h (As := [.int (-1), .int 0, .int 6]) (rest := []) (c_X7_isWithin gl Z v w (-1) 0 6) ms_X7_isWithin ml_RX7_58 ⟨Nat.le_of_ble_eq_true rfl, Nat.le_of_ble_eq_true rfl⟩ rfl hl.1 rfl (Nat.le_of_ble_eq_true rfl) dX7_isUnder_14) (fun r14 v14 w14 H locs hp14 h => ?_)
        obtain ⟨hr14, hu14⟩ := hp14; obtain ⟨rfl, rfl⟩ := Prod.mk.inj hu14
        refine g_tr (y := 0) hr14 ?_
        refine lv_if_eq (tgt := 39) hx hb dX7_isUnder_17 (by decide) (fun _ => ?_) (fun q => absurd q (by decide))
        refine lv_iconst (v := 0) hx hb dX7_isUnder_39 (by decide) ?_
        exact g_nret X h dX7_isUnder_40 rfl (by subst hk; rcases kk7 hk6 with rfl | rfl | rfl | rfl | rfl | rfl | rfl <;> first | exact ⟨by decide, rfl⟩ | (exfalso; first | exact absurd c_22 (by decide) | exact c_22 (by decide) | exact absurd c_22_ (by decide) | exact c_22_ (by decide) | exact absurd c_22__ (by decide) | exact c_22__ (by decide)))
      · skip
        refine lv_iconst (v := 1) hx hb dX7_isUnder_25 (by decide) ?_
        exact g_nret X h dX7_isUnder_26 rfl (by subst hk; rcases kk7 hk6 with rfl | rfl | rfl | rfl | rfl | rfl | rfl <;> first | exact ⟨by decide, rfl⟩ | (exfalso; first | exact absurd c_22 (by decide) | exact c_22 (by decide) | exact absurd c_22_ (by decide) | exact c_22_ (by decide) | exact absurd c_22__ (by decide) | exact c_22__ (by decide)))
    · skip
      refine lv_iconst (v := 1) hx hb dX7_isUnder_25 (by decide) ?_
      exact g_nret X h dX7_isUnder_26 rfl (by subst hk; rcases kk7 hk6 with rfl | rfl | rfl | rfl | rfl | rfl | rfl <;> first | exact ⟨by decide, rfl⟩ | (exfalso; first | exact absurd c_22 (by decide) | exact c_22 (by decide) | exact absurd c_22_ (by decide) | exact c_22_ (by decide)))
  · skip
    refine lv_iconst (v := 1) hx hb dX7_isUnder_25 (by decide) ?_
    exact g_nret X h dX7_isUnder_26 rfl (by subst hk; rcases kk7 hk6 with rfl | rfl | rfl | rfl | rfl | rfl | rfl <;> first | exact ⟨by decide, rfl⟩ | (exfalso; first | exact absurd c_22 (by decide) | exact c_22 (by decide)))

set_option maxRecDepth 100000 in
set_option maxHeartbeats 1000000 in
theorem c_X7_taken (gl : Launch) (Z : PL) (v : VV) (w : WV) (x0 : Int32) (x1 : Int32) (n : Nat) (hn : v 52 0 = nI n) (h6 : n ≤ 6) (hkr : ∀ p, p < n → ∃ o, o ≤ 6 ∧ v 54 p = nI o) : CT gl yX7_taken cX7_taken 4 (some .int) 2 45 Z [.ref (zg Z 0), .int x0, .int x1] v w (Qi Z (fun r u => r = sTaken n (v 54) x0 x1 ∧ (v, w) = u)) := by
  refine g_met (by decide) (Nat.le_of_ble_eq_true rfl) ?_
  intro gp ge gs gm ga gb gh gc X h ls hl
  have hx := X.1
  have hb := X.2.1
  have hl : lv_has ls 4 [(0, .ref (zg Z 0)), (1, .int x0), (2, .int x1)] := hl
  refine lv_iload_n hx hb dX7_taken_0 rfl (lv_at hl 2 rfl) ?_
  refine lv_iconst (v := 0) hx hb dX7_taken_1 (by decide) ?_
  refine lv_bipush (v := 6) hx hb dX7_taken_2 (by decide) ?_
  refine g_ki h (g_runS X h (As := [.int x1, .int 0, .int 6]) (rest := []) (c_X7_isWithin gl Z v w x1 0 6) ms_X7_isWithin ml_RX7_58 ⟨Nat.le_of_ble_eq_true rfl, Nat.le_of_ble_eq_true rfl⟩ rfl hl.1 rfl (Nat.le_of_ble_eq_true rfl) dX7_taken_4) (fun r4 v4 w4 H locs hp4 h => ?_)
  obtain ⟨hr4, hu4⟩ := hp4; obtain ⟨rfl, rfl⟩ := Prod.mk.inj hu4
  refine lv_if_ne (tgt := 13) hx hb dX7_taken_7 (by decide) (fun c_7 => ?_) (fun c_7 => ?_)
  · skip
    rw [hr4, bI_n] at c_7
    obtain ⟨k1, hk1, hk1l, hk1n, hk1c⟩ := inR_nat (a := 0) (b := 6) rfl rfl (by decide) c_7
    refine lv_aload_n hx hb dX7_taken_13 rfl (lv_at hl 0 rfl) ?_
    refine lv_iload_n hx hb dX7_taken_14 rfl (lv_at hl 1 rfl) ?_
    refine g_ki h (g_runV X h (As := [.int x0]) (rest := []) (c_X7_isPerson gl Z v w x0 n hn h6) mi_X7_isPerson ml_RX7_76 (cc_0) (by decide) kl7 rfl ⟨Nat.le_of_ble_eq_true rfl, Nat.le_of_ble_eq_true rfl⟩ rfl hl.1 rfl (Nat.le_of_ble_eq_true rfl) dX7_taken_15) (fun r15 v15 w15 H locs hp15 h => ?_)
    obtain ⟨hr15, hu15⟩ := hp15; obtain ⟨rfl, rfl⟩ := Prod.mk.inj hu15
    refine lv_if_ne (tgt := 24) hx hb dX7_taken_18 (by decide) (fun c_18 => ?_) (fun c_18 => ?_)
    · skip
      rw [hr15, bI_n] at c_18
      obtain ⟨k, hk, hkn, hkc⟩ := isP_nat (by omega) c_18
      obtain ⟨own, ho6, hkd⟩ := hkr k hkn
      refine lv_aload_n hx hb dX7_taken_24 rfl (lv_at hl 0 rfl) ?_
      refine g_getr X h (k := 1) (t := 51) (cc_0) fr_RX7_23 rfl (by decide) (by decide) (by decide) dX7_taken_25 ?_
      refine g_getr X h (k := 0) (t := 52) (cc_51) fr_RX7_62 rfl (by decide) (by decide) (by decide) dX7_taken_28 ?_
      refine g_getr X h (k := 2) (t := 54) (cc_52) fr_RX7_80 rfl (by decide) (by decide) (by decide) dX7_taken_31 ?_
      refine lv_iload_n hx hb dX7_taken_34 rfl (lv_at hl 1 rfl) ?_
      refine g_iald X h (k := k) (cc_54) hk (by omega) (by decide) dX7_taken_35 ?_
      rcases kind7 hkd ho6 with hk7 | hk7 | hk7 | hk7 | hk7 | hk7 | hk7
      · skip
        obtain rfl : own = 0 := nI_eq1 (b := 0) hkd rfl (by omega) (by omega) hk7
        refine g_tr (y := 0) hk7 ?_
        refine lv_istore_n (lv' := [(3, .int 0), (0, .ref (zg Z 0)), (1, .int x0), (2, .int x1)]) hx hb dX7_taken_36 rfl hl (by decide) rfl (fun ls hl => ?_)
        refine lv_iload_n hx hb dX7_taken_37 rfl (lv_at hl 0 rfl) ?_
        refine lv_iload_n hx hb dX7_taken_38 rfl (lv_at hl 3 rfl) ?_
        refine g_ki h (g_runS X h (As := [.int 0, .int x1]) (rest := []) (c_X7_isUnder_0 gl Z v w x1 k1 hk1 (by omega)) ms_X7_isUnder ml_RX7_256 ⟨Nat.le_of_ble_eq_true rfl, Nat.le_of_ble_eq_true rfl⟩ rfl hl.1 rfl (Nat.le_of_ble_eq_true rfl) dX7_taken_39) (fun r39 v39 w39 H locs hp39 h => ?_)
        obtain ⟨hr39, hu39⟩ := hp39; obtain ⟨rfl, rfl⟩ := Prod.mk.inj hu39
        refine lv_if_eq (tgt := 49) hx hb dX7_taken_42 (by decide) (fun c_42 => ?_) (fun c_42 => ?_)
        · skip
          rw [hr39, bI_0] at c_42
          refine lv_bipush (v := (-12)) hx hb dX7_taken_49 (by decide) ?_
          exact g_iret X h dX7_taken_51 ⟨by rw [sTaken, if_pos c_7, if_pos c_18, hkc, hk1c, hkd, nI_clamp (by omega), c_42]; rfl, rfl⟩
        · skip
          rw [hr39, bI_n] at c_42
          refine lv_iload_n hx hb dX7_taken_45 rfl (lv_at hl 0 rfl) ?_
          refine lv_goto (tgt := 51) hx hb dX7_taken_46 (by decide) ?_
          exact g_iret X h dX7_taken_51 ⟨by rw [sTaken, if_pos c_7, if_pos c_18, hkc, hk1c, hkd, nI_clamp (by omega), c_42]; rfl, rfl⟩
      · skip
        obtain rfl : own = 1 := nI_eq1 (b := 1) hkd rfl (by omega) (by omega) hk7
        refine g_tr (y := 1) hk7 ?_
        refine lv_istore_n (lv' := [(3, .int 1), (0, .ref (zg Z 0)), (1, .int x0), (2, .int x1)]) hx hb dX7_taken_36 rfl hl (by decide) rfl (fun ls hl => ?_)
        refine lv_iload_n hx hb dX7_taken_37 rfl (lv_at hl 0 rfl) ?_
        refine lv_iload_n hx hb dX7_taken_38 rfl (lv_at hl 3 rfl) ?_
        refine g_ki h (g_runS X h (As := [.int 1, .int x1]) (rest := []) (c_X7_isUnder_1 gl Z v w x1 k1 hk1 (by omega)) ms_X7_isUnder ml_RX7_256 ⟨Nat.le_of_ble_eq_true rfl, Nat.le_of_ble_eq_true rfl⟩ rfl hl.1 rfl (Nat.le_of_ble_eq_true rfl) dX7_taken_39) (fun r39 v39 w39 H locs hp39 h => ?_)
        obtain ⟨hr39, hu39⟩ := hp39; obtain ⟨rfl, rfl⟩ := Prod.mk.inj hu39
        refine lv_if_eq (tgt := 49) hx hb dX7_taken_42 (by decide) (fun c_42 => ?_) (fun c_42 => ?_)
        · skip
          rw [hr39, bI_0] at c_42
          refine lv_bipush (v := (-12)) hx hb dX7_taken_49 (by decide) ?_
          exact g_iret X h dX7_taken_51 ⟨by rw [sTaken, if_pos c_7, if_pos c_18, hkc, hk1c, hkd, nI_clamp (by omega), c_42]; rfl, rfl⟩
        · skip
          rw [hr39, bI_n] at c_42
          refine lv_iload_n hx hb dX7_taken_45 rfl (lv_at hl 0 rfl) ?_
          refine lv_goto (tgt := 51) hx hb dX7_taken_46 (by decide) ?_
          exact g_iret X h dX7_taken_51 ⟨by rw [sTaken, if_pos c_7, if_pos c_18, hkc, hk1c, hkd, nI_clamp (by omega), c_42]; rfl, rfl⟩
      · skip
        obtain rfl : own = 2 := nI_eq1 (b := 2) hkd rfl (by omega) (by omega) hk7
        refine g_tr (y := 2) hk7 ?_
        refine lv_istore_n (lv' := [(3, .int 2), (0, .ref (zg Z 0)), (1, .int x0), (2, .int x1)]) hx hb dX7_taken_36 rfl hl (by decide) rfl (fun ls hl => ?_)
        refine lv_iload_n hx hb dX7_taken_37 rfl (lv_at hl 0 rfl) ?_
        refine lv_iload_n hx hb dX7_taken_38 rfl (lv_at hl 3 rfl) ?_
        refine g_ki h (g_runS X h (As := [.int 2, .int x1]) (rest := []) (c_X7_isUnder_2 gl Z v w x1 k1 hk1 (by omega)) ms_X7_isUnder ml_RX7_256 ⟨Nat.le_of_ble_eq_true rfl, Nat.le_of_ble_eq_true rfl⟩ rfl hl.1 rfl (Nat.le_of_ble_eq_true rfl) dX7_taken_39) (fun r39 v39 w39 H locs hp39 h => ?_)
        obtain ⟨hr39, hu39⟩ := hp39; obtain ⟨rfl, rfl⟩ := Prod.mk.inj hu39
        refine lv_if_eq (tgt := 49) hx hb dX7_taken_42 (by decide) (fun c_42 => ?_) (fun c_42 => ?_)
        · skip
          rw [hr39, bI_0] at c_42
          refine lv_bipush (v := (-12)) hx hb dX7_taken_49 (by decide) ?_
          exact g_iret X h dX7_taken_51 ⟨by rw [sTaken, if_pos c_7, if_pos c_18, hkc, hk1c, hkd, nI_clamp (by omega), c_42]; rfl, rfl⟩
        · skip
          rw [hr39, bI_n] at c_42
          refine lv_iload_n hx hb dX7_taken_45 rfl (lv_at hl 0 rfl) ?_
          refine lv_goto (tgt := 51) hx hb dX7_taken_46 (by decide) ?_
          exact g_iret X h dX7_taken_51 ⟨by rw [sTaken, if_pos c_7, if_pos c_18, hkc, hk1c, hkd, nI_clamp (by omega), c_42]; rfl, rfl⟩
      · skip
        obtain rfl : own = 3 := nI_eq1 (b := 3) hkd rfl (by omega) (by omega) hk7
        refine g_tr (y := 3) hk7 ?_
        refine lv_istore_n (lv' := [(3, .int 3), (0, .ref (zg Z 0)), (1, .int x0), (2, .int x1)]) hx hb dX7_taken_36 rfl hl (by decide) rfl (fun ls hl => ?_)
        refine lv_iload_n hx hb dX7_taken_37 rfl (lv_at hl 0 rfl) ?_
        refine lv_iload_n hx hb dX7_taken_38 rfl (lv_at hl 3 rfl) ?_
        refine g_ki h (g_runS X h (As := [.int 3, .int x1]) (rest := []) (c_X7_isUnder_3 gl Z v w x1 k1 hk1 (by omega)) ms_X7_isUnder ml_RX7_256 ⟨Nat.le_of_ble_eq_true rfl, Nat.le_of_ble_eq_true rfl⟩ rfl hl.1 rfl (Nat.le_of_ble_eq_true rfl) dX7_taken_39) (fun r39 v39 w39 H locs hp39 h => ?_)
        obtain ⟨hr39, hu39⟩ := hp39; obtain ⟨rfl, rfl⟩ := Prod.mk.inj hu39
        refine lv_if_eq (tgt := 49) hx hb dX7_taken_42 (by decide) (fun c_42 => ?_) (fun c_42 => ?_)
        · skip
          rw [hr39, bI_0] at c_42
          refine lv_bipush (v := (-12)) hx hb dX7_taken_49 (by decide) ?_
          exact g_iret X h dX7_taken_51 ⟨by rw [sTaken, if_pos c_7, if_pos c_18, hkc, hk1c, hkd, nI_clamp (by omega), c_42]; rfl, rfl⟩
        · skip
          rw [hr39, bI_n] at c_42
          refine lv_iload_n hx hb dX7_taken_45 rfl (lv_at hl 0 rfl) ?_
          refine lv_goto (tgt := 51) hx hb dX7_taken_46 (by decide) ?_
          exact g_iret X h dX7_taken_51 ⟨by rw [sTaken, if_pos c_7, if_pos c_18, hkc, hk1c, hkd, nI_clamp (by omega), c_42]; rfl, rfl⟩
      · skip
        obtain rfl : own = 4 := nI_eq1 (b := 4) hkd rfl (by omega) (by omega) hk7
        refine g_tr (y := 4) hk7 ?_
        refine lv_istore_n (lv' := [(3, .int 4), (0, .ref (zg Z 0)), (1, .int x0), (2, .int x1)]) hx hb dX7_taken_36 rfl hl (by decide) rfl (fun ls hl => ?_)
        refine lv_iload_n hx hb dX7_taken_37 rfl (lv_at hl 0 rfl) ?_
        refine lv_iload_n hx hb dX7_taken_38 rfl (lv_at hl 3 rfl) ?_
        refine g_ki h (g_runS X h (As := [.int 4, .int x1]) (rest := []) (c_X7_isUnder_4 gl Z v w x1 k1 hk1 (by omega)) ms_X7_isUnder ml_RX7_256 ⟨Nat.le_of_ble_eq_true rfl, Nat.le_of_ble_eq_true rfl⟩ rfl hl.1 rfl (Nat.le_of_ble_eq_true rfl) dX7_taken_39) (fun r39 v39 w39 H locs hp39 h => ?_)
        obtain ⟨hr39, hu39⟩ := hp39; obtain ⟨rfl, rfl⟩ := Prod.mk.inj hu39
        refine lv_if_eq (tgt := 49) hx hb dX7_taken_42 (by decide) (fun c_42 => ?_) (fun c_42 => ?_)
        · skip
          rw [hr39, bI_0] at c_42
          refine lv_bipush (v := (-12)) hx hb dX7_taken_49 (by decide) ?_
          exact g_iret X h dX7_taken_51 ⟨by rw [sTaken, if_pos c_7, if_pos c_18, hkc, hk1c, hkd, nI_clamp (by omega), c_42]; rfl, rfl⟩
        · skip
          rw [hr39, bI_n] at c_42
          refine lv_iload_n hx hb dX7_taken_45 rfl (lv_at hl 0 rfl) ?_
          refine lv_goto (tgt := 51) hx hb dX7_taken_46 (by decide) ?_
          exact g_iret X h dX7_taken_51 ⟨by rw [sTaken, if_pos c_7, if_pos c_18, hkc, hk1c, hkd, nI_clamp (by omega), c_42]; rfl, rfl⟩
      · skip
        obtain rfl : own = 5 := nI_eq1 (b := 5) hkd rfl (by omega) (by omega) hk7
        refine g_tr (y := 5) hk7 ?_
        refine lv_istore_n (lv' := [(3, .int 5), (0, .ref (zg Z 0)), (1, .int x0), (2, .int x1)]) hx hb dX7_taken_36 rfl hl (by decide) rfl (fun ls hl => ?_)
        refine lv_iload_n hx hb dX7_taken_37 rfl (lv_at hl 0 rfl) ?_
        refine lv_iload_n hx hb dX7_taken_38 rfl (lv_at hl 3 rfl) ?_
        refine g_ki h (g_runS X h (As := [.int 5, .int x1]) (rest := []) (c_X7_isUnder_5 gl Z v w x1 k1 hk1 (by omega)) ms_X7_isUnder ml_RX7_256 ⟨Nat.le_of_ble_eq_true rfl, Nat.le_of_ble_eq_true rfl⟩ rfl hl.1 rfl (Nat.le_of_ble_eq_true rfl) dX7_taken_39) (fun r39 v39 w39 H locs hp39 h => ?_)
        obtain ⟨hr39, hu39⟩ := hp39; obtain ⟨rfl, rfl⟩ := Prod.mk.inj hu39
        refine lv_if_eq (tgt := 49) hx hb dX7_taken_42 (by decide) (fun c_42 => ?_) (fun c_42 => ?_)
        · skip
          rw [hr39, bI_0] at c_42
          refine lv_bipush (v := (-12)) hx hb dX7_taken_49 (by decide) ?_
          exact g_iret X h dX7_taken_51 ⟨by rw [sTaken, if_pos c_7, if_pos c_18, hkc, hk1c, hkd, nI_clamp (by omega), c_42]; rfl, rfl⟩
        · skip
          rw [hr39, bI_n] at c_42
          refine lv_iload_n hx hb dX7_taken_45 rfl (lv_at hl 0 rfl) ?_
          refine lv_goto (tgt := 51) hx hb dX7_taken_46 (by decide) ?_
          exact g_iret X h dX7_taken_51 ⟨by rw [sTaken, if_pos c_7, if_pos c_18, hkc, hk1c, hkd, nI_clamp (by omega), c_42]; rfl, rfl⟩
      · skip
        obtain rfl : own = 6 := nI_eq1 (b := 6) hkd rfl (by omega) (by omega) hk7
        refine g_tr (y := 6) hk7 ?_
        refine lv_istore_n (lv' := [(3, .int 6), (0, .ref (zg Z 0)), (1, .int x0), (2, .int x1)]) hx hb dX7_taken_36 rfl hl (by decide) rfl (fun ls hl => ?_)
        refine lv_iload_n hx hb dX7_taken_37 rfl (lv_at hl 0 rfl) ?_
        refine lv_iload_n hx hb dX7_taken_38 rfl (lv_at hl 3 rfl) ?_
        refine g_ki h (g_runS X h (As := [.int 6, .int x1]) (rest := []) (c_X7_isUnder_6 gl Z v w x1 k1 hk1 (by omega)) ms_X7_isUnder ml_RX7_256 ⟨Nat.le_of_ble_eq_true rfl, Nat.le_of_ble_eq_true rfl⟩ rfl hl.1 rfl (Nat.le_of_ble_eq_true rfl) dX7_taken_39) (fun r39 v39 w39 H locs hp39 h => ?_)
        obtain ⟨hr39, hu39⟩ := hp39; obtain ⟨rfl, rfl⟩ := Prod.mk.inj hu39
        refine lv_if_eq (tgt := 49) hx hb dX7_taken_42 (by decide) (fun c_42 => ?_) (fun c_42 => ?_)
        · skip
          rw [hr39, bI_0] at c_42
          refine lv_bipush (v := (-12)) hx hb dX7_taken_49 (by decide) ?_
          exact g_iret X h dX7_taken_51 ⟨by rw [sTaken, if_pos c_7, if_pos c_18, hkc, hk1c, hkd, nI_clamp (by omega), c_42]; rfl, rfl⟩
        · skip
          rw [hr39, bI_n] at c_42
          refine lv_iload_n hx hb dX7_taken_45 rfl (lv_at hl 0 rfl) ?_
          refine lv_goto (tgt := 51) hx hb dX7_taken_46 (by decide) ?_
          exact g_iret X h dX7_taken_51 ⟨by rw [sTaken, if_pos c_7, if_pos c_18, hkc, hk1c, hkd, nI_clamp (by omega), c_42]; rfl, rfl⟩
    · skip
      rw [hr15, bI_0] at c_18
      refine lv_bipush (v := (-11)) hx hb dX7_taken_21 (by decide) ?_
      exact g_iret X h dX7_taken_23 ⟨by rw [sTaken, if_pos c_7, if_neg (by rw [c_18]; simp)], rfl⟩
  · skip
    rw [hr4, bI_0] at c_7
    refine lv_bipush (v := (-2)) hx hb dX7_taken_10 (by decide) ?_
    exact g_iret X h dX7_taken_12 ⟨by rw [sTaken, if_neg (by rw [c_7]; simp)], rfl⟩

set_option maxRecDepth 100000 in
set_option maxHeartbeats 1000000 in
theorem c_X0_begin_a0 (gl : Launch) (Z : PL) (v : VV) (w : WV) (x0 : Int32) (p : Nat) (hp : x0 = nI p) (x2 : Int32) (hp6 : p < 6) (own : Nat) (ho6 : own ≤ 6) (hkd : v 54 p = nI own) (htr : v 110 1 = nI 0) : CT gl yX0_begin cX0_begin 5 (some .int) 3 79 Z [.ref (zg Z 110), .ref (zg Z 52), .int x0, .int 0, .int x2] v w (Qi Z (fun r u => r = actV own 0 x0 (v 55 p) x2 ∧ (ranCL (up2 (up2 (up2 v 110 2 x0) 110 3 (v 54 p)) 110 4 (v 55 p)) 0 (actL own 0), w) = u)) := by
  refine g_met (by decide) (Nat.le_of_ble_eq_true rfl) ?_
  intro gp ge gs gm ga gb gh gc X h ls hl
  have hx := X.1
  have hb := X.2.1
  have hl : lv_has ls 5 [(0, .ref (zg Z 110)), (1, .ref (zg Z 52)), (2, .int x0), (3, .int 0), (4, .int x2)] := hl
  refine lv_aload_n hx hb dX0_begin_0 rfl (lv_at hl 0 rfl) ?_
  refine lv_iload_n hx hb dX0_begin_1 rfl (lv_at hl 2 rfl) ?_
  refine g_puti X h (k := 2) (cc_110) fp_RX0_25 rfl (by decide) dX0_begin_2 (fun v2 H locs ev2 h => ?_)
  refine lv_aload_n hx hb dX0_begin_5 rfl (lv_at hl 0 rfl) ?_
  refine lv_aload_n hx hb dX0_begin_6 rfl (lv_at hl 1 rfl) ?_
  refine g_getr X h (k := 2) (t := 54) (cc_52) fr_RX0_28 rfl (by decide) (by decide) (by decide) dX0_begin_7 ?_
  refine lv_iload_n hx hb dX0_begin_10 rfl (lv_at hl 2 rfl) ?_
  refine g_iald X h (k := p) (cc_54) hp (by omega) (by decide) dX0_begin_11 ?_
  refine g_tr (y := (v 54 p)) (by rw [ev2, up2_ne (by omega)]) ?_
  refine g_puti X h (k := 3) (cc_110) fp_RX0_33 rfl (by decide) dX0_begin_12 (fun v12 H locs ev12 h => ?_)
  refine lv_aload_n hx hb dX0_begin_15 rfl (lv_at hl 0 rfl) ?_
  refine lv_aload_n hx hb dX0_begin_16 rfl (lv_at hl 1 rfl) ?_
  refine g_getr X h (k := 3) (t := 55) (cc_52) fr_RX0_36 rfl (by decide) (by decide) (by decide) dX0_begin_17 ?_
  refine lv_iload_n hx hb dX0_begin_20 rfl (lv_at hl 2 rfl) ?_
  refine g_iald X h (k := p) (cc_55) hp (by omega) (by decide) dX0_begin_21 ?_
  refine g_tr (y := (v 55 p)) (by rw [ev12, up2_ne (by omega), ev2, up2_ne (by omega)]) ?_
  refine g_puti X h (k := 4) (cc_110) fp_RX0_39 rfl (by decide) dX0_begin_22 (fun v22 H locs ev22 h => ?_)
  refine lv_aload_n hx hb dX0_begin_25 rfl (lv_at hl 0 rfl) ?_
  refine lv_aload_n hx hb dX0_begin_26 rfl (lv_at hl 0 rfl) ?_
  refine g_geti X h (k := 3) (cc_110) fr_RX0_33 rfl (by decide) dX0_begin_27 ?_
  refine g_tr (y := (v 54 p)) (by rw [ev22, up2_slot (by omega), ev12, up2_same]) ?_
  rcases kind7 hkd ho6 with hk7 | hk7 | hk7 | hk7 | hk7 | hk7 | hk7
  · skip
    obtain rfl : own = 0 := nI_eq1 (b := 0) hkd rfl (by omega) (by omega) hk7
    refine g_tr (y := 0) hk7 ?_
    refine lv_iload_n hx hb dX0_begin_30 rfl (lv_at hl 3 rfl) ?_
    refine lv_iload hx hb dX0_begin_31 (lv_at hl 4 rfl) ?_
    refine lv_iconst (v := 0) hx hb dX0_begin_33 (by decide) ?_
    refine g_ki h (g_runV X h (As := [.int 0, .int 0, .int x2, .int 0]) (rest := []) (c_X0_go_00 gl Z v22 w x2 0 0 rfl 0 (by omega) 0 (by rw [ev22, up2_slot (by decide), ev12, up2_same]; exact hkd) (by rw [ev22, up2_slot (by decide), ev12, up2_slot (by decide), ev2, up2_slot (by decide)]; exact htr) (by omega) (by omega)) mi_X0_go ml_RX0_41 (cc_110) (by decide) kl0 rfl ⟨Nat.le_of_ble_eq_true rfl, Nat.le_of_ble_eq_true rfl⟩ rfl hl.1 rfl (Nat.le_of_ble_eq_true rfl) dX0_begin_34) (fun r34 v34 w34 H locs hp34 h => ?_)
    obtain ⟨hr34, hw34⟩ := hp34
    obtain ⟨ev34, rfl⟩ := Prod.mk.inj hw34
    replace ev34 := ev34.symm
    exact g_iret X h dX0_begin_37 (by refine ⟨?_, by rw [ev34, ev22, ev12, ev2]; rfl⟩; rw [hr34, ev22, up2_same, up2_slot (by decide), ev12, up2_slot (by decide), ev2, up2_same]; rfl)
  · skip
    obtain rfl : own = 1 := nI_eq1 (b := 1) hkd rfl (by omega) (by omega) hk7
    refine g_tr (y := 1) hk7 ?_
    refine lv_iload_n hx hb dX0_begin_30 rfl (lv_at hl 3 rfl) ?_
    refine lv_iload hx hb dX0_begin_31 (lv_at hl 4 rfl) ?_
    refine lv_iconst (v := 0) hx hb dX0_begin_33 (by decide) ?_
    refine g_ki h (g_runV X h (As := [.int 1, .int 0, .int x2, .int 0]) (rest := []) (c_X0_go_10 gl Z v22 w x2 0 0 rfl 1 (by omega) 0 (by rw [ev22, up2_slot (by decide), ev12, up2_same]; exact hkd) (by rw [ev22, up2_slot (by decide), ev12, up2_slot (by decide), ev2, up2_slot (by decide)]; exact htr) (by omega) (by omega)) mi_X0_go ml_RX0_41 (cc_110) (by decide) kl0 rfl ⟨Nat.le_of_ble_eq_true rfl, Nat.le_of_ble_eq_true rfl⟩ rfl hl.1 rfl (Nat.le_of_ble_eq_true rfl) dX0_begin_34) (fun r34 v34 w34 H locs hp34 h => ?_)
    obtain ⟨hr34, hw34⟩ := hp34
    obtain ⟨ev34, rfl⟩ := Prod.mk.inj hw34
    replace ev34 := ev34.symm
    exact g_iret X h dX0_begin_37 (by refine ⟨?_, by rw [ev34, ev22, ev12, ev2]; rfl⟩; rw [hr34, ev22, up2_same, up2_slot (by decide), ev12, up2_slot (by decide), ev2, up2_same]; rfl)
  · skip
    obtain rfl : own = 2 := nI_eq1 (b := 2) hkd rfl (by omega) (by omega) hk7
    refine g_tr (y := 2) hk7 ?_
    refine lv_iload_n hx hb dX0_begin_30 rfl (lv_at hl 3 rfl) ?_
    refine lv_iload hx hb dX0_begin_31 (lv_at hl 4 rfl) ?_
    refine lv_iconst (v := 0) hx hb dX0_begin_33 (by decide) ?_
    refine g_ki h (g_runV X h (As := [.int 2, .int 0, .int x2, .int 0]) (rest := []) (c_X0_go_20 gl Z v22 w x2 0 0 rfl 2 (by omega) 0 (by rw [ev22, up2_slot (by decide), ev12, up2_same]; exact hkd) (by rw [ev22, up2_slot (by decide), ev12, up2_slot (by decide), ev2, up2_slot (by decide)]; exact htr) (by omega) (by omega)) mi_X0_go ml_RX0_41 (cc_110) (by decide) kl0 rfl ⟨Nat.le_of_ble_eq_true rfl, Nat.le_of_ble_eq_true rfl⟩ rfl hl.1 rfl (Nat.le_of_ble_eq_true rfl) dX0_begin_34) (fun r34 v34 w34 H locs hp34 h => ?_)
    obtain ⟨hr34, hw34⟩ := hp34
    obtain ⟨ev34, rfl⟩ := Prod.mk.inj hw34
    replace ev34 := ev34.symm
    exact g_iret X h dX0_begin_37 (by refine ⟨?_, by rw [ev34, ev22, ev12, ev2]; rfl⟩; rw [hr34, ev22, up2_same, up2_slot (by decide), ev12, up2_slot (by decide), ev2, up2_same]; rfl)
  · skip
    obtain rfl : own = 3 := nI_eq1 (b := 3) hkd rfl (by omega) (by omega) hk7
    refine g_tr (y := 3) hk7 ?_
    refine lv_iload_n hx hb dX0_begin_30 rfl (lv_at hl 3 rfl) ?_
    refine lv_iload hx hb dX0_begin_31 (lv_at hl 4 rfl) ?_
    refine lv_iconst (v := 0) hx hb dX0_begin_33 (by decide) ?_
    refine g_ki h (g_runV X h (As := [.int 3, .int 0, .int x2, .int 0]) (rest := []) (c_X0_go_30 gl Z v22 w x2 0 0 rfl 3 (by omega) 0 (by rw [ev22, up2_slot (by decide), ev12, up2_same]; exact hkd) (by rw [ev22, up2_slot (by decide), ev12, up2_slot (by decide), ev2, up2_slot (by decide)]; exact htr) (by omega) (by omega)) mi_X0_go ml_RX0_41 (cc_110) (by decide) kl0 rfl ⟨Nat.le_of_ble_eq_true rfl, Nat.le_of_ble_eq_true rfl⟩ rfl hl.1 rfl (Nat.le_of_ble_eq_true rfl) dX0_begin_34) (fun r34 v34 w34 H locs hp34 h => ?_)
    obtain ⟨hr34, hw34⟩ := hp34
    obtain ⟨ev34, rfl⟩ := Prod.mk.inj hw34
    replace ev34 := ev34.symm
    exact g_iret X h dX0_begin_37 (by refine ⟨?_, by rw [ev34, ev22, ev12, ev2]; rfl⟩; rw [hr34, ev22, up2_same, up2_slot (by decide), ev12, up2_slot (by decide), ev2, up2_same]; rfl)
  · skip
    obtain rfl : own = 4 := nI_eq1 (b := 4) hkd rfl (by omega) (by omega) hk7
    refine g_tr (y := 4) hk7 ?_
    refine lv_iload_n hx hb dX0_begin_30 rfl (lv_at hl 3 rfl) ?_
    refine lv_iload hx hb dX0_begin_31 (lv_at hl 4 rfl) ?_
    refine lv_iconst (v := 0) hx hb dX0_begin_33 (by decide) ?_
    refine g_ki h (g_runV X h (As := [.int 4, .int 0, .int x2, .int 0]) (rest := []) (c_X0_go_40 gl Z v22 w x2 0 0 rfl 4 (by omega) 0 (by rw [ev22, up2_slot (by decide), ev12, up2_same]; exact hkd) (by rw [ev22, up2_slot (by decide), ev12, up2_slot (by decide), ev2, up2_slot (by decide)]; exact htr) (by omega) (by omega)) mi_X0_go ml_RX0_41 (cc_110) (by decide) kl0 rfl ⟨Nat.le_of_ble_eq_true rfl, Nat.le_of_ble_eq_true rfl⟩ rfl hl.1 rfl (Nat.le_of_ble_eq_true rfl) dX0_begin_34) (fun r34 v34 w34 H locs hp34 h => ?_)
    obtain ⟨hr34, hw34⟩ := hp34
    obtain ⟨ev34, rfl⟩ := Prod.mk.inj hw34
    replace ev34 := ev34.symm
    exact g_iret X h dX0_begin_37 (by refine ⟨?_, by rw [ev34, ev22, ev12, ev2]; rfl⟩; rw [hr34, ev22, up2_same, up2_slot (by decide), ev12, up2_slot (by decide), ev2, up2_same]; rfl)
  · skip
    obtain rfl : own = 5 := nI_eq1 (b := 5) hkd rfl (by omega) (by omega) hk7
    refine g_tr (y := 5) hk7 ?_
    refine lv_iload_n hx hb dX0_begin_30 rfl (lv_at hl 3 rfl) ?_
    refine lv_iload hx hb dX0_begin_31 (lv_at hl 4 rfl) ?_
    refine lv_iconst (v := 0) hx hb dX0_begin_33 (by decide) ?_
    refine g_ki h (g_runV X h (As := [.int 5, .int 0, .int x2, .int 0]) (rest := []) (c_X0_go_50 gl Z v22 w x2 0 0 rfl 5 (by omega) 0 (by rw [ev22, up2_slot (by decide), ev12, up2_same]; exact hkd) (by rw [ev22, up2_slot (by decide), ev12, up2_slot (by decide), ev2, up2_slot (by decide)]; exact htr) (by omega) (by omega)) mi_X0_go ml_RX0_41 (cc_110) (by decide) kl0 rfl ⟨Nat.le_of_ble_eq_true rfl, Nat.le_of_ble_eq_true rfl⟩ rfl hl.1 rfl (Nat.le_of_ble_eq_true rfl) dX0_begin_34) (fun r34 v34 w34 H locs hp34 h => ?_)
    obtain ⟨hr34, hw34⟩ := hp34
    obtain ⟨ev34, rfl⟩ := Prod.mk.inj hw34
    replace ev34 := ev34.symm
    exact g_iret X h dX0_begin_37 (by refine ⟨?_, by rw [ev34, ev22, ev12, ev2]; rfl⟩; rw [hr34, ev22, up2_same, up2_slot (by decide), ev12, up2_slot (by decide), ev2, up2_same]; rfl)
  · skip
    obtain rfl : own = 6 := nI_eq1 (b := 6) hkd rfl (by omega) (by omega) hk7
    refine g_tr (y := 6) hk7 ?_
    refine lv_iload_n hx hb dX0_begin_30 rfl (lv_at hl 3 rfl) ?_
    refine lv_iload hx hb dX0_begin_31 (lv_at hl 4 rfl) ?_
    refine lv_iconst (v := 0) hx hb dX0_begin_33 (by decide) ?_
    refine g_ki h (g_runV X h (As := [.int 6, .int 0, .int x2, .int 0]) (rest := []) (c_X0_go_60 gl Z v22 w x2 0 0 rfl 6 (by omega) 0 (by rw [ev22, up2_slot (by decide), ev12, up2_same]; exact hkd) (by rw [ev22, up2_slot (by decide), ev12, up2_slot (by decide), ev2, up2_slot (by decide)]; exact htr) (by omega) (by omega)) mi_X0_go ml_RX0_41 (cc_110) (by decide) kl0 rfl ⟨Nat.le_of_ble_eq_true rfl, Nat.le_of_ble_eq_true rfl⟩ rfl hl.1 rfl (Nat.le_of_ble_eq_true rfl) dX0_begin_34) (fun r34 v34 w34 H locs hp34 h => ?_)
    obtain ⟨hr34, hw34⟩ := hp34
    obtain ⟨ev34, rfl⟩ := Prod.mk.inj hw34
    replace ev34 := ev34.symm
    exact g_iret X h dX0_begin_37 (by refine ⟨?_, by rw [ev34, ev22, ev12, ev2]; rfl⟩; rw [hr34, ev22, up2_same, up2_slot (by decide), ev12, up2_slot (by decide), ev2, up2_same]; rfl)

set_option maxRecDepth 100000 in
set_option maxHeartbeats 1000000 in
theorem c_X0_begin_a1 (gl : Launch) (Z : PL) (v : VV) (w : WV) (x0 : Int32) (p : Nat) (hp : x0 = nI p) (x2 : Int32) (hp6 : p < 6) (own : Nat) (ho6 : own ≤ 6) (hkd : v 54 p = nI own) (htr : v 110 1 = nI 0) : CT gl yX0_begin cX0_begin 5 (some .int) 6 163 Z [.ref (zg Z 110), .ref (zg Z 52), .int x0, .int 1, .int x2] v w (Qi Z (fun r u => r = actV own 1 x0 (v 55 p) x2 ∧ (ranCL (up2 (up2 (up2 v 110 2 x0) 110 3 (v 54 p)) 110 4 (v 55 p)) 0 (actL own 1), w) = u)) := by
  refine g_met (by decide) (Nat.le_of_ble_eq_true rfl) ?_
  intro gp ge gs gm ga gb gh gc X h ls hl
  have hx := X.1
  have hb := X.2.1
  have hl : lv_has ls 5 [(0, .ref (zg Z 110)), (1, .ref (zg Z 52)), (2, .int x0), (3, .int 1), (4, .int x2)] := hl
  refine lv_aload_n hx hb dX0_begin_0 rfl (lv_at hl 0 rfl) ?_
  refine lv_iload_n hx hb dX0_begin_1 rfl (lv_at hl 2 rfl) ?_
  refine g_puti X h (k := 2) (cc_110) fp_RX0_25 rfl (by decide) dX0_begin_2 (fun v2 H locs ev2 h => ?_)
  refine lv_aload_n hx hb dX0_begin_5 rfl (lv_at hl 0 rfl) ?_
  refine lv_aload_n hx hb dX0_begin_6 rfl (lv_at hl 1 rfl) ?_
  refine g_getr X h (k := 2) (t := 54) (cc_52) fr_RX0_28 rfl (by decide) (by decide) (by decide) dX0_begin_7 ?_
  refine lv_iload_n hx hb dX0_begin_10 rfl (lv_at hl 2 rfl) ?_
  refine g_iald X h (k := p) (cc_54) hp (by omega) (by decide) dX0_begin_11 ?_
  refine g_tr (y := (v 54 p)) (by rw [ev2, up2_ne (by omega)]) ?_
  refine g_puti X h (k := 3) (cc_110) fp_RX0_33 rfl (by decide) dX0_begin_12 (fun v12 H locs ev12 h => ?_)
  refine lv_aload_n hx hb dX0_begin_15 rfl (lv_at hl 0 rfl) ?_
  refine lv_aload_n hx hb dX0_begin_16 rfl (lv_at hl 1 rfl) ?_
  refine g_getr X h (k := 3) (t := 55) (cc_52) fr_RX0_36 rfl (by decide) (by decide) (by decide) dX0_begin_17 ?_
  refine lv_iload_n hx hb dX0_begin_20 rfl (lv_at hl 2 rfl) ?_
  refine g_iald X h (k := p) (cc_55) hp (by omega) (by decide) dX0_begin_21 ?_
  refine g_tr (y := (v 55 p)) (by rw [ev12, up2_ne (by omega), ev2, up2_ne (by omega)]) ?_
  refine g_puti X h (k := 4) (cc_110) fp_RX0_39 rfl (by decide) dX0_begin_22 (fun v22 H locs ev22 h => ?_)
  refine lv_aload_n hx hb dX0_begin_25 rfl (lv_at hl 0 rfl) ?_
  refine lv_aload_n hx hb dX0_begin_26 rfl (lv_at hl 0 rfl) ?_
  refine g_geti X h (k := 3) (cc_110) fr_RX0_33 rfl (by decide) dX0_begin_27 ?_
  refine g_tr (y := (v 54 p)) (by rw [ev22, up2_slot (by omega), ev12, up2_same]) ?_
  rcases kind7 hkd ho6 with hk7 | hk7 | hk7 | hk7 | hk7 | hk7 | hk7
  · skip
    obtain rfl : own = 0 := nI_eq1 (b := 0) hkd rfl (by omega) (by omega) hk7
    refine g_tr (y := 0) hk7 ?_
    refine lv_iload_n hx hb dX0_begin_30 rfl (lv_at hl 3 rfl) ?_
    refine lv_iload hx hb dX0_begin_31 (lv_at hl 4 rfl) ?_
    refine lv_iconst (v := 0) hx hb dX0_begin_33 (by decide) ?_
    refine g_ki h (g_runV X h (As := [.int 0, .int 1, .int x2, .int 0]) (rest := []) (c_X0_go_01 gl Z v22 w x2 0 0 rfl 0 (by omega) 0 (by rw [ev22, up2_slot (by decide), ev12, up2_same]; exact hkd) (by rw [ev22, up2_slot (by decide), ev12, up2_slot (by decide), ev2, up2_slot (by decide)]; exact htr) (by omega) (by omega)) mi_X0_go ml_RX0_41 (cc_110) (by decide) kl0 rfl ⟨Nat.le_of_ble_eq_true rfl, Nat.le_of_ble_eq_true rfl⟩ rfl hl.1 rfl (Nat.le_of_ble_eq_true rfl) dX0_begin_34) (fun r34 v34 w34 H locs hp34 h => ?_)
    obtain ⟨hr34, hw34⟩ := hp34
    obtain ⟨ev34, rfl⟩ := Prod.mk.inj hw34
    replace ev34 := ev34.symm
    exact g_iret X h dX0_begin_37 (by refine ⟨?_, by rw [ev34, ev22, ev12, ev2]; rfl⟩; rw [hr34, ev22, up2_same, up2_slot (by decide), ev12, up2_slot (by decide), ev2, up2_same]; rfl)
  · skip
    obtain rfl : own = 1 := nI_eq1 (b := 1) hkd rfl (by omega) (by omega) hk7
    refine g_tr (y := 1) hk7 ?_
    refine lv_iload_n hx hb dX0_begin_30 rfl (lv_at hl 3 rfl) ?_
    refine lv_iload hx hb dX0_begin_31 (lv_at hl 4 rfl) ?_
    refine lv_iconst (v := 0) hx hb dX0_begin_33 (by decide) ?_
    refine g_ki h (g_runV X h (As := [.int 1, .int 1, .int x2, .int 0]) (rest := []) (c_X0_go_11 gl Z v22 w x2 0 0 rfl 1 (by omega) 0 (by rw [ev22, up2_slot (by decide), ev12, up2_same]; exact hkd) (by rw [ev22, up2_slot (by decide), ev12, up2_slot (by decide), ev2, up2_slot (by decide)]; exact htr) (by omega) (by omega)) mi_X0_go ml_RX0_41 (cc_110) (by decide) kl0 rfl ⟨Nat.le_of_ble_eq_true rfl, Nat.le_of_ble_eq_true rfl⟩ rfl hl.1 rfl (Nat.le_of_ble_eq_true rfl) dX0_begin_34) (fun r34 v34 w34 H locs hp34 h => ?_)
    obtain ⟨hr34, hw34⟩ := hp34
    obtain ⟨ev34, rfl⟩ := Prod.mk.inj hw34
    replace ev34 := ev34.symm
    exact g_iret X h dX0_begin_37 (by refine ⟨?_, by rw [ev34, ev22, ev12, ev2]; rfl⟩; rw [hr34, ev22, up2_same, up2_slot (by decide), ev12, up2_slot (by decide), ev2, up2_same]; rfl)
  · skip
    obtain rfl : own = 2 := nI_eq1 (b := 2) hkd rfl (by omega) (by omega) hk7
    refine g_tr (y := 2) hk7 ?_
    refine lv_iload_n hx hb dX0_begin_30 rfl (lv_at hl 3 rfl) ?_
    refine lv_iload hx hb dX0_begin_31 (lv_at hl 4 rfl) ?_
    refine lv_iconst (v := 0) hx hb dX0_begin_33 (by decide) ?_
    refine g_ki h (g_runV X h (As := [.int 2, .int 1, .int x2, .int 0]) (rest := []) (c_X0_go_21 gl Z v22 w x2 0 0 rfl 2 (by omega) 0 (by rw [ev22, up2_slot (by decide), ev12, up2_same]; exact hkd) (by rw [ev22, up2_slot (by decide), ev12, up2_slot (by decide), ev2, up2_slot (by decide)]; exact htr) (by omega) (by omega)) mi_X0_go ml_RX0_41 (cc_110) (by decide) kl0 rfl ⟨Nat.le_of_ble_eq_true rfl, Nat.le_of_ble_eq_true rfl⟩ rfl hl.1 rfl (Nat.le_of_ble_eq_true rfl) dX0_begin_34) (fun r34 v34 w34 H locs hp34 h => ?_)
    obtain ⟨hr34, hw34⟩ := hp34
    obtain ⟨ev34, rfl⟩ := Prod.mk.inj hw34
    replace ev34 := ev34.symm
    exact g_iret X h dX0_begin_37 (by refine ⟨?_, by rw [ev34, ev22, ev12, ev2]; rfl⟩; rw [hr34, ev22, up2_same, up2_slot (by decide), ev12, up2_slot (by decide), ev2, up2_same]; rfl)
  · skip
    obtain rfl : own = 3 := nI_eq1 (b := 3) hkd rfl (by omega) (by omega) hk7
    refine g_tr (y := 3) hk7 ?_
    refine lv_iload_n hx hb dX0_begin_30 rfl (lv_at hl 3 rfl) ?_
    refine lv_iload hx hb dX0_begin_31 (lv_at hl 4 rfl) ?_
    refine lv_iconst (v := 0) hx hb dX0_begin_33 (by decide) ?_
    refine g_ki h (g_runV X h (As := [.int 3, .int 1, .int x2, .int 0]) (rest := []) (c_X0_go_31 gl Z v22 w x2 0 0 rfl 3 (by omega) 0 (by rw [ev22, up2_slot (by decide), ev12, up2_same]; exact hkd) (by rw [ev22, up2_slot (by decide), ev12, up2_slot (by decide), ev2, up2_slot (by decide)]; exact htr) (by omega) (by omega)) mi_X0_go ml_RX0_41 (cc_110) (by decide) kl0 rfl ⟨Nat.le_of_ble_eq_true rfl, Nat.le_of_ble_eq_true rfl⟩ rfl hl.1 rfl (Nat.le_of_ble_eq_true rfl) dX0_begin_34) (fun r34 v34 w34 H locs hp34 h => ?_)
    obtain ⟨hr34, hw34⟩ := hp34
    obtain ⟨ev34, rfl⟩ := Prod.mk.inj hw34
    replace ev34 := ev34.symm
    exact g_iret X h dX0_begin_37 (by refine ⟨?_, by rw [ev34, ev22, ev12, ev2]; rfl⟩; rw [hr34, ev22, up2_same, up2_slot (by decide), ev12, up2_slot (by decide), ev2, up2_same]; rfl)
  · skip
    obtain rfl : own = 4 := nI_eq1 (b := 4) hkd rfl (by omega) (by omega) hk7
    refine g_tr (y := 4) hk7 ?_
    refine lv_iload_n hx hb dX0_begin_30 rfl (lv_at hl 3 rfl) ?_
    refine lv_iload hx hb dX0_begin_31 (lv_at hl 4 rfl) ?_
    refine lv_iconst (v := 0) hx hb dX0_begin_33 (by decide) ?_
    refine g_ki h (g_runV X h (As := [.int 4, .int 1, .int x2, .int 0]) (rest := []) (c_X0_go_41 gl Z v22 w x2 0 0 rfl 4 (by omega) 0 (by rw [ev22, up2_slot (by decide), ev12, up2_same]; exact hkd) (by rw [ev22, up2_slot (by decide), ev12, up2_slot (by decide), ev2, up2_slot (by decide)]; exact htr) (by omega) (by omega)) mi_X0_go ml_RX0_41 (cc_110) (by decide) kl0 rfl ⟨Nat.le_of_ble_eq_true rfl, Nat.le_of_ble_eq_true rfl⟩ rfl hl.1 rfl (Nat.le_of_ble_eq_true rfl) dX0_begin_34) (fun r34 v34 w34 H locs hp34 h => ?_)
    obtain ⟨hr34, hw34⟩ := hp34
    obtain ⟨ev34, rfl⟩ := Prod.mk.inj hw34
    replace ev34 := ev34.symm
    exact g_iret X h dX0_begin_37 (by refine ⟨?_, by rw [ev34, ev22, ev12, ev2]; rfl⟩; rw [hr34, ev22, up2_same, up2_slot (by decide), ev12, up2_slot (by decide), ev2, up2_same]; rfl)
  · skip
    obtain rfl : own = 5 := nI_eq1 (b := 5) hkd rfl (by omega) (by omega) hk7
    refine g_tr (y := 5) hk7 ?_
    refine lv_iload_n hx hb dX0_begin_30 rfl (lv_at hl 3 rfl) ?_
    refine lv_iload hx hb dX0_begin_31 (lv_at hl 4 rfl) ?_
    refine lv_iconst (v := 0) hx hb dX0_begin_33 (by decide) ?_
    refine g_ki h (g_runV X h (As := [.int 5, .int 1, .int x2, .int 0]) (rest := []) (c_X0_go_51 gl Z v22 w x2 0 0 rfl 5 (by omega) 0 (by rw [ev22, up2_slot (by decide), ev12, up2_same]; exact hkd) (by rw [ev22, up2_slot (by decide), ev12, up2_slot (by decide), ev2, up2_slot (by decide)]; exact htr) (by omega) (by omega)) mi_X0_go ml_RX0_41 (cc_110) (by decide) kl0 rfl ⟨Nat.le_of_ble_eq_true rfl, Nat.le_of_ble_eq_true rfl⟩ rfl hl.1 rfl (Nat.le_of_ble_eq_true rfl) dX0_begin_34) (fun r34 v34 w34 H locs hp34 h => ?_)
    obtain ⟨hr34, hw34⟩ := hp34
    obtain ⟨ev34, rfl⟩ := Prod.mk.inj hw34
    replace ev34 := ev34.symm
    exact g_iret X h dX0_begin_37 (by refine ⟨?_, by rw [ev34, ev22, ev12, ev2]; rfl⟩; rw [hr34, ev22, up2_same, up2_slot (by decide), ev12, up2_slot (by decide), ev2, up2_same]; rfl)
  · skip
    obtain rfl : own = 6 := nI_eq1 (b := 6) hkd rfl (by omega) (by omega) hk7
    refine g_tr (y := 6) hk7 ?_
    refine lv_iload_n hx hb dX0_begin_30 rfl (lv_at hl 3 rfl) ?_
    refine lv_iload hx hb dX0_begin_31 (lv_at hl 4 rfl) ?_
    refine lv_iconst (v := 0) hx hb dX0_begin_33 (by decide) ?_
    refine g_ki h (g_runV X h (As := [.int 6, .int 1, .int x2, .int 0]) (rest := []) (c_X0_go_61 gl Z v22 w x2 0 0 rfl 6 (by omega) 0 (by rw [ev22, up2_slot (by decide), ev12, up2_same]; exact hkd) (by rw [ev22, up2_slot (by decide), ev12, up2_slot (by decide), ev2, up2_slot (by decide)]; exact htr) (by omega) (by omega)) mi_X0_go ml_RX0_41 (cc_110) (by decide) kl0 rfl ⟨Nat.le_of_ble_eq_true rfl, Nat.le_of_ble_eq_true rfl⟩ rfl hl.1 rfl (Nat.le_of_ble_eq_true rfl) dX0_begin_34) (fun r34 v34 w34 H locs hp34 h => ?_)
    obtain ⟨hr34, hw34⟩ := hp34
    obtain ⟨ev34, rfl⟩ := Prod.mk.inj hw34
    replace ev34 := ev34.symm
    exact g_iret X h dX0_begin_37 (by refine ⟨?_, by rw [ev34, ev22, ev12, ev2]; rfl⟩; rw [hr34, ev22, up2_same, up2_slot (by decide), ev12, up2_slot (by decide), ev2, up2_same]; rfl)

set_option maxRecDepth 100000 in
set_option maxHeartbeats 1000000 in
theorem c_X0_begin_a2 (gl : Launch) (Z : PL) (v : VV) (w : WV) (x0 : Int32) (p : Nat) (hp : x0 = nI p) (x2 : Int32) (hp6 : p < 6) (own : Nat) (ho6 : own ≤ 6) (hkd : v 54 p = nI own) (htr : v 110 1 = nI 0) : CT gl yX0_begin cX0_begin 5 (some .int) 8 219 Z [.ref (zg Z 110), .ref (zg Z 52), .int x0, .int 2, .int x2] v w (Qi Z (fun r u => r = actV own 2 x0 (v 55 p) x2 ∧ (ranCL (up2 (up2 (up2 v 110 2 x0) 110 3 (v 54 p)) 110 4 (v 55 p)) 0 (actL own 2), w) = u)) := by
  refine g_met (by decide) (Nat.le_of_ble_eq_true rfl) ?_
  intro gp ge gs gm ga gb gh gc X h ls hl
  have hx := X.1
  have hb := X.2.1
  have hl : lv_has ls 5 [(0, .ref (zg Z 110)), (1, .ref (zg Z 52)), (2, .int x0), (3, .int 2), (4, .int x2)] := hl
  refine lv_aload_n hx hb dX0_begin_0 rfl (lv_at hl 0 rfl) ?_
  refine lv_iload_n hx hb dX0_begin_1 rfl (lv_at hl 2 rfl) ?_
  refine g_puti X h (k := 2) (cc_110) fp_RX0_25 rfl (by decide) dX0_begin_2 (fun v2 H locs ev2 h => ?_)
  refine lv_aload_n hx hb dX0_begin_5 rfl (lv_at hl 0 rfl) ?_
  refine lv_aload_n hx hb dX0_begin_6 rfl (lv_at hl 1 rfl) ?_
  refine g_getr X h (k := 2) (t := 54) (cc_52) fr_RX0_28 rfl (by decide) (by decide) (by decide) dX0_begin_7 ?_
  refine lv_iload_n hx hb dX0_begin_10 rfl (lv_at hl 2 rfl) ?_
  refine g_iald X h (k := p) (cc_54) hp (by omega) (by decide) dX0_begin_11 ?_
  refine g_tr (y := (v 54 p)) (by rw [ev2, up2_ne (by omega)]) ?_
  refine g_puti X h (k := 3) (cc_110) fp_RX0_33 rfl (by decide) dX0_begin_12 (fun v12 H locs ev12 h => ?_)
  refine lv_aload_n hx hb dX0_begin_15 rfl (lv_at hl 0 rfl) ?_
  refine lv_aload_n hx hb dX0_begin_16 rfl (lv_at hl 1 rfl) ?_
  refine g_getr X h (k := 3) (t := 55) (cc_52) fr_RX0_36 rfl (by decide) (by decide) (by decide) dX0_begin_17 ?_
  refine lv_iload_n hx hb dX0_begin_20 rfl (lv_at hl 2 rfl) ?_
  refine g_iald X h (k := p) (cc_55) hp (by omega) (by decide) dX0_begin_21 ?_
  refine g_tr (y := (v 55 p)) (by rw [ev12, up2_ne (by omega), ev2, up2_ne (by omega)]) ?_
  refine g_puti X h (k := 4) (cc_110) fp_RX0_39 rfl (by decide) dX0_begin_22 (fun v22 H locs ev22 h => ?_)
  refine lv_aload_n hx hb dX0_begin_25 rfl (lv_at hl 0 rfl) ?_
  refine lv_aload_n hx hb dX0_begin_26 rfl (lv_at hl 0 rfl) ?_
  refine g_geti X h (k := 3) (cc_110) fr_RX0_33 rfl (by decide) dX0_begin_27 ?_
  refine g_tr (y := (v 54 p)) (by rw [ev22, up2_slot (by omega), ev12, up2_same]) ?_
  rcases kind7 hkd ho6 with hk7 | hk7 | hk7 | hk7 | hk7 | hk7 | hk7
  · skip
    obtain rfl : own = 0 := nI_eq1 (b := 0) hkd rfl (by omega) (by omega) hk7
    refine g_tr (y := 0) hk7 ?_
    refine lv_iload_n hx hb dX0_begin_30 rfl (lv_at hl 3 rfl) ?_
    refine lv_iload hx hb dX0_begin_31 (lv_at hl 4 rfl) ?_
    refine lv_iconst (v := 0) hx hb dX0_begin_33 (by decide) ?_
    refine g_ki h (g_runV X h (As := [.int 0, .int 2, .int x2, .int 0]) (rest := []) (c_X0_go_02 gl Z v22 w x2 0 0 rfl 0 (by omega) 0 (by rw [ev22, up2_slot (by decide), ev12, up2_same]; exact hkd) (by rw [ev22, up2_slot (by decide), ev12, up2_slot (by decide), ev2, up2_slot (by decide)]; exact htr) (by omega) (by omega)) mi_X0_go ml_RX0_41 (cc_110) (by decide) kl0 rfl ⟨Nat.le_of_ble_eq_true rfl, Nat.le_of_ble_eq_true rfl⟩ rfl hl.1 rfl (Nat.le_of_ble_eq_true rfl) dX0_begin_34) (fun r34 v34 w34 H locs hp34 h => ?_)
    obtain ⟨hr34, hw34⟩ := hp34
    obtain ⟨ev34, rfl⟩ := Prod.mk.inj hw34
    replace ev34 := ev34.symm
    exact g_iret X h dX0_begin_37 (by refine ⟨?_, by rw [ev34, ev22, ev12, ev2]; rfl⟩; rw [hr34, ev22, up2_same, up2_slot (by decide), ev12, up2_slot (by decide), ev2, up2_same]; rfl)
  · skip
    obtain rfl : own = 1 := nI_eq1 (b := 1) hkd rfl (by omega) (by omega) hk7
    refine g_tr (y := 1) hk7 ?_
    refine lv_iload_n hx hb dX0_begin_30 rfl (lv_at hl 3 rfl) ?_
    refine lv_iload hx hb dX0_begin_31 (lv_at hl 4 rfl) ?_
    refine lv_iconst (v := 0) hx hb dX0_begin_33 (by decide) ?_
    refine g_ki h (g_runV X h (As := [.int 1, .int 2, .int x2, .int 0]) (rest := []) (c_X0_go_12 gl Z v22 w x2 0 0 rfl 1 (by omega) 0 (by rw [ev22, up2_slot (by decide), ev12, up2_same]; exact hkd) (by rw [ev22, up2_slot (by decide), ev12, up2_slot (by decide), ev2, up2_slot (by decide)]; exact htr) (by omega) (by omega)) mi_X0_go ml_RX0_41 (cc_110) (by decide) kl0 rfl ⟨Nat.le_of_ble_eq_true rfl, Nat.le_of_ble_eq_true rfl⟩ rfl hl.1 rfl (Nat.le_of_ble_eq_true rfl) dX0_begin_34) (fun r34 v34 w34 H locs hp34 h => ?_)
    obtain ⟨hr34, hw34⟩ := hp34
    obtain ⟨ev34, rfl⟩ := Prod.mk.inj hw34
    replace ev34 := ev34.symm
    exact g_iret X h dX0_begin_37 (by refine ⟨?_, by rw [ev34, ev22, ev12, ev2]; rfl⟩; rw [hr34, ev22, up2_same, up2_slot (by decide), ev12, up2_slot (by decide), ev2, up2_same]; rfl)
  · skip
    obtain rfl : own = 2 := nI_eq1 (b := 2) hkd rfl (by omega) (by omega) hk7
    refine g_tr (y := 2) hk7 ?_
    refine lv_iload_n hx hb dX0_begin_30 rfl (lv_at hl 3 rfl) ?_
    refine lv_iload hx hb dX0_begin_31 (lv_at hl 4 rfl) ?_
    refine lv_iconst (v := 0) hx hb dX0_begin_33 (by decide) ?_
    refine g_ki h (g_runV X h (As := [.int 2, .int 2, .int x2, .int 0]) (rest := []) (c_X0_go_22 gl Z v22 w x2 0 0 rfl 2 (by omega) 0 (by rw [ev22, up2_slot (by decide), ev12, up2_same]; exact hkd) (by rw [ev22, up2_slot (by decide), ev12, up2_slot (by decide), ev2, up2_slot (by decide)]; exact htr) (by omega) (by omega)) mi_X0_go ml_RX0_41 (cc_110) (by decide) kl0 rfl ⟨Nat.le_of_ble_eq_true rfl, Nat.le_of_ble_eq_true rfl⟩ rfl hl.1 rfl (Nat.le_of_ble_eq_true rfl) dX0_begin_34) (fun r34 v34 w34 H locs hp34 h => ?_)
    obtain ⟨hr34, hw34⟩ := hp34
    obtain ⟨ev34, rfl⟩ := Prod.mk.inj hw34
    replace ev34 := ev34.symm
    exact g_iret X h dX0_begin_37 (by refine ⟨?_, by rw [ev34, ev22, ev12, ev2]; rfl⟩; rw [hr34, ev22, up2_same, up2_slot (by decide), ev12, up2_slot (by decide), ev2, up2_same]; rfl)
  · skip
    obtain rfl : own = 3 := nI_eq1 (b := 3) hkd rfl (by omega) (by omega) hk7
    refine g_tr (y := 3) hk7 ?_
    refine lv_iload_n hx hb dX0_begin_30 rfl (lv_at hl 3 rfl) ?_
    refine lv_iload hx hb dX0_begin_31 (lv_at hl 4 rfl) ?_
    refine lv_iconst (v := 0) hx hb dX0_begin_33 (by decide) ?_
    refine g_ki h (g_runV X h (As := [.int 3, .int 2, .int x2, .int 0]) (rest := []) (c_X0_go_32 gl Z v22 w x2 0 0 rfl 3 (by omega) 0 (by rw [ev22, up2_slot (by decide), ev12, up2_same]; exact hkd) (by rw [ev22, up2_slot (by decide), ev12, up2_slot (by decide), ev2, up2_slot (by decide)]; exact htr) (by omega) (by omega)) mi_X0_go ml_RX0_41 (cc_110) (by decide) kl0 rfl ⟨Nat.le_of_ble_eq_true rfl, Nat.le_of_ble_eq_true rfl⟩ rfl hl.1 rfl (Nat.le_of_ble_eq_true rfl) dX0_begin_34) (fun r34 v34 w34 H locs hp34 h => ?_)
    obtain ⟨hr34, hw34⟩ := hp34
    obtain ⟨ev34, rfl⟩ := Prod.mk.inj hw34
    replace ev34 := ev34.symm
    exact g_iret X h dX0_begin_37 (by refine ⟨?_, by rw [ev34, ev22, ev12, ev2]; rfl⟩; rw [hr34, ev22, up2_same, up2_slot (by decide), ev12, up2_slot (by decide), ev2, up2_same]; rfl)
  · skip
    obtain rfl : own = 4 := nI_eq1 (b := 4) hkd rfl (by omega) (by omega) hk7
    refine g_tr (y := 4) hk7 ?_
    refine lv_iload_n hx hb dX0_begin_30 rfl (lv_at hl 3 rfl) ?_
    refine lv_iload hx hb dX0_begin_31 (lv_at hl 4 rfl) ?_
    refine lv_iconst (v := 0) hx hb dX0_begin_33 (by decide) ?_
    refine g_ki h (g_runV X h (As := [.int 4, .int 2, .int x2, .int 0]) (rest := []) (c_X0_go_42 gl Z v22 w x2 0 0 rfl 4 (by omega) 0 (by rw [ev22, up2_slot (by decide), ev12, up2_same]; exact hkd) (by rw [ev22, up2_slot (by decide), ev12, up2_slot (by decide), ev2, up2_slot (by decide)]; exact htr) (by omega) (by omega)) mi_X0_go ml_RX0_41 (cc_110) (by decide) kl0 rfl ⟨Nat.le_of_ble_eq_true rfl, Nat.le_of_ble_eq_true rfl⟩ rfl hl.1 rfl (Nat.le_of_ble_eq_true rfl) dX0_begin_34) (fun r34 v34 w34 H locs hp34 h => ?_)
    obtain ⟨hr34, hw34⟩ := hp34
    obtain ⟨ev34, rfl⟩ := Prod.mk.inj hw34
    replace ev34 := ev34.symm
    exact g_iret X h dX0_begin_37 (by refine ⟨?_, by rw [ev34, ev22, ev12, ev2]; rfl⟩; rw [hr34, ev22, up2_same, up2_slot (by decide), ev12, up2_slot (by decide), ev2, up2_same]; rfl)
  · skip
    obtain rfl : own = 5 := nI_eq1 (b := 5) hkd rfl (by omega) (by omega) hk7
    refine g_tr (y := 5) hk7 ?_
    refine lv_iload_n hx hb dX0_begin_30 rfl (lv_at hl 3 rfl) ?_
    refine lv_iload hx hb dX0_begin_31 (lv_at hl 4 rfl) ?_
    refine lv_iconst (v := 0) hx hb dX0_begin_33 (by decide) ?_
    refine g_ki h (g_runV X h (As := [.int 5, .int 2, .int x2, .int 0]) (rest := []) (c_X0_go_52 gl Z v22 w x2 0 0 rfl 5 (by omega) 0 (by rw [ev22, up2_slot (by decide), ev12, up2_same]; exact hkd) (by rw [ev22, up2_slot (by decide), ev12, up2_slot (by decide), ev2, up2_slot (by decide)]; exact htr) (by omega) (by omega)) mi_X0_go ml_RX0_41 (cc_110) (by decide) kl0 rfl ⟨Nat.le_of_ble_eq_true rfl, Nat.le_of_ble_eq_true rfl⟩ rfl hl.1 rfl (Nat.le_of_ble_eq_true rfl) dX0_begin_34) (fun r34 v34 w34 H locs hp34 h => ?_)
    obtain ⟨hr34, hw34⟩ := hp34
    obtain ⟨ev34, rfl⟩ := Prod.mk.inj hw34
    replace ev34 := ev34.symm
    exact g_iret X h dX0_begin_37 (by refine ⟨?_, by rw [ev34, ev22, ev12, ev2]; rfl⟩; rw [hr34, ev22, up2_same, up2_slot (by decide), ev12, up2_slot (by decide), ev2, up2_same]; rfl)
  · skip
    obtain rfl : own = 6 := nI_eq1 (b := 6) hkd rfl (by omega) (by omega) hk7
    refine g_tr (y := 6) hk7 ?_
    refine lv_iload_n hx hb dX0_begin_30 rfl (lv_at hl 3 rfl) ?_
    refine lv_iload hx hb dX0_begin_31 (lv_at hl 4 rfl) ?_
    refine lv_iconst (v := 0) hx hb dX0_begin_33 (by decide) ?_
    refine g_ki h (g_runV X h (As := [.int 6, .int 2, .int x2, .int 0]) (rest := []) (c_X0_go_62 gl Z v22 w x2 0 0 rfl 6 (by omega) 0 (by rw [ev22, up2_slot (by decide), ev12, up2_same]; exact hkd) (by rw [ev22, up2_slot (by decide), ev12, up2_slot (by decide), ev2, up2_slot (by decide)]; exact htr) (by omega) (by omega)) mi_X0_go ml_RX0_41 (cc_110) (by decide) kl0 rfl ⟨Nat.le_of_ble_eq_true rfl, Nat.le_of_ble_eq_true rfl⟩ rfl hl.1 rfl (Nat.le_of_ble_eq_true rfl) dX0_begin_34) (fun r34 v34 w34 H locs hp34 h => ?_)
    obtain ⟨hr34, hw34⟩ := hp34
    obtain ⟨ev34, rfl⟩ := Prod.mk.inj hw34
    replace ev34 := ev34.symm
    exact g_iret X h dX0_begin_37 (by refine ⟨?_, by rw [ev34, ev22, ev12, ev2]; rfl⟩; rw [hr34, ev22, up2_same, up2_slot (by decide), ev12, up2_slot (by decide), ev2, up2_same]; rfl)

set_option maxRecDepth 100000 in
set_option maxHeartbeats 1000000 in
theorem c_X7_act (gl : Launch) (Z : PL) (v : VV) (w : WV) (x0 : Int32) (x1 : Int32) (x2 : Int32) (n : Nat) (hn : v 52 0 = nI n) (h6 : n ≤ 6) (hkr : ∀ p, p < n → ∃ o, o ≤ 6 ∧ v 54 p = nI o) : CT gl yX7_act cX7_act 4 (some .int) 9 243 Z [.ref (zg Z 0), .int x0, .int x1, .int x2] v w (Qi Z (fun r u => r = sAct n (v 54) (v 55) x0 x1 x2 ∧ (u.1, w) = u ∧ ∃ v1 : VV, v1 110 1 = 0 ∧ (∀ i, i ≠ 110 → v1 i = v i) ∧ u.1 = ranCL v1 0 (lAct n (v 54) x0 x1))) := by
  refine g_met (by decide) (Nat.le_of_ble_eq_true rfl) ?_
  intro gp ge gs gm ga gb gh gc X h ls hl
  have hx := X.1
  have hb := X.2.1
  have hl : lv_has ls 4 [(0, .ref (zg Z 0)), (1, .int x0), (2, .int x1), (3, .int x2)] := hl
  refine lv_aload_n hx hb dX7_act_0 rfl (lv_at hl 0 rfl) ?_
  refine g_getr X h (k := 8) (t := 110) (cc_0) fr_RX7_47 rfl (by decide) (by decide) (by decide) dX7_act_1 ?_
  refine g_kv h (g_runV X h (As := []) (rest := []) (c_X0_forget gl Z v w) mi_X0_forget ml_RX7_243 (cc_110) (by decide) kl0 rfl ⟨Nat.le_of_ble_eq_true rfl, Nat.le_of_ble_eq_true rfl⟩ rfl hl.1 rfl (Nat.le_of_ble_eq_true rfl) dX7_act_4) (fun v4 w4 H locs hp4 h => ?_)
  obtain ⟨ev4, rfl⟩ := Prod.mk.inj hp4
  replace ev4 := ev4.symm
  refine lv_aload_n hx hb dX7_act_7 rfl (lv_at hl 0 rfl) ?_
  refine lv_iload_n hx hb dX7_act_8 rfl (lv_at hl 1 rfl) ?_
  refine g_ki h (g_runV X h (As := [.int x0]) (rest := []) (c_X7_isPerson gl Z v4 w x0 n (by rw [ev4, up2_ne (by decide)]; exact hn) h6) mi_X7_isPerson ml_RX7_76 (cc_0) (by decide) kl7 rfl ⟨Nat.le_of_ble_eq_true rfl, Nat.le_of_ble_eq_true rfl⟩ rfl hl.1 rfl (Nat.le_of_ble_eq_true rfl) dX7_act_9) (fun r9 v9 w9 H locs hp9 h => ?_)
  obtain ⟨hr9, hu9⟩ := hp9; obtain ⟨rfl, rfl⟩ := Prod.mk.inj hu9
  refine lv_if_eq (tgt := 24) hx hb dX7_act_12 (by decide) (fun c_12 => ?_) (fun c_12 => ?_)
  · skip
    rw [hr9, bI_0] at c_12
    refine lv_iconst (v := 0) hx hb dX7_act_24 (by decide) ?_
    exact g_iret X h dX7_act_25 ⟨by rw [sAct, if_neg (by rw [c_12]; simp)], rfl, v4, by rw [ev4]; exact up2_same _ _ _ _, fun i hi => by rw [ev4, up2_ne hi], by rw [lAct, if_neg (by rw [c_12]; simp)]; rfl⟩
  · skip
    rw [hr9, bI_n] at c_12
    obtain ⟨k, hk, hkn, hkc⟩ := isP_nat (by omega) c_12
    obtain ⟨own, ho6, hkd⟩ := hkr k hkn
    refine lv_iload_n hx hb dX7_act_15 rfl (lv_at hl 2 rfl) ?_
    refine lv_iconst (v := 0) hx hb dX7_act_16 (by decide) ?_
    refine lv_iconst (v := 2) hx hb dX7_act_17 (by decide) ?_
    refine g_ki h (g_runS X h (As := [.int x1, .int 0, .int 2]) (rest := []) (c_X7_isWithin gl Z v4 w x1 0 2) ms_X7_isWithin ml_RX7_58 ⟨Nat.le_of_ble_eq_true rfl, Nat.le_of_ble_eq_true rfl⟩ rfl hl.1 rfl (Nat.le_of_ble_eq_true rfl) dX7_act_18) (fun r18 v18 w18 H locs hp18 h => ?_)
    obtain ⟨hr18, hu18⟩ := hp18; obtain ⟨rfl, rfl⟩ := Prod.mk.inj hu18
    refine lv_if_ne (tgt := 26) hx hb dX7_act_21 (by decide) (fun c_21 => ?_) (fun c_21 => ?_)
    · skip
      rw [hr18, bI_n] at c_21
      refine lv_aload_n hx hb dX7_act_26 rfl (lv_at hl 0 rfl) ?_
      refine g_getr X h (k := 8) (t := 110) (cc_0) fr_RX7_47 rfl (by decide) (by decide) (by decide) dX7_act_27 ?_
      refine lv_aload_n hx hb dX7_act_30 rfl (lv_at hl 0 rfl) ?_
      refine g_getr X h (k := 1) (t := 51) (cc_0) fr_RX7_23 rfl (by decide) (by decide) (by decide) dX7_act_31 ?_
      refine g_getr X h (k := 0) (t := 52) (cc_51) fr_RX7_62 rfl (by decide) (by decide) (by decide) dX7_act_34 ?_
      refine lv_iload_n hx hb dX7_act_37 rfl (lv_at hl 1 rfl) ?_
      refine lv_iload_n hx hb dX7_act_38 rfl (lv_at hl 2 rfl) ?_
      rcases in02 c_21 with ha7 | ha7 | ha7
      · skip
        refine g_tr (y := 0) ha7 ?_
        refine lv_iload_n hx hb dX7_act_39 rfl (lv_at hl 3 rfl) ?_
        refine g_ki h (g_runV X h (As := [.ref (zg Z 52), .int x0, .int 0, .int x2]) (rest := []) (c_X0_begin_a0 gl Z v4 w x0 k hk x2 (by omega) own ho6 (by rw [ev4, up2_ne (by decide)]; exact hkd) (by rw [ev4]; exact up2_same _ _ _ _)) mi_X0_begin ml_RX7_246 (cc_110) (by decide) kl0 rfl ⟨Nat.le_of_ble_eq_true rfl, Nat.le_of_ble_eq_true rfl⟩ rfl hl.1 rfl (Nat.le_of_ble_eq_true rfl) dX7_act_40) (fun r40 v40 w40 H locs hp40 h => ?_)
        obtain ⟨hr40, hu40⟩ := hp40
        obtain ⟨ev40, rfl⟩ := Prod.mk.inj hu40
        replace ev40 := ev40.symm
        exact g_iret X h dX7_act_43 ⟨by rw [sAct, if_pos (by rw [c_12, c_21]; rfl), hkc, hkd, nI_clamp (by omega), hr40, ev4, up2_ne (by decide), ha7], rfl, up2 (up2 (up2 v4 110 2 x0) 110 3 (v4 54 k)) 110 4 (v4 55 k), by rw [up2_slot (by decide), up2_slot (by decide), up2_slot (by decide), ev4]; exact up2_same _ _ _ _, fun i hi => by rw [up2_ne hi, up2_ne hi, up2_ne hi, ev4, up2_ne hi], by show v40 = _; rw [lAct, if_pos (by rw [c_12, c_21]; rfl), hkc, hkd, nI_clamp (by omega), ha7, ev40]⟩
      · skip
        refine g_tr (y := 1) ha7 ?_
        refine lv_iload_n hx hb dX7_act_39 rfl (lv_at hl 3 rfl) ?_
        refine g_ki h (g_runV X h (As := [.ref (zg Z 52), .int x0, .int 1, .int x2]) (rest := []) (c_X0_begin_a1 gl Z v4 w x0 k hk x2 (by omega) own ho6 (by rw [ev4, up2_ne (by decide)]; exact hkd) (by rw [ev4]; exact up2_same _ _ _ _)) mi_X0_begin ml_RX7_246 (cc_110) (by decide) kl0 rfl ⟨Nat.le_of_ble_eq_true rfl, Nat.le_of_ble_eq_true rfl⟩ rfl hl.1 rfl (Nat.le_of_ble_eq_true rfl) dX7_act_40) (fun r40 v40 w40 H locs hp40 h => ?_)
        obtain ⟨hr40, hu40⟩ := hp40
        obtain ⟨ev40, rfl⟩ := Prod.mk.inj hu40
        replace ev40 := ev40.symm
        exact g_iret X h dX7_act_43 ⟨by rw [sAct, if_pos (by rw [c_12, c_21]; rfl), hkc, hkd, nI_clamp (by omega), hr40, ev4, up2_ne (by decide), ha7], rfl, up2 (up2 (up2 v4 110 2 x0) 110 3 (v4 54 k)) 110 4 (v4 55 k), by rw [up2_slot (by decide), up2_slot (by decide), up2_slot (by decide), ev4]; exact up2_same _ _ _ _, fun i hi => by rw [up2_ne hi, up2_ne hi, up2_ne hi, ev4, up2_ne hi], by show v40 = _; rw [lAct, if_pos (by rw [c_12, c_21]; rfl), hkc, hkd, nI_clamp (by omega), ha7, ev40]⟩
      · skip
        refine g_tr (y := 2) ha7 ?_
        refine lv_iload_n hx hb dX7_act_39 rfl (lv_at hl 3 rfl) ?_
        refine g_ki h (g_runV X h (As := [.ref (zg Z 52), .int x0, .int 2, .int x2]) (rest := []) (c_X0_begin_a2 gl Z v4 w x0 k hk x2 (by omega) own ho6 (by rw [ev4, up2_ne (by decide)]; exact hkd) (by rw [ev4]; exact up2_same _ _ _ _)) mi_X0_begin ml_RX7_246 (cc_110) (by decide) kl0 rfl ⟨Nat.le_of_ble_eq_true rfl, Nat.le_of_ble_eq_true rfl⟩ rfl hl.1 rfl (Nat.le_of_ble_eq_true rfl) dX7_act_40) (fun r40 v40 w40 H locs hp40 h => ?_)
        obtain ⟨hr40, hu40⟩ := hp40
        obtain ⟨ev40, rfl⟩ := Prod.mk.inj hu40
        replace ev40 := ev40.symm
        exact g_iret X h dX7_act_43 ⟨by rw [sAct, if_pos (by rw [c_12, c_21]; rfl), hkc, hkd, nI_clamp (by omega), hr40, ev4, up2_ne (by decide), ha7], rfl, up2 (up2 (up2 v4 110 2 x0) 110 3 (v4 54 k)) 110 4 (v4 55 k), by rw [up2_slot (by decide), up2_slot (by decide), up2_slot (by decide), ev4]; exact up2_same _ _ _ _, fun i hi => by rw [up2_ne hi, up2_ne hi, up2_ne hi, ev4, up2_ne hi], by show v40 = _; rw [lAct, if_pos (by rw [c_12, c_21]; rfl), hkc, hkd, nI_clamp (by omega), ha7, ev40]⟩
    · skip
      rw [hr18, bI_0] at c_21
      refine lv_iconst (v := 0) hx hb dX7_act_24 (by decide) ?_
      exact g_iret X h dX7_act_25 ⟨by rw [sAct, if_neg (by rw [c_21]; simp)], rfl, v4, by rw [ev4]; exact up2_same _ _ _ _, fun i hi => by rw [ev4, up2_ne hi], by rw [lAct, if_neg (by rw [c_21]; simp)]; rfl⟩

set_option maxRecDepth 100000 in
set_option maxHeartbeats 1000000 in
theorem c_X7_image (gl : Launch) (Z : PL) (v : VV) (w : WV) (n : Nat) (B : Nat) (j : Nat) (L : LND) (hcn : CN v n B j L) (zs : Nat) (zw : Nat) (zb : Nat) (hzs : v 61 2 = nI zs ∧ zs ≤ 5) (hzw : v 64 2 = nI zw ∧ zw ≤ 10) (hzb : v 67 2 = nI zb ∧ zb ≤ 8) : CT gl yX7_image cX7_image 1 (some .int) 4 123 Z [.ref (zg Z 0)] v w (Qi Z (fun r u => r = nI n ∧ (u.1, w) = u ∧ (xC u.1 89 n = xC v 51 n ∧ u.1 89 6 = nI j ∧ stW u.1 89 j) ∧ PQ u.1 99 zs (v 62) (v 63) ∧ PQ u.1 102 zw (v 65) (v 66) ∧ PQ u.1 105 zb (v 68) (v 69) ∧ imF v u.1 ∧ u.1 0 4 = 1)) := by
  refine g_met (by decide) (Nat.le_of_ble_eq_true rfl) ?_
  intro gp ge gs gm ga gb gh gc X h ls hl
  have hx := X.1
  have hb := X.2.1
  have hl : lv_has ls 1 [(0, .ref (zg Z 0))] := hl
  obtain ⟨hn, h6, hj7, hland, hst, hrx, hB⟩ := CN.f hcn
  refine lv_aload_n hx hb dX7_image_0 rfl (lv_at hl 0 rfl) ?_
  refine g_getr X h (k := 3) (t := 89) (cc_0) fr_RX7_30 rfl (by decide) (by decide) (by decide) dX7_image_1 ?_
  refine lv_aload_n hx hb dX7_image_4 rfl (lv_at hl 0 rfl) ?_
  refine g_getr X h (k := 1) (t := 51) (cc_0) fr_RX7_23 rfl (by decide) (by decide) (by decide) dX7_image_5 ?_
  refine g_kv h (g_runV X h (As := [.ref (zg Z 51)]) (rest := []) (c_X6_becomeAs gl Z v w 89 isW2 51 isW0 (by decide) n j h6 hj7 hland hst zs zw zb hzs hzw hzb) mi_X6_becomeAs ml_RX7_236 (cc_89) (by decide) kl6 rfl ⟨Nat.le_of_ble_eq_true rfl, Nat.le_of_ble_eq_true rfl⟩ rfl hl.1 rfl (Nat.le_of_ble_eq_true rfl) dX7_image_8) (fun v8 w8 H locs hp8 h => ?_)
  obtain ⟨⟨hx8, hl68, hsw8⟩, hw8, hps8, hpw8, hpb8, hfr8⟩ := hp8
  obtain ⟨-, rfl⟩ := Prod.mk.inj hw8
  replace hx8 : xC v8 _ _ = _ := hx8
  replace hl68 : v8 _ 6 = _ := hl68
  replace hsw8 : stW v8 _ _ := hsw8
  replace hps8 : PQ v8 _ _ _ _ := hps8
  replace hpw8 : PQ v8 _ _ _ _ := hpw8
  replace hpb8 : PQ v8 _ _ _ _ := hpb8
  replace hfr8 : ∀ i, _ → v8 i = _ := hfr8
  refine lv_aload_n hx hb dX7_image_11 rfl (lv_at hl 0 rfl) ?_
  refine lv_iconst (v := 1) hx hb dX7_image_12 (by decide) ?_
  refine g_putz X h (k := 4) (cc_0) fp_RX7_239 rfl (by decide) rfl rfl dX7_image_13 (fun v13 H locs ev13 h => ?_)
  refine lv_aload_n hx hb dX7_image_16 rfl (lv_at hl 0 rfl) ?_
  refine g_getr X h (k := 1) (t := 51) (cc_0) fr_RX7_23 rfl (by decide) (by decide) (by decide) dX7_image_17 ?_
  refine g_getr X h (k := 0) (t := 52) (cc_51) fr_RX7_62 rfl (by decide) (by decide) (by decide) dX7_image_20 ?_
  refine g_geti X h (k := 0) (cc_52) fr_RX7_66 rfl (by decide) dX7_image_23 ?_
  refine g_tr (y := (v8 52 0)) (by rw [ev13, up2_ne (by omega)]) ?_
  exact g_iret X h dX7_image_26 ⟨by rw [hfr8 52 (by decide)]; exact hn, rfl, (by show xC v13 89 n = _ ∧ v13 89 6 = _ ∧ stW v13 89 j; rw [ev13, up2_ne (by decide)]; exact ⟨by rw [xC_cong (v' := up2 v8 0 4 1) (v := v8) (fun k _ => by rw [up2_ne (by decide)]) (fun i _ _ _ => up2_ne (by omega))]; exact hx8, hl68, by obtain ⟨a, b, c⟩ := hsw8; exact ⟨by rw [up2_ne (by decide), up2_ne (by omega)]; exact a, by rw [up2_ne (by decide), up2_ne (by omega)]; exact b, by rw [up2_ne (by decide), up2_ne (by omega)]; exact c⟩⟩), (by show PQ v13 _ _ _ _; rw [ev13]; exact PQ_cong (fun i _ _ => up2_ne (by omega)) hps8), (by show PQ v13 _ _ _ _; rw [ev13]; exact PQ_cong (fun i _ _ => up2_ne (by omega)) hpw8), (by show PQ v13 _ _ _ _; rw [ev13]; exact PQ_cong (fun i _ _ => up2_ne (by omega)) hpb8), ⟨fun i h0 hi => (by show v13 i = v i; rw [ev13, up2_ne h0]; exact hfr8 i (by omega)), fun k hk => (by show v13 0 k = v 0 k; rw [ev13, up2_slot hk, hfr8 0 (by decide)])⟩, (by show v13 0 4 = 1; rw [ev13]; exact up2_same _ _ _ _)⟩

set_option maxRecDepth 100000 in
set_option maxHeartbeats 1000000 in
theorem c_X7_undo_y (gl : Launch) (Z : PL) (v : VV) (w : WV) (n : Nat) (j : Nat) (h6 : n ≤ 6) (hj7 : j < 7) (hn : v 90 0 = nI n) (hland : v 89 6 = nI j) (hst : stW v 89 j) (zs : Nat) (zw : Nat) (zb : Nat) (hzs : v 99 2 = nI zs ∧ zs ≤ 5) (hzw : v 102 2 = nI zw ∧ zw ≤ 10) (hzb : v 105 2 = nI zb ∧ zb ≤ 8) (hik : v 0 4 = 1) : CT gl yX7_undo cX7_undo 1 (some .int) 4 123 Z [.ref (zg Z 0)] v w (Qi Z (fun r u => r = nI n ∧ (u.1, w) = u ∧ (xC u.1 51 n = xC v 89 n ∧ u.1 51 6 = nI j ∧ stW u.1 51 j) ∧ PQ u.1 61 zs (v 100) (v 101) ∧ PQ u.1 64 zw (v 103) (v 104) ∧ PQ u.1 67 zb (v 106) (v 107) ∧ unF v u.1)) := by
  refine g_met (by decide) (Nat.le_of_ble_eq_true rfl) ?_
  intro gp ge gs gm ga gb gh gc X h ls hl
  have hx := X.1
  have hb := X.2.1
  have hl : lv_has ls 1 [(0, .ref (zg Z 0))] := hl
  refine lv_aload_n hx hb dX7_undo_0 rfl (lv_at hl 0 rfl) ?_
  refine g_geti X h (k := 4) (cc_0) fr_RX7_239 rfl (by decide) dX7_undo_1 ?_
  refine lv_if_ne (tgt := 10) hx hb dX7_undo_4 (by decide) (fun c_4 => ?_) (fun c_4 => ?_)
  · skip
    refine lv_aload_n hx hb dX7_undo_10 rfl (lv_at hl 0 rfl) ?_
    refine g_getr X h (k := 1) (t := 51) (cc_0) fr_RX7_23 rfl (by decide) (by decide) (by decide) dX7_undo_11 ?_
    refine lv_aload_n hx hb dX7_undo_14 rfl (lv_at hl 0 rfl) ?_
    refine g_getr X h (k := 3) (t := 89) (cc_0) fr_RX7_30 rfl (by decide) (by decide) (by decide) dX7_undo_15 ?_
    refine g_kv h (g_runV X h (As := [.ref (zg Z 89)]) (rest := []) (c_X6_becomeAs gl Z v w 51 isW0 89 isW2 (by decide) n j h6 hj7 hland hst zs zw zb hzs hzw hzb) mi_X6_becomeAs ml_RX7_236 (cc_51) (by decide) kl6 rfl ⟨Nat.le_of_ble_eq_true rfl, Nat.le_of_ble_eq_true rfl⟩ rfl hl.1 rfl (Nat.le_of_ble_eq_true rfl) dX7_undo_18) (fun v18 w18 H locs hp18 h => ?_)
    obtain ⟨⟨hx18, hl618, hsw18⟩, hw18, hps18, hpw18, hpb18, hfr18⟩ := hp18
    obtain ⟨-, rfl⟩ := Prod.mk.inj hw18
    replace hx18 : xC v18 _ _ = _ := hx18
    replace hl618 : v18 _ 6 = _ := hl618
    replace hsw18 : stW v18 _ _ := hsw18
    replace hps18 : PQ v18 _ _ _ _ := hps18
    replace hpw18 : PQ v18 _ _ _ _ := hpw18
    replace hpb18 : PQ v18 _ _ _ _ := hpb18
    replace hfr18 : ∀ i, _ → v18 i = _ := hfr18
    refine lv_aload_n hx hb dX7_undo_21 rfl (lv_at hl 0 rfl) ?_
    refine g_getr X h (k := 1) (t := 51) (cc_0) fr_RX7_23 rfl (by decide) (by decide) (by decide) dX7_undo_22 ?_
    refine g_getr X h (k := 0) (t := 52) (cc_51) fr_RX7_62 rfl (by decide) (by decide) (by decide) dX7_undo_25 ?_
    refine g_geti X h (k := 0) (cc_52) fr_RX7_66 rfl (by decide) dX7_undo_28 ?_
    exact g_iret X h dX7_undo_31 ⟨(by rw [show v18 52 0 = xC v18 51 n 0 0 from rfl, hx18]; exact hn), rfl, ⟨hx18, hl618, hsw18⟩, hps18, hpw18, hpb18, fun i hi => hfr18 i (by omega)⟩
  · exact absurd c_4 (by rw [hik]; decide)

set_option maxRecDepth 100000 in
set_option maxHeartbeats 1000000 in
theorem c_X7_undo_n (gl : Launch) (Z : PL) (v : VV) (w : WV) (hik : v 0 4 = 0) : CT gl yX7_undo cX7_undo 1 (some .int) 0 0 Z [.ref (zg Z 0)] v w (Qi Z (fun r u => r = -3 ∧ (v, w) = u)) := by
  refine g_met (by decide) (Nat.le_of_ble_eq_true rfl) ?_
  intro gp ge gs gm ga gb gh gc X h ls hl
  have hx := X.1
  have hb := X.2.1
  have hl : lv_has ls 1 [(0, .ref (zg Z 0))] := hl
  refine lv_aload_n hx hb dX7_undo_0 rfl (lv_at hl 0 rfl) ?_
  refine g_geti X h (k := 4) (cc_0) fr_RX7_239 rfl (by decide) dX7_undo_1 ?_
  refine lv_if_ne (tgt := 10) hx hb dX7_undo_4 (by decide) (fun c_4 => ?_) (fun c_4 => ?_)
  · exact absurd hik c_4
  · skip
    refine lv_bipush (v := (-3)) hx hb dX7_undo_7 (by decide) ?_
    exact g_iret X h dX7_undo_9 ⟨rfl, rfl⟩
