/-! the class: means, winters, what was or can be -/
theorem mx_lt {f : Nat → Int32} {z d : Nat} {x2 x3 : Int32} (h2 : x2 = mxF f z) (h3 : x3 = nI d) (hd : d < 1000) (hc : x2 < x3) (hsd : ∀ i, i < z → ∃ d, d ≤ 20 ∧ f i = nI d) : ∀ i, i < z → (f i).toNatClampNeg < d := by
  intro i hi
  obtain ⟨e, he, ee⟩ := hsd i hi
  have k := mxF_ge f z i hi
  rw [← h2, ee, nI_toInt (by omega)] at k
  rw [i_lt, h3, nI_toInt (by omega)] at hc
  rw [ee, nI_clamp (by omega)]
  omega
theorem mx_ge {f : Nat → Int32} {z d : Nat} {x2 x3 : Int32} (h2 : x2 = mxF f z) (h3 : x3 = nI d) (hd : d < 1000) (hc : ¬ x2 < x3) (hsd : ∀ i, i < z → ∃ d, d ≤ 20 ∧ f i = nI d) : d ≤ 20 := by
  have k := (mxF_le z hsd (by decide)).2
  rw [← h2] at k
  rw [i_lt, h3, nI_toInt (by omega)] at hc
  omega
theorem fare_s {X : VV} {L : LND} {n z d : Nat} {sh sd : Nat → Int32} (h : fareI X L n z d sh sd) (hsd : ∀ i, i < z → ∃ d, d ≤ 20 ∧ sd i = nI d) (hd : d ≤ 20) (hin : ∀ i, i < z → sd i = nI d → daysS X L n d 0 1 = sh i) : fareI X L n z (d + 1) sh sd := by
  intro i hi hlt
  obtain ⟨e, he, ee⟩ := hsd i hi
  rw [ee, nI_clamp (by omega)] at hlt ⊢
  by_cases q : e = d
  · rw [q, helS]; exact hin i hi (by rw [ee, q])
  · have := h i hi (by rw [ee, nI_clamp (by omega)]; omega)
    rw [ee, nI_clamp (by omega)] at this
    exact this
theorem win_suf {X : VV} {L : LND} {n i : Nat} {go wh : Nat → Int32} : sufS (winS X L n go wh i) L n (go i) (wh i) = winS X L n go wh (i + 1) := rfl
set_option maxRecDepth 100000 in
set_option maxHeartbeats 1000000 in
theorem c_X7_mean (gl : Launch) (Z : PL) (v : VV) (w : WV) (x0 : Int32) (x1 : Int32) (n : Nat) (B : Nat) (j : Nat) (L : LND) (hcn : CN v n B j L) (hB60 : B + 60 < 1000000) : CT gl yX7_mean cX7_mean 6 (some .long) 5 124 Z [.ref (zg Z 0), .int x0, .int x1] v w (Ql Z (fun r u => r = sMean (xC v 51 n) L n x0 x1 ∧ (u.1, w) = u ∧ scC v u.1)) := by
  refine g_met (by decide) (Nat.le_of_ble_eq_true rfl) ?_
  intro gp ge gs gm ga gb gh gc X h ls hl
  have hx := X.1
  have hb := X.2.1
  have hl : lv_has ls 6 [(0, .ref (zg Z 0)), (1, .int x0), (2, .int x1)] := hl
  obtain ⟨hn, h6, hj7, hland, hst, hrx, hB⟩ := CN.f hcn
  refine lv_aload_n hx hb dX7_mean_0 rfl (lv_at hl 0 rfl) ?_
  refine g_getr X h (k := 1) (t := 51) (cc_0) fr_RX7_23 rfl (by decide) (by decide) (by decide) dX7_mean_1 ?_
  refine g_getr X h (k := 0) (t := 52) (cc_51) fr_RX7_62 rfl (by decide) (by decide) (by decide) dX7_mean_4 ?_
  refine g_geti X h (k := 0) (cc_52) fr_RX7_66 rfl (by decide) dX7_mean_7 ?_
  refine lv_topi (fun x3_10 ex3_10 => ?_)
  refine lv_istore_n (lv' := [(3, .int x3_10), (0, .ref (zg Z 0)), (1, .int x0), (2, .int x1)]) hx hb dX7_mean_10 rfl hl (by decide) rfl (fun ls hl => ?_)
  have hn3 : x3_10 = nI n := ex3_10.trans hn
  refine lv_iload_n hx hb dX7_mean_11 rfl (lv_at hl 0 rfl) ?_
  refine lv_if_eq (tgt := 25) hx hb dX7_mean_12 (by decide) (fun c_12 => ?_) (fun c_12 => ?_)
  · skip
    have hn0 : n = 0 := nI_inj (b := 0) (by omega) (by omega) (hn3.symm.trans c_12)
    refine lv_ldc2 hx hb X.ow (X.ts _ cl_RX7_196) dX7_mean_25 ?_
    exact g_lret X h dX7_mean_28 ⟨by rw [mean_no (Or.inl hn0)]; rfl, rfl, scC_refl v⟩
  · skip
    have hn0 : 0 < n := by
      rcases Nat.eq_zero_or_pos n with z | z
      · exact absurd (by rw [hn3, z]; rfl) c_12
      · exact z
    refine lv_iload_n hx hb dX7_mean_15 rfl (lv_at hl 2 rfl) ?_
    refine lv_iconst (v := 0) hx hb dX7_mean_16 (by decide) ?_
    refine lv_bipush (v := 60) hx hb dX7_mean_17 (by decide) ?_
    refine g_ki h (g_runS X h (As := [.int x0, .int 0, .int 60]) (rest := []) (c_X7_isWithin gl Z v w x0 0 60) ms_X7_isWithin ml_RX7_58 ⟨Nat.le_of_ble_eq_true rfl, Nat.le_of_ble_eq_true rfl⟩ rfl hl.1 rfl (Nat.le_of_ble_eq_true rfl) dX7_mean_19) (fun r19 v19 w19 H locs hp19 h => ?_)
    obtain ⟨hr19, hu19⟩ := hp19; obtain ⟨rfl, rfl⟩ := Prod.mk.inj hu19
    refine lv_if_ne (tgt := 29) hx hb dX7_mean_22 (by decide) (fun c_22 => ?_) (fun c_22 => ?_)
    · skip
      rw [hr19, bI_n] at c_22
      obtain ⟨k, hk, hk0, hk60, hkc⟩ := inR_nat (a := 0) (b := 60) rfl rfl (by decide) c_22
      refine lv_aload_n hx hb dX7_mean_29 rfl (lv_at hl 1 rfl) ?_
      refine g_getr X h (k := 2) (t := 70) (cc_0) fr_RX7_27 rfl (by decide) (by decide) (by decide) dX7_mean_30 ?_
      refine lv_aload_n hx hb dX7_mean_33 rfl (lv_at hl 1 rfl) ?_
      refine g_getr X h (k := 1) (t := 51) (cc_0) fr_RX7_23 rfl (by decide) (by decide) (by decide) dX7_mean_34 ?_
      refine g_kv h (g_runV X h (As := [.ref (zg Z 51)]) (rest := []) (c_X6_startAs gl Z v w 70 isW1 51 isW0 (by decide) n j h6 hj7 (CN.f hcn).2.2.2.1 (CN.f hcn).2.2.2.2.1) mi_X6_startAs ml_RX7_169 (cc_70) (by decide) kl6 rfl ⟨Nat.le_of_ble_eq_true rfl, Nat.le_of_ble_eq_true rfl⟩ rfl hl.1 rfl (Nat.le_of_ble_eq_true rfl) dX7_mean_37) (fun v37 w37 H locs hp37 h => ?_)
      obtain ⟨hx37, hw37, hl637, hft37, hsw37⟩ := hp37
      obtain ⟨-, rfl⟩ := Prod.mk.inj hw37
      replace hx37 : xC v37 _ _ = _ := hx37
      replace hl637 : v37 _ 6 = _ := hl637
      replace hft37 : frT _ v37 _ := hft37
      replace hsw37 : stW v37 _ _ := hsw37
      obtain ⟨hs37, hc37, hX37⟩ := TC_start (scC_refl v) hcn hx37 hl637 hft37
      refine lv_aload_n hx hb dX7_mean_40 rfl (lv_at hl 1 rfl) ?_
      refine g_getr X h (k := 2) (t := 70) (cc_0) fr_RX7_27 rfl (by decide) (by decide) (by decide) dX7_mean_41 ?_
      refine lv_iload_n hx hb dX7_mean_44 rfl (lv_at hl 2 rfl) ?_
      refine g_kv h (g_runV X h (As := [.int x0]) (rest := []) (c_X6_goDays gl Z v37 w x0 k hk 70 isW1 n B j L hc37 (by omega)) mi_X6_goDays ml_RX7_165 (cc_70) (by decide) kl6 rfl ⟨Nat.le_of_ble_eq_true rfl, Nat.le_of_ble_eq_true rfl⟩ rfl hl.1 rfl (Nat.le_of_ble_eq_true rfl) dX7_mean_45) (fun v45 w45 H locs hp45 h => ?_)
      obtain ⟨hx45, hw45, hfd45⟩ := hp45
      obtain ⟨-, rfl⟩ := Prod.mk.inj hw45
      replace hx45 : xC v45 _ _ = _ := hx45
      replace hfd45 : frD _ v45 _ _ := hfd45
      rw [hX37] at hx45
      have hs45 := scC_trans hs37 (scC_D hj7 hfd45)
      refine lv_iconst (v := 0) hx hb dX7_mean_48 (by decide) ?_
      refine lv_istore (lv' := [(4, .int 0), (3, .int x3_10), (0, .ref (zg Z 0)), (1, .int x0), (2, .int x1)]) hx hb dX7_mean_49 hl (by decide) rfl (fun ls hl => ?_)
      refine lv_iconst (v := 0) hx hb dX7_mean_51 (by decide) ?_
      refine lv_istore (lv' := [(5, .int 0), (4, .int 0), (3, .int x3_10), (0, .ref (zg Z 0)), (1, .int x0), (2, .int x1)]) hx hb dX7_mean_52 hl (by decide) rfl (fun ls hl => ?_)
      have L54 : ∀ (n54 : Nat) (i : Nat) (x4 x5 : Int32), (x5 = nI i) → (i ≤ n) → (x4 = lsum (daysS (xC v 51 n) L n k 3) i) → n - i < n54 → ∀ (H : Heap) (locs : List Loc), HS Z gs v45 w H locs → ∀ ls : Array Slot, lv_has ls 6 [(0, .ref (zg Z 0)), (1, .int x0), (2, .int x1), (3, .int x3_10), (4, .int x4), (5, .int x5)] → W gp gl ge (rmm 5 124) gs gm ga gb gh gc H locs 0 0 (MQ gb (Ql Z (fun r u => r = sMean (xC v 51 n) L n x0 x1 ∧ (u.1, w) = u ∧ scC v u.1)) ga gs 0 0 (zA Z)) (F0 gm 54 ls []) := by
        intro n54
        induction n54 with
        | zero => intro i x4 x5 hi5 hi hx4 hmu; exact absurd hmu (Nat.not_lt_zero _)
        | succ n54 ih54 =>
          intro i x4 x5 hi5 hi hx4 hmu54 H locs h ls hl
          refine lv_iload hx hb dX7_mean_54 (lv_at hl 5 rfl) ?_
          refine lv_iload_n hx hb dX7_mean_56 rfl (lv_at hl 3 rfl) ?_
          refine lv_icmp_ge (tgt := 84) hx hb dX7_mean_57 (by decide) (fun c_57 => ?_) (fun c_57 => ?_)
          · skip
            have hin := nI_le1 (a := n) (b := i) hn3 hi5 (by omega) (by omega) c_57
            obtain ⟨mm, hme, hmm⟩ := lsum_nat h6 (fun p hp => ((RX_daysS h6 hrx k (by omega)).1 p hp).2.2.1) n (Nat.le_refl _)
            refine lv_iload hx hb dX7_mean_84 (lv_at hl 4 rfl) ?_
            refine lv_iload_n hx hb dX7_mean_86 rfl (lv_at hl 3 rfl) ?_
            refine lv_iload_n hx hb dX7_mean_87 rfl (lv_at hl 2 rfl) ?_
            refine g_kl h (g_runS X h (As := [.int x4, .int x3_10, .int x1]) (rest := []) (c_X7_lowest gl Z v45 w x4 mm (by rw [hx4, show i = n by omega]; exact hme) x3_10 n hn3 x1 hn0 (by omega) (by omega)) ms_X7_lowest ml_RX7_198 ⟨Nat.le_of_ble_eq_true rfl, Nat.le_of_ble_eq_true rfl⟩ rfl hl.1 rfl (Nat.le_of_ble_eq_true rfl) dX7_mean_88) (fun r88 v88 w88 H locs hp88 h => ?_)
            obtain ⟨hr88, hu88⟩ := hp88; obtain ⟨rfl, rfl⟩ := Prod.mk.inj hu88
            exact g_lret X h dX7_mean_91 ⟨by rw [mean_low hn0 c_22, hkc, hme, nI_clamp (by omega)]; exact hr88, rfl, hs45⟩
          · skip
            have hin := nI_le0 (a := n) (b := i) hn3 hi5 (by omega) (by omega) c_57
            refine lv_iload hx hb dX7_mean_60 (lv_at hl 4 rfl) ?_
            refine lv_aload_n hx hb dX7_mean_62 rfl (lv_at hl 0 rfl) ?_
            refine g_getr X h (k := 2) (t := 70) (cc_0) fr_RX7_27 rfl (by decide) (by decide) (by decide) dX7_mean_63 ?_
            refine g_getr X h (k := 0) (t := 71) (cc_70) fr_RX7_62 rfl (by decide) (by decide) (by decide) dX7_mean_66 ?_
            refine g_getr X h (k := 4) (t := 75) (cc_71) fr_RX7_87 rfl (by decide) (by decide) (by decide) dX7_mean_69 ?_
            refine lv_iload hx hb dX7_mean_72 (lv_at hl 5 rfl) ?_
            refine g_iald X h (k := i) (cc_75) hi5 (by omega) (by decide) dX7_mean_74 ?_
            refine lv_iadd hx hb dX7_mean_75 ?_
            refine lv_topi (fun x4_76 ex4_76 => ?_)
            refine lv_istore (lv' := [(4, .int x4_76), (0, .ref (zg Z 0)), (1, .int x0), (2, .int x1), (3, .int x3_10), (5, .int x5)]) hx hb dX7_mean_76 hl (by decide) rfl (fun ls hl => ?_)
            refine lv_iinc (v := (x5 + 1)) (lv' := [(5, .int (x5 + 1)), (4, .int x4_76), (0, .ref (zg Z 0)), (1, .int x0), (2, .int x1), (3, .int x3_10)]) hx hb dX7_mean_78 hl (k := 5) rfl rfl (by decide) rfl (fun ls hl => ?_)
            refine lv_goto (tgt := 54) hx hb dX7_mean_81 (by decide) ?_
            exact ih54 (i + 1) x4_76 (x5 + 1) (by rw [hi5]; exact nI_1 _) (by omega) (by rw [ex4_76, hx4, lsum, ← hx45, show xC v45 70 n 3 i = v45 75 i from xC_th (b := 70) (by omega)]) (by omega) _ _ h ls (lv_sub hl [2, 3, 4, 5, 1, 0] rfl)
      exact L54 (n - 0 + 1) 0 0 0 rfl (Nat.zero_le _) rfl (Nat.lt_succ_self _) _ _ h ls (lv_sub hl [3, 4, 5, 2, 1, 0] rfl)
    · skip
      rw [hr19, bI_0] at c_22
      refine lv_ldc2 hx hb X.ow (X.ts _ cl_RX7_196) dX7_mean_25 ?_
      exact g_lret X h dX7_mean_28 ⟨by rw [mean_no (Or.inr c_22)]; rfl, rfl, scC_refl v⟩

set_option maxRecDepth 100000 in
set_option maxHeartbeats 1000000 in
theorem c_X7_gone (gl : Launch) (Z : PL) (v : VV) (w : WV) (x0 : Int32) (n : Nat) (B : Nat) (j : Nat) (L : LND) (hcn : CN v n B j L) (z : Nat) (hz : v 64 2 = nI z) (hzm : z ≤ 10) (hB20 : B + 20 < 1000000) (hwh : ∀ i, i < z → v 65 i = 1 → ∃ p, p < n ∧ v 66 i = nI p) : CT gl yX7_gone cX7_gone 3 (some .int) 5 124 Z [.ref (zg Z 0), .int x0] v w (Qi Z (fun r u => r = sGone (xC v 51 n) L n (v 65) (v 66) z x0 ∧ (u.1, w) = u ∧ scC v u.1)) := by
  refine g_met (by decide) (Nat.le_of_ble_eq_true rfl) ?_
  intro gp ge gs gm ga gb gh gc X h ls hl
  have hx := X.1
  have hb := X.2.1
  have hl : lv_has ls 3 [(0, .ref (zg Z 0)), (1, .int x0)] := hl
  obtain ⟨hn, h6, hj7, hland, hst, hrx, hB⟩ := CN.f hcn
  refine lv_iload_n hx hb dX7_gone_0 rfl (lv_at hl 1 rfl) ?_
  refine lv_iconst (v := 0) hx hb dX7_gone_1 (by decide) ?_
  refine lv_iconst (v := 1) hx hb dX7_gone_2 (by decide) ?_
  refine g_ki h (g_runS X h (As := [.int x0, .int 0, .int 1]) (rest := []) (c_X7_isWithin gl Z v w x0 0 1) ms_X7_isWithin ml_RX7_58 ⟨Nat.le_of_ble_eq_true rfl, Nat.le_of_ble_eq_true rfl⟩ rfl hl.1 rfl (Nat.le_of_ble_eq_true rfl) dX7_gone_3) (fun r3 v3 w3 H locs hp3 h => ?_)
  obtain ⟨hr3, hu3⟩ := hp3; obtain ⟨rfl, rfl⟩ := Prod.mk.inj hu3
  refine lv_if_ne (tgt := 11) hx hb dX7_gone_6 (by decide) (fun c_6 => ?_) (fun c_6 => ?_)
  · skip
    rw [hr3, bI_n] at c_6
    refine lv_aload_n hx hb dX7_gone_11 rfl (lv_at hl 0 rfl) ?_
    refine g_getr X h (k := 2) (t := 70) (cc_0) fr_RX7_27 rfl (by decide) (by decide) (by decide) dX7_gone_12 ?_
    refine lv_aload_n hx hb dX7_gone_15 rfl (lv_at hl 0 rfl) ?_
    refine g_getr X h (k := 1) (t := 51) (cc_0) fr_RX7_23 rfl (by decide) (by decide) (by decide) dX7_gone_16 ?_
    refine g_kv h (g_runV X h (As := [.ref (zg Z 51)]) (rest := []) (c_X6_startAs gl Z v w 70 isW1 51 isW0 (by decide) n j h6 hj7 (CN.f hcn).2.2.2.1 (CN.f hcn).2.2.2.2.1) mi_X6_startAs ml_RX7_169 (cc_70) (by decide) kl6 rfl ⟨Nat.le_of_ble_eq_true rfl, Nat.le_of_ble_eq_true rfl⟩ rfl hl.1 rfl (Nat.le_of_ble_eq_true rfl) dX7_gone_19) (fun v19 w19 H locs hp19 h => ?_)
    obtain ⟨hx19, hw19, hl619, hft19, hsw19⟩ := hp19
    obtain ⟨-, rfl⟩ := Prod.mk.inj hw19
    replace hx19 : xC v19 _ _ = _ := hx19
    replace hl619 : v19 _ 6 = _ := hl619
    replace hft19 : frT _ v19 _ := hft19
    replace hsw19 : stW v19 _ _ := hsw19
    obtain ⟨hs19, hc19, hX19⟩ := TC_start (scC_refl v) hcn hx19 hl619 hft19
    refine lv_iconst (v := 0) hx hb dX7_gone_22 (by decide) ?_
    refine lv_istore_n (lv' := [(2, .int 0), (0, .ref (zg Z 0)), (1, .int x0)]) hx hb dX7_gone_23 rfl hl (by decide) rfl (fun ls hl => ?_)
    have L24 : ∀ (n24 : Nat) (i : Nat) (x2 : Int32) (va : VV), (x2 = nI i) → (i ≤ z) → (scC v va) → (CW va 70 n (B + i) j L) → (xC va 70 n = winS (xC v 51 n) L n (v 65) (v 66) i) → z - i < n24 → ∀ (H : Heap) (locs : List Loc), HS Z gs va w H locs → ∀ ls : Array Slot, lv_has ls 3 [(0, .ref (zg Z 0)), (1, .int x0), (2, .int x2)] → W gp gl ge (rmm 5 124) gs gm ga gb gh gc H locs 0 0 (MQ gb (Qi Z (fun r u => r = sGone (xC v 51 n) L n (v 65) (v 66) z x0 ∧ (u.1, w) = u ∧ scC v u.1)) ga gs 0 0 (zA Z)) (F0 gm 24 ls []) := by
      intro n24
      induction n24 with
      | zero => intro i x2 va hi2 hi hsa hca hxa hmu; exact absurd hmu (Nat.not_lt_zero _)
      | succ n24 ih24 =>
        intro i x2 va hi2 hi hsa hca hxa hmu24 H locs h ls hl
        refine lv_iload_n hx hb dX7_gone_24 rfl (lv_at hl 2 rfl) ?_
        refine lv_aload_n hx hb dX7_gone_25 rfl (lv_at hl 0 rfl) ?_
        refine g_getr X h (k := 1) (t := 51) (cc_0) fr_RX7_23 rfl (by decide) (by decide) (by decide) dX7_gone_26 ?_
        refine g_getr X h (k := 12) (t := 64) (cc_51) fr_RX7_202 rfl (by decide) (by decide) (by decide) dX7_gone_29 ?_
        refine g_geti X h (k := 2) (cc_64) fr_RX7_205 rfl (by decide) dX7_gone_32 ?_
        refine g_tr (y := (v 64 2)) (by rw [sq_at hsa (i := 64) (by omega) (by omega) (by omega)]) ?_
        refine lv_icmp_ge (tgt := 75) hx hb dX7_gone_35 (by decide) (fun c_35 => ?_) (fun c_35 => ?_)
        · skip
          have hiz := nI_le1 (a := z) (b := i) hz hi2 (by omega) (by omega) c_35
          refine lv_iload_n hx hb dX7_gone_75 rfl (lv_at hl 1 rfl) ?_
          refine lv_if_ne (tgt := 89) hx hb dX7_gone_76 (by decide) (fun c_76 => ?_) (fun c_76 => ?_)
          · skip
            refine lv_aload_n hx hb dX7_gone_89 rfl (lv_at hl 0 rfl) ?_
            refine g_getr X h (k := 2) (t := 70) (cc_0) fr_RX7_27 rfl (by decide) (by decide) (by decide) dX7_gone_90 ?_
            refine g_geti X h (k := 2) (cc_70) fr_RX7_120 rfl (by decide) dX7_gone_93 ?_
            exact g_iret X h dX7_gone_96 ⟨by rw [sGone, if_pos c_6, if_neg c_76, ← show i = z by omega, ← hxa]; rfl, rfl, hsa⟩
          · skip
            refine lv_aload_n hx hb dX7_gone_79 rfl (lv_at hl 0 rfl) ?_
            refine g_getr X h (k := 2) (t := 70) (cc_0) fr_RX7_27 rfl (by decide) (by decide) (by decide) dX7_gone_80 ?_
            refine g_geti X h (k := 1) (cc_70) fr_RX7_117 rfl (by decide) dX7_gone_83 ?_
            refine lv_goto (tgt := 96) hx hb dX7_gone_86 (by decide) ?_
            exact g_iret X h dX7_gone_96 ⟨by rw [sGone, if_pos c_6, if_pos c_76, ← show i = z by omega, ← hxa]; rfl, rfl, hsa⟩
        · skip
          have hiz := nI_le0 (a := z) (b := i) hz hi2 (by omega) (by omega) c_35
          refine lv_aload_n hx hb dX7_gone_38 rfl (lv_at hl 0 rfl) ?_
          refine g_getr X h (k := 2) (t := 70) (cc_0) fr_RX7_27 rfl (by decide) (by decide) (by decide) dX7_gone_39 ?_
          refine lv_aload_n hx hb dX7_gone_42 rfl (lv_at hl 0 rfl) ?_
          refine g_getr X h (k := 1) (t := 51) (cc_0) fr_RX7_23 rfl (by decide) (by decide) (by decide) dX7_gone_43 ?_
          refine g_getr X h (k := 12) (t := 64) (cc_51) fr_RX7_202 rfl (by decide) (by decide) (by decide) dX7_gone_46 ?_
          refine g_getr X h (k := 0) (t := 65) (cc_64) fr_RX7_206 rfl (by decide) (by decide) (by decide) dX7_gone_49 ?_
          refine lv_iload_n hx hb dX7_gone_52 rfl (lv_at hl 2 rfl) ?_
          refine g_iald X h (k := i) (cc_65) hi2 (by omega) (by decide) dX7_gone_53 ?_
          refine g_tr (y := (v 65 i)) (by rw [sq_at hsa (i := 65) (by omega) (by omega) (by omega)]) ?_
          refine lv_aload_n hx hb dX7_gone_54 rfl (lv_at hl 0 rfl) ?_
          refine g_getr X h (k := 1) (t := 51) (cc_0) fr_RX7_23 rfl (by decide) (by decide) (by decide) dX7_gone_55 ?_
          refine g_getr X h (k := 12) (t := 64) (cc_51) fr_RX7_202 rfl (by decide) (by decide) (by decide) dX7_gone_58 ?_
          refine g_getr X h (k := 1) (t := 66) (cc_64) fr_RX7_209 rfl (by decide) (by decide) (by decide) dX7_gone_61 ?_
          refine lv_iload_n hx hb dX7_gone_64 rfl (lv_at hl 2 rfl) ?_
          refine g_iald X h (k := i) (cc_66) hi2 (by omega) (by decide) dX7_gone_65 ?_
          refine g_tr (y := (v 66 i)) (by rw [sq_at hsa (i := 66) (by omega) (by omega) (by omega)]) ?_
          refine g_kv h (g_runV X h (As := [.int (v 65 i), .int (v 66 i)]) (rest := []) (c_X6_suffer gl Z va w (v 65 i) (v 66 i) 70 isW1 n (B + i) j L hca (hwh i hiz)) mi_X6_suffer ml_RX7_212 (cc_70) (by decide) kl6 rfl ⟨Nat.le_of_ble_eq_true rfl, Nat.le_of_ble_eq_true rfl⟩ rfl hl.1 rfl (Nat.le_of_ble_eq_true rfl) dX7_gone_66) (fun v66 w66 H locs hp66 h => ?_)
          obtain ⟨hx66, hw66, hfs66⟩ := hp66
          obtain ⟨-, rfl⟩ := Prod.mk.inj hw66
          replace hx66 : xC v66 _ _ = _ := hx66
          replace hfs66 : frS _ v66 _ _ := hfs66
          refine lv_iinc (v := (x2 + 1)) (lv' := [(2, .int (x2 + 1)), (0, .ref (zg Z 0)), (1, .int x0)]) hx hb dX7_gone_69 hl (k := 2) rfl rfl (by decide) rfl (fun ls hl => ?_)
          refine lv_goto (tgt := 24) hx hb dX7_gone_72 (by decide) ?_
          exact ih24 (i + 1) (x2 + 1) v66 (by rw [hi2]; exact nI_1 _) (by omega) (scC_trans hsa (scC_S hj7 hfs66)) (CW_frS (by decide) hca hfs66 (by rw [hx66, hxa, win_suf]; exact RX_win h6 hrx (i + 1) (by omega)) (by omega)) (by rw [hx66, hxa, win_suf]) (by omega) _ _ h ls (lv_sub hl [1, 2, 0] rfl)
    exact L24 (z - 0 + 1) 0 0 v19 rfl (Nat.zero_le _) hs19 hc19 hX19 (Nat.lt_succ_self _) _ _ h ls (lv_sub hl [1, 2, 0] rfl)
  · skip
    rw [hr3, bI_0] at c_6
    refine lv_iconst (v := (-1)) hx hb dX7_gone_9 (by decide) ?_
    exact g_iret X h dX7_gone_10 ⟨by rw [sGone, if_neg (by rw [c_6]; simp)], rfl, scC_refl v⟩

set_option maxRecDepth 100000 in
set_option maxHeartbeats 1000000 in
theorem c_X6_faresAs (gl : Launch) (Z : PL) (v : VV) (w : WV) (n : Nat) (B : Nat) (j : Nat) (L : LND) (hcw : CW v 70 n B j L) (z : Nat) (hz : v 61 2 = nI z) (hzm : z ≤ 5) (hsd : ∀ i, i < z → ∃ d, d ≤ 20 ∧ v 63 i = nI d) (hB20 : B + 30 < 1000000) : CT gl yX6_faresAs cX6_faresAs 5 (some .boolean) 4 102 Z [.ref (zg Z 70), .ref (zg Z 61)] v w (Qi Z (fun r u => r = bI (seenS (xC v 70 n) L n (v 62) (v 63) z) ∧ (u.1, w) = u ∧ frD v u.1 70 j)) := by
  refine g_met (by decide) (Nat.le_of_ble_eq_true rfl) ?_
  intro gp ge gs gm ga gb gh gc X h ls hl
  have hx := X.1
  have hb := X.2.1
  have hl : lv_has ls 5 [(0, .ref (zg Z 70)), (1, .ref (zg Z 61))] := hl
  obtain ⟨h6, hwf, hj7, hrx, hB⟩ := CW.ch hcw
  refine lv_aload_n hx hb dX6_faresAs_0 rfl (lv_at hl 1 rfl) ?_
  refine g_ki h (g_runV X h (As := []) (rest := []) (c_X2_mostSecond gl Z v w 61 5 (isWQ10 isW0) z hz hzm (by omega)) mi_X2_mostSecond ml_RX6_162 (cc_61) (by decide) kl2 rfl ⟨Nat.le_of_ble_eq_true rfl, Nat.le_of_ble_eq_true rfl⟩ rfl hl.1 rfl (Nat.le_of_ble_eq_true rfl) dX6_faresAs_1) (fun r1 v1 w1 H locs hp1 h => ?_)
  obtain ⟨hr1, hu1⟩ := hp1; obtain ⟨rfl, rfl⟩ := Prod.mk.inj hu1
  replace hr1 : r1 = mxF (v 63) z := hr1
  refine lv_istore_n (lv' := [(2, .int r1), (0, .ref (zg Z 70)), (1, .ref (zg Z 61))]) hx hb dX6_faresAs_4 rfl hl (by decide) rfl (fun ls hl => ?_)
  refine lv_iconst (v := 0) hx hb dX6_faresAs_5 (by decide) ?_
  refine lv_istore_n (lv' := [(3, .int 0), (2, .int r1), (0, .ref (zg Z 70)), (1, .ref (zg Z 61))]) hx hb dX6_faresAs_6 rfl hl (by decide) rfl (fun ls hl => ?_)
  have L7 : ∀ (n7 : Nat) (d : Nat) (x3 : Int32) (va : VV), (x3 = nI d) → (d ≤ 21) → (CW va 70 n (B + (d - 1)) j L) → (xC va 70 n = daysS (xC v 70 n) L n (d - 1)) → (frD v va 70 j) → (fareI (xC v 70 n) L n z d (v 62) (v 63)) → 21 - d < n7 → ∀ (H : Heap) (locs : List Loc), HS Z gs va w H locs → ∀ ls : Array Slot, lv_has ls 5 [(0, .ref (zg Z 70)), (1, .ref (zg Z 61)), (2, .int r1), (3, .int x3)] → W gp gl ge (rmm 4 102) gs gm ga gb gh gc H locs 0 0 (MQ gb (Qi Z (fun r u => r = bI (seenS (xC v 70 n) L n (v 62) (v 63) z) ∧ (u.1, w) = u ∧ frD v u.1 70 j)) ga gs 0 0 (zA Z)) (F0 gm 7 ls []) := by
    intro n7
    induction n7 with
    | zero => intro d x3 va h3 hd hca hxa hfa hck hmu; exact absurd hmu (Nat.not_lt_zero _)
    | succ n7 ih7 =>
      intro d x3 va h3 hd hca hxa hfa hck hmu7 H locs h ls hl
      refine lv_iload_n hx hb dX6_faresAs_7 rfl (lv_at hl 3 rfl) ?_
      refine lv_iload_n hx hb dX6_faresAs_8 rfl (lv_at hl 2 rfl) ?_
      refine lv_icmp_gt (tgt := 71) hx hb dX6_faresAs_9 (by decide) (fun c_9 => ?_) (fun c_9 => ?_)
      · skip
        refine lv_iconst (v := 1) hx hb dX6_faresAs_71 (by decide) ?_
        exact g_nret X h dX6_faresAs_72 rfl ⟨by rw [fare_end hck (mx_lt hr1 h3 (by omega) c_9 hsd)]; rfl, rfl, hfa⟩
      · skip
        have hd20 := mx_ge hr1 h3 (by omega) c_9 hsd
        refine lv_iload_n hx hb dX6_faresAs_12 rfl (lv_at hl 3 rfl) ?_
        refine lv_if_le (tgt := 20) hx hb dX6_faresAs_13 (by decide) (fun c_13 => ?_) (fun c_13 => ?_)
        · skip
          have hd0 : d = 0 := by have q := nI_le1 (a := d) (b := 0) h3 rfl (by omega) (by omega) c_13; omega
          have hcb : CW va 70 n (B + d) j L := by rw [hd0] at hca ⊢; exact hca
          have hxb : xC va 70 n = daysS (xC v 70 n) L n d := by rw [hd0] at hxa ⊢; exact hxa
          have hfb := hfa
          refine lv_iconst (v := 0) hx hb dX6_faresAs_20 (by decide) ?_
          refine lv_istore (lv' := [(4, .int 0), (0, .ref (zg Z 70)), (1, .ref (zg Z 61)), (2, .int r1), (3, .int x3)]) hx hb dX6_faresAs_21 hl (by decide) rfl (fun ls hl => ?_)
          have L23 : ∀ (n23 : Nat) (i : Nat) (x4 : Int32), (x4 = nI i) → (i ≤ z) → (∀ q, q < i → v 63 q = nI d → daysS (xC v 70 n) L n d 0 1 = v 62 q) → z - i < n23 → ∀ (H : Heap) (locs : List Loc), HS Z gs va w H locs → ∀ ls : Array Slot, lv_has ls 5 [(0, .ref (zg Z 70)), (1, .ref (zg Z 61)), (2, .int r1), (3, .int x3), (4, .int x4)] → W gp gl ge (rmm 4 102) gs gm ga gb gh gc H locs 0 0 (MQ gb (Qi Z (fun r u => r = bI (seenS (xC v 70 n) L n (v 62) (v 63) z) ∧ (u.1, w) = u ∧ frD v u.1 70 j)) ga gs 0 0 (zA Z)) (F0 gm 23 ls []) := by
            intro n23
            induction n23 with
            | zero => intro i x4 h4 hi hin hmu; exact absurd hmu (Nat.not_lt_zero _)
            | succ n23 ih23 =>
              intro i x4 h4 hi hin hmu23 H locs h ls hl
              refine lv_iload hx hb dX6_faresAs_23 (lv_at hl 4 rfl) ?_
              refine lv_aload_n hx hb dX6_faresAs_25 rfl (lv_at hl 1 rfl) ?_
              refine g_geti X h (k := 2) (cc_61) fr_RX6_165 rfl (by decide) dX6_faresAs_26 ?_
              refine g_tr (y := (v 61 2)) (by rw [hfa.1 61 (by omega) (by omega) (by omega) (by omega) (by omega)]) ?_
              refine lv_icmp_ge (tgt := 65) hx hb dX6_faresAs_29 (by decide) (fun c_29 => ?_) (fun c_29 => ?_)
              · skip
                have hiz := nI_le1 (a := z) (b := i) hz h4 (by omega) (by omega) c_29
                refine lv_iinc (v := (x3 + 1)) (lv' := [(3, .int (x3 + 1)), (0, .ref (zg Z 70)), (1, .ref (zg Z 61)), (2, .int r1), (4, .int x4)]) hx hb dX6_faresAs_65 hl (k := 3) rfl rfl (by decide) rfl (fun ls hl => ?_)
                refine lv_goto (tgt := 7) hx hb dX6_faresAs_68 (by decide) ?_
                exact ih7 (d + 1) (x3 + 1) va (by rw [h3]; exact nI_1 _) (by omega) hcb hxb hfb (fare_s hck hsd hd20 (fun q hq hq2 => hin q (by omega) hq2)) (by omega) _ _ h ls (lv_sub hl [1, 2, 3, 0] rfl)
              · skip
                have hiz := nI_le0 (a := z) (b := i) hz h4 (by omega) (by omega) c_29
                refine lv_aload_n hx hb dX6_faresAs_32 rfl (lv_at hl 1 rfl) ?_
                refine g_getr X h (k := 1) (t := 63) (cc_61) fr_RX6_166 rfl (by decide) (by decide) (by decide) dX6_faresAs_33 ?_
                refine lv_iload hx hb dX6_faresAs_36 (lv_at hl 4 rfl) ?_
                refine g_iald X h (k := i) (cc_63) h4 (by omega) (by decide) dX6_faresAs_38 ?_
                refine g_tr (y := (v 63 i)) (by rw [hfa.1 63 (by omega) (by omega) (by omega) (by omega) (by omega)]) ?_
                refine lv_iload_n hx hb dX6_faresAs_39 rfl (lv_at hl 3 rfl) ?_
                refine lv_icmp_ne (tgt := 59) hx hb dX6_faresAs_40 (by decide) (fun c_40 => ?_) (fun c_40 => ?_)
                · skip
                  refine lv_iinc (v := (x4 + 1)) (lv' := [(4, .int (x4 + 1)), (0, .ref (zg Z 70)), (1, .ref (zg Z 61)), (2, .int r1), (3, .int x3)]) hx hb dX6_faresAs_59 hl (k := 4) rfl rfl (by decide) rfl (fun ls hl => ?_)
                  refine lv_goto (tgt := 23) hx hb dX6_faresAs_62 (by decide) ?_
                  exact ih23 (i + 1) (x4 + 1) (by rw [h4]; exact nI_1 _) (by omega) (fun q hq hq2 => if e : q = i then (absurd (by rw [← e, h3]; exact hq2) c_40) else hin q (by omega) hq2) (by omega) _ _ h ls (lv_sub hl [1, 2, 3, 4, 0] rfl)
                · skip
                  refine lv_aload_n hx hb dX6_faresAs_43 rfl (lv_at hl 1 rfl) ?_
                  refine g_getr X h (k := 0) (t := 62) (cc_61) fr_RX6_169 rfl (by decide) (by decide) (by decide) dX6_faresAs_44 ?_
                  refine lv_iload hx hb dX6_faresAs_47 (lv_at hl 4 rfl) ?_
                  refine g_iald X h (k := i) (cc_62) h4 (by omega) (by decide) dX6_faresAs_49 ?_
                  refine g_tr (y := (v 62 i)) (by rw [hfa.1 62 (by omega) (by omega) (by omega) (by omega) (by omega)]) ?_
                  refine lv_aload_n hx hb dX6_faresAs_50 rfl (lv_at hl 0 rfl) ?_
                  refine g_geti X h (k := 1) (cc_70) fr_RX6_18 rfl (by decide) dX6_faresAs_51 ?_
                  refine lv_icmp_eq (tgt := 59) hx hb dX6_faresAs_54 (by decide) (fun c_54 => ?_) (fun c_54 => ?_)
                  · skip
                    refine lv_iinc (v := (x4 + 1)) (lv' := [(4, .int (x4 + 1)), (0, .ref (zg Z 70)), (1, .ref (zg Z 61)), (2, .int r1), (3, .int x3)]) hx hb dX6_faresAs_59 hl (k := 4) rfl rfl (by decide) rfl (fun ls hl => ?_)
                    refine lv_goto (tgt := 23) hx hb dX6_faresAs_62 (by decide) ?_
                    exact ih23 (i + 1) (x4 + 1) (by rw [h4]; exact nI_1 _) (by omega) (fun q hq hq2 => if e : q = i then (by rw [e, ← hxb]; exact c_54.symm) else hin q (by omega) hq2) (by omega) _ _ h ls (lv_sub hl [1, 2, 3, 4, 0] rfl)
                  · skip
                    refine lv_iconst (v := 0) hx hb dX6_faresAs_57 (by decide) ?_
                    exact g_nret X h dX6_faresAs_58 rfl ⟨by rw [fare_no (i := i) hiz (by rw [c_40, h3, nI_clamp (by omega), helS, ← hxb]; exact fun z => c_54 z.symm)]; rfl, rfl, hfb⟩
          exact L23 (z - 0 + 1) 0 0 rfl (Nat.zero_le _) (fun q hq => absurd hq (Nat.not_lt_zero _)) (Nat.lt_succ_self _) _ _ h ls (lv_sub hl [1, 2, 3, 4, 0] rfl)
        · skip
          refine lv_aload_n hx hb dX6_faresAs_16 rfl (lv_at hl 0 rfl) ?_
          refine g_kv h (g_runV X h (As := []) (rest := []) (c_X6_goDay gl Z va w 70 isW1 n (B + (d - 1)) j L hca) mi_X6_goDay ml_RX6_144 (cc_70) (by decide) kl6 rfl ⟨Nat.le_of_ble_eq_true rfl, Nat.le_of_ble_eq_true rfl⟩ rfl hl.1 rfl (Nat.le_of_ble_eq_true rfl) dX6_faresAs_17) (fun v17 w17 H locs hp17 h => ?_)
          obtain ⟨hx17, hw17, hfd17⟩ := hp17
          obtain ⟨-, rfl⟩ := Prod.mk.inj hw17
          replace hx17 : xC v17 _ _ = _ := hx17
          replace hfd17 : frD _ v17 _ _ := hfd17
          have hd0 : 0 < d := by have q := nI_le0 (a := d) (b := 0) h3 rfl (by omega) (by omega) c_13; omega
          have hxb : xC v17 70 n = daysS (xC v 70 n) L n d := by rw [hx17, hxa]; show daysS _ _ _ (d - 1 + 1) = _; rw [show d - 1 + 1 = d by omega]
          have hcb : CW v17 70 n (B + d) j L := by have q := CW_day (B := B + (d - 1)) (k := 1) (by decide) hca hfd17 hx17 (by omega); rw [show B + (d - 1) + 1 = B + d by omega] at q; exact q
          have hfb := frD_trans hfa hfd17
          refine lv_iconst (v := 0) hx hb dX6_faresAs_20 (by decide) ?_
          refine lv_istore (lv' := [(4, .int 0), (0, .ref (zg Z 70)), (1, .ref (zg Z 61)), (2, .int r1), (3, .int x3)]) hx hb dX6_faresAs_21 hl (by decide) rfl (fun ls hl => ?_)
          have L23 : ∀ (n23 : Nat) (i : Nat) (x4 : Int32), (x4 = nI i) → (i ≤ z) → (∀ q, q < i → v 63 q = nI d → daysS (xC v 70 n) L n d 0 1 = v 62 q) → z - i < n23 → ∀ (H : Heap) (locs : List Loc), HS Z gs v17 w H locs → ∀ ls : Array Slot, lv_has ls 5 [(0, .ref (zg Z 70)), (1, .ref (zg Z 61)), (2, .int r1), (3, .int x3), (4, .int x4)] → W gp gl ge (rmm 4 102) gs gm ga gb gh gc H locs 0 0 (MQ gb (Qi Z (fun r u => r = bI (seenS (xC v 70 n) L n (v 62) (v 63) z) ∧ (u.1, w) = u ∧ frD v u.1 70 j)) ga gs 0 0 (zA Z)) (F0 gm 23 ls []) := by
            intro n23
            induction n23 with
            | zero => intro i x4 h4 hi hin hmu; exact absurd hmu (Nat.not_lt_zero _)
            | succ n23 ih23 =>
              intro i x4 h4 hi hin hmu23 H locs h ls hl
              refine lv_iload hx hb dX6_faresAs_23 (lv_at hl 4 rfl) ?_
              refine lv_aload_n hx hb dX6_faresAs_25 rfl (lv_at hl 1 rfl) ?_
              refine g_geti X h (k := 2) (cc_61) fr_RX6_165 rfl (by decide) dX6_faresAs_26 ?_
              refine g_tr (y := (v 61 2)) (by rw [hfd17.1 61 (by omega) (by omega) (by omega) (by omega) (by omega), hfa.1 61 (by omega) (by omega) (by omega) (by omega) (by omega)]) ?_
              refine lv_icmp_ge (tgt := 65) hx hb dX6_faresAs_29 (by decide) (fun c_29 => ?_) (fun c_29 => ?_)
              · skip
                have hiz := nI_le1 (a := z) (b := i) hz h4 (by omega) (by omega) c_29
                refine lv_iinc (v := (x3 + 1)) (lv' := [(3, .int (x3 + 1)), (0, .ref (zg Z 70)), (1, .ref (zg Z 61)), (2, .int r1), (4, .int x4)]) hx hb dX6_faresAs_65 hl (k := 3) rfl rfl (by decide) rfl (fun ls hl => ?_)
                refine lv_goto (tgt := 7) hx hb dX6_faresAs_68 (by decide) ?_
                exact ih7 (d + 1) (x3 + 1) v17 (by rw [h3]; exact nI_1 _) (by omega) hcb hxb hfb (fare_s hck hsd hd20 (fun q hq hq2 => hin q (by omega) hq2)) (by omega) _ _ h ls (lv_sub hl [1, 2, 3, 0] rfl)
              · skip
                have hiz := nI_le0 (a := z) (b := i) hz h4 (by omega) (by omega) c_29
                refine lv_aload_n hx hb dX6_faresAs_32 rfl (lv_at hl 1 rfl) ?_
                refine g_getr X h (k := 1) (t := 63) (cc_61) fr_RX6_166 rfl (by decide) (by decide) (by decide) dX6_faresAs_33 ?_
                refine lv_iload hx hb dX6_faresAs_36 (lv_at hl 4 rfl) ?_
                refine g_iald X h (k := i) (cc_63) h4 (by omega) (by decide) dX6_faresAs_38 ?_
                refine g_tr (y := (v 63 i)) (by rw [hfd17.1 63 (by omega) (by omega) (by omega) (by omega) (by omega), hfa.1 63 (by omega) (by omega) (by omega) (by omega) (by omega)]) ?_
                refine lv_iload_n hx hb dX6_faresAs_39 rfl (lv_at hl 3 rfl) ?_
                refine lv_icmp_ne (tgt := 59) hx hb dX6_faresAs_40 (by decide) (fun c_40 => ?_) (fun c_40 => ?_)
                · skip
                  refine lv_iinc (v := (x4 + 1)) (lv' := [(4, .int (x4 + 1)), (0, .ref (zg Z 70)), (1, .ref (zg Z 61)), (2, .int r1), (3, .int x3)]) hx hb dX6_faresAs_59 hl (k := 4) rfl rfl (by decide) rfl (fun ls hl => ?_)
                  refine lv_goto (tgt := 23) hx hb dX6_faresAs_62 (by decide) ?_
                  exact ih23 (i + 1) (x4 + 1) (by rw [h4]; exact nI_1 _) (by omega) (fun q hq hq2 => if e : q = i then (absurd (by rw [← e, h3]; exact hq2) c_40) else hin q (by omega) hq2) (by omega) _ _ h ls (lv_sub hl [1, 2, 3, 4, 0] rfl)
                · skip
                  refine lv_aload_n hx hb dX6_faresAs_43 rfl (lv_at hl 1 rfl) ?_
                  refine g_getr X h (k := 0) (t := 62) (cc_61) fr_RX6_169 rfl (by decide) (by decide) (by decide) dX6_faresAs_44 ?_
                  refine lv_iload hx hb dX6_faresAs_47 (lv_at hl 4 rfl) ?_
                  refine g_iald X h (k := i) (cc_62) h4 (by omega) (by decide) dX6_faresAs_49 ?_
                  refine g_tr (y := (v 62 i)) (by rw [hfd17.1 62 (by omega) (by omega) (by omega) (by omega) (by omega), hfa.1 62 (by omega) (by omega) (by omega) (by omega) (by omega)]) ?_
                  refine lv_aload_n hx hb dX6_faresAs_50 rfl (lv_at hl 0 rfl) ?_
                  refine g_geti X h (k := 1) (cc_70) fr_RX6_18 rfl (by decide) dX6_faresAs_51 ?_
                  refine lv_icmp_eq (tgt := 59) hx hb dX6_faresAs_54 (by decide) (fun c_54 => ?_) (fun c_54 => ?_)
                  · skip
                    refine lv_iinc (v := (x4 + 1)) (lv' := [(4, .int (x4 + 1)), (0, .ref (zg Z 70)), (1, .ref (zg Z 61)), (2, .int r1), (3, .int x3)]) hx hb dX6_faresAs_59 hl (k := 4) rfl rfl (by decide) rfl (fun ls hl => ?_)
                    refine lv_goto (tgt := 23) hx hb dX6_faresAs_62 (by decide) ?_
                    exact ih23 (i + 1) (x4 + 1) (by rw [h4]; exact nI_1 _) (by omega) (fun q hq hq2 => if e : q = i then (by rw [e, ← hxb]; exact c_54.symm) else hin q (by omega) hq2) (by omega) _ _ h ls (lv_sub hl [1, 2, 3, 4, 0] rfl)
                  · skip
                    refine lv_iconst (v := 0) hx hb dX6_faresAs_57 (by decide) ?_
                    exact g_nret X h dX6_faresAs_58 rfl ⟨by rw [fare_no (i := i) hiz (by rw [c_40, h3, nI_clamp (by omega), helS, ← hxb]; exact fun z => c_54 z.symm)]; rfl, rfl, hfb⟩
          exact L23 (z - 0 + 1) 0 0 rfl (Nat.zero_le _) (fun q hq => absurd hq (Nat.not_lt_zero _)) (Nat.lt_succ_self _) _ _ h ls (lv_sub hl [1, 2, 3, 4, 0] rfl)
  exact L7 (21 - 0 + 1) 0 0 v rfl (by omega) hcw rfl (frD_refl _ _ _) (fun i hi hl => absurd hl (Nat.not_lt_zero _)) (Nat.lt_succ_self _) _ _ h ls (lv_sub hl [2, 3, 1, 0] rfl)

set_option maxRecDepth 100000 in
set_option maxHeartbeats 1000000 in
theorem c_X7_fitting_t (gl : Launch) (Z : PL) (v : VV) (w : WV) (x0 : Int32) (x1 : Int32) (n : Nat) (B : Nat) (j : Nat) (L : LND) (hcn : CN v n B j L) (z : Nat) (hz : v 61 2 = nI z) (hzm : z ≤ 5) (hsd : ∀ i, i < z → ∃ d, d ≤ 20 ∧ v 63 i = nI d) (hB20 : B + 30 < 1000000) : CT gl yX7_fitting cX7_fitting 8 (some .int) 5 126 Z [.ref (zg Z 0), .int x0, .int x1, .int 1] v w (Qi Z (fun r u => r = (if isP (nI n) x0 && inR x1 0 1 then (if x1 = 0 then cntD (wasP (xC v 51 n) L n (v 62) (v 63) z x0.toNatClampNeg) 40 (40 + 1) else minD (wasP (xC v 51 n) L n (v 62) (v 63) z x0.toNatClampNeg) 40 (40 + 1)) else -1) ∧ (u.1, w) = u ∧ scC v u.1)) := by
  refine g_met (by decide) (Nat.le_of_ble_eq_true rfl) ?_
  intro gp ge gs gm ga gb gh gc X h ls hl
  have hx := X.1
  have hb := X.2.1
  have hl : lv_has ls 8 [(0, .ref (zg Z 0)), (1, .int x0), (2, .int x1), (3, .int 1)] := hl
  obtain ⟨hn, h6, hj7, hland, hst, hrx, hB⟩ := CN.f hcn
  refine lv_aload_n hx hb dX7_fitting_0 rfl (lv_at hl 0 rfl) ?_
  refine lv_iload_n hx hb dX7_fitting_1 rfl (lv_at hl 1 rfl) ?_
  refine g_ki h (g_runV X h (As := [.int x0]) (rest := []) (c_X7_isPerson gl Z v w x0 n hn h6) mi_X7_isPerson ml_RX7_76 (cc_0) (by decide) kl7 rfl ⟨Nat.le_of_ble_eq_true rfl, Nat.le_of_ble_eq_true rfl⟩ rfl hl.1 rfl (Nat.le_of_ble_eq_true rfl) dX7_fitting_2) (fun r2 v2 w2 H locs hp2 h => ?_)
  obtain ⟨hr2, hu2⟩ := hp2; obtain ⟨rfl, rfl⟩ := Prod.mk.inj hu2
  refine lv_if_eq (tgt := 17) hx hb dX7_fitting_5 (by decide) (fun c_5 => ?_) (fun c_5 => ?_)
  · skip
    rw [hr2, bI_0] at c_5
    refine lv_iconst (v := (-1)) hx hb dX7_fitting_17 (by decide) ?_
    exact g_iret X h dX7_fitting_18 ⟨by rw [if_neg (by rw [c_5]; simp)], rfl, scC_refl v⟩
  · skip
    rw [hr2, bI_n] at c_5
    obtain ⟨p, hp, hpn, hpc⟩ := isP_nat (by omega) c_5
    refine lv_iload_n hx hb dX7_fitting_8 rfl (lv_at hl 2 rfl) ?_
    refine lv_iconst (v := 0) hx hb dX7_fitting_9 (by decide) ?_
    refine lv_iconst (v := 1) hx hb dX7_fitting_10 (by decide) ?_
    refine g_ki h (g_runS X h (As := [.int x1, .int 0, .int 1]) (rest := []) (c_X7_isWithin gl Z v w x1 0 1) ms_X7_isWithin ml_RX7_58 ⟨Nat.le_of_ble_eq_true rfl, Nat.le_of_ble_eq_true rfl⟩ rfl hl.1 rfl (Nat.le_of_ble_eq_true rfl) dX7_fitting_11) (fun r11 v11 w11 H locs hp11 h => ?_)
    obtain ⟨hr11, hu11⟩ := hp11; obtain ⟨rfl, rfl⟩ := Prod.mk.inj hu11
    refine lv_if_ne (tgt := 19) hx hb dX7_fitting_14 (by decide) (fun c_14 => ?_) (fun c_14 => ?_)
    · skip
      rw [hr11, bI_n] at c_14
      refine lv_iload_n hx hb dX7_fitting_19 rfl (lv_at hl 3 rfl) ?_
      refine lv_if_eq (tgt := 28) hx hb dX7_fitting_20 (by decide) (fun c_20 => ?_) (fun c_20 => ?_)
      · exact absurd c_20 (by decide)
      · skip
        refine lv_bipush (v := 40) hx hb dX7_fitting_23 (by decide) ?_
        refine lv_goto (tgt := 30) hx hb dX7_fitting_25 (by decide) ?_
        refine lv_istore (lv' := [(4, .int 40), (0, .ref (zg Z 0)), (1, .int x0), (2, .int x1), (3, .int 1)]) hx hb dX7_fitting_30 hl (by decide) rfl (fun ls hl => ?_)
        refine lv_iconst (v := 0) hx hb dX7_fitting_32 (by decide) ?_
        refine lv_istore (lv' := [(5, .int 0), (4, .int 40), (0, .ref (zg Z 0)), (1, .int x0), (2, .int x1), (3, .int 1)]) hx hb dX7_fitting_33 hl (by decide) rfl (fun ls hl => ?_)
        refine lv_bipush (v := (-5)) hx hb dX7_fitting_35 (by decide) ?_
        refine lv_istore (lv' := [(6, .int (-5)), (5, .int 0), (4, .int 40), (0, .ref (zg Z 0)), (1, .int x0), (2, .int x1), (3, .int 1)]) hx hb dX7_fitting_37 hl (by decide) rfl (fun ls hl => ?_)
        refine lv_iconst (v := 0) hx hb dX7_fitting_39 (by decide) ?_
        refine lv_istore (lv' := [(7, .int 0), (6, .int (-5)), (5, .int 0), (4, .int 40), (0, .ref (zg Z 0)), (1, .int x0), (2, .int x1), (3, .int 1)]) hx hb dX7_fitting_40 hl (by decide) rfl (fun ls hl => ?_)
        have L42 : ∀ (n42 : Nat) (i : Nat) (x5 x6 x7 : Int32) (va : VV), (x7 = nI i) → (i ≤ 40 + 1) → (fitI (wasP (xC v 51 n) L n (v 62) (v 63) z p) 40 i x5 x6) → (scC v va) → 40 + 1 - i < n42 → ∀ (H : Heap) (locs : List Loc), HS Z gs va w H locs → ∀ ls : Array Slot, lv_has ls 8 [(0, .ref (zg Z 0)), (1, .int x0), (2, .int x1), (3, .int 1), (4, .int 40), (5, .int x5), (6, .int x6), (7, .int x7)] → W gp gl ge (rmm 5 126) gs gm ga gb gh gc H locs 0 0 (MQ gb (Qi Z (fun r u => r = (if isP (nI n) x0 && inR x1 0 1 then (if x1 = 0 then cntD (wasP (xC v 51 n) L n (v 62) (v 63) z x0.toNatClampNeg) 40 (40 + 1) else minD (wasP (xC v 51 n) L n (v 62) (v 63) z x0.toNatClampNeg) 40 (40 + 1)) else -1) ∧ (u.1, w) = u ∧ scC v u.1)) ga gs 0 0 (zA Z)) (F0 gm 42 ls []) := by
          intro n42
          induction n42 with
          | zero => intro i x5 x6 x7 va h7 hi hft hsa hmu; exact absurd hmu (Nat.not_lt_zero _)
          | succ n42 ih42 =>
            intro i x5 x6 x7 va h7 hi hft hsa hmu42 H locs h ls hl
            refine lv_iload hx hb dX7_fitting_42 (lv_at hl 7 rfl) ?_
            refine lv_iload hx hb dX7_fitting_44 (lv_at hl 4 rfl) ?_
            refine lv_icmp_gt (tgt := 135) hx hb dX7_fitting_46 (by decide) (fun c_46 => ?_) (fun c_46 => ?_)
            · skip
              have hit := nI_lt1 (a := 40) (b := i) rfl h7 (by omega) (by omega) c_46
              refine lv_iload_n hx hb dX7_fitting_135 rfl (lv_at hl 2 rfl) ?_
              refine lv_if_ne (tgt := 144) hx hb dX7_fitting_136 (by decide) (fun c_136 => ?_) (fun c_136 => ?_)
              · skip
                refine lv_iload hx hb dX7_fitting_144 (lv_at hl 6 rfl) ?_
                exact g_iret X h dX7_fitting_146 ⟨by rw [show i = 40 + 1 by omega] at hft; obtain ⟨f1, f2⟩ := fit_end hft; rw [if_pos (by rw [c_5, c_14]; rfl), if_neg c_136, hpc]; exact f2, rfl, hsa⟩
              · skip
                refine lv_iload hx hb dX7_fitting_139 (lv_at hl 5 rfl) ?_
                refine lv_goto (tgt := 146) hx hb dX7_fitting_141 (by decide) ?_
                exact g_iret X h dX7_fitting_146 ⟨by rw [show i = 40 + 1 by omega] at hft; obtain ⟨f1, f2⟩ := fit_end hft; rw [if_pos (by rw [c_5, c_14]; rfl), if_pos c_136, hpc]; exact f1, rfl, hsa⟩
            · skip
              have hit := nI_lt0 (a := 40) (b := i) rfl h7 (by omega) (by omega) c_46
              refine lv_aload_n hx hb dX7_fitting_49 rfl (lv_at hl 0 rfl) ?_
              refine g_getr X h (k := 2) (t := 70) (cc_0) fr_RX7_27 rfl (by decide) (by decide) (by decide) dX7_fitting_50 ?_
              refine lv_aload_n hx hb dX7_fitting_53 rfl (lv_at hl 0 rfl) ?_
              refine g_getr X h (k := 1) (t := 51) (cc_0) fr_RX7_23 rfl (by decide) (by decide) (by decide) dX7_fitting_54 ?_
              refine g_kv h (g_runV X h (As := [.ref (zg Z 51)]) (rest := []) (c_X6_startAs gl Z va w 70 isW1 51 isW0 (by decide) n j h6 hj7 (CN.f (CN_sc hsa hcn)).2.2.2.1 (CN.f (CN_sc hsa hcn)).2.2.2.2.1) mi_X6_startAs ml_RX7_169 (cc_70) (by decide) kl6 rfl ⟨Nat.le_of_ble_eq_true rfl, Nat.le_of_ble_eq_true rfl⟩ rfl hl.1 rfl (Nat.le_of_ble_eq_true rfl) dX7_fitting_57) (fun v57 w57 H locs hp57 h => ?_)
              obtain ⟨hx57, hw57, hl657, hft57, hsw57⟩ := hp57
              obtain ⟨-, rfl⟩ := Prod.mk.inj hw57
              replace hx57 : xC v57 _ _ = _ := hx57
              replace hl657 : v57 _ 6 = _ := hl657
              replace hft57 : frT _ v57 _ := hft57
              replace hsw57 : stW v57 _ _ := hsw57
              obtain ⟨hs57, hc57, hX57⟩ := TC_start hsa hcn hx57 hl657 hft57
              refine lv_iload_n hx hb dX7_fitting_60 rfl (lv_at hl 3 rfl) ?_
              refine lv_if_eq (tgt := 81) hx hb dX7_fitting_61 (by decide) (fun c_61 => ?_) (fun c_61 => ?_)
              · exact absurd c_61 (by decide)
              · skip
                refine lv_aload_n hx hb dX7_fitting_64 rfl (lv_at hl 0 rfl) ?_
                refine g_getr X h (k := 2) (t := 70) (cc_0) fr_RX7_27 rfl (by decide) (by decide) (by decide) dX7_fitting_65 ?_
                refine g_getr X h (k := 0) (t := 71) (cc_70) fr_RX7_62 rfl (by decide) (by decide) (by decide) dX7_fitting_68 ?_
                refine g_getr X h (k := 4) (t := 75) (cc_71) fr_RX7_87 rfl (by decide) (by decide) (by decide) dX7_fitting_71 ?_
                refine lv_iload_n hx hb dX7_fitting_74 rfl (lv_at hl 1 rfl) ?_
                refine lv_iload hx hb dX7_fitting_75 (lv_at hl 7 rfl) ?_
                refine g_iast X h (k := p) (cc_75) hp (by omega) (by decide) dX7_fitting_77 (fun v77 H locs ev77 h => ?_)
                refine lv_goto (tgt := 95) hx hb dX7_fitting_78 (by decide) ?_
                have hxm : xC v77 70 n = up2 (xC v 51 n) 3 p (nI i) := by rw [ev77, xT_th (by omega), hX57, h7]
                have hcm : CW v77 70 n B j L := CW70 hc57 (fun i hi => by rw [ev77, up2_ne (by omega)]) (by rw [ev77, up2_ne (by decide)]) (by rw [ev77, up2_ne (by decide)]) (by rw [hxm]; exact (RX_th (by omega) hrx))
                have hsm : scC v v77 := by rw [ev77]; exact scC_up hs57 (by decide)
                refine lv_aload_n hx hb dX7_fitting_95 rfl (lv_at hl 0 rfl) ?_
                refine g_getr X h (k := 2) (t := 70) (cc_0) fr_RX7_27 rfl (by decide) (by decide) (by decide) dX7_fitting_96 ?_
                refine lv_aload_n hx hb dX7_fitting_99 rfl (lv_at hl 0 rfl) ?_
                refine g_getr X h (k := 1) (t := 51) (cc_0) fr_RX7_23 rfl (by decide) (by decide) (by decide) dX7_fitting_100 ?_
                refine g_getr X h (k := 11) (t := 61) (cc_51) fr_RX7_180 rfl (by decide) (by decide) (by decide) dX7_fitting_103 ?_
                refine g_ki h (g_runV X h (As := [.ref (zg Z 61)]) (rest := []) (c_X6_faresAs gl Z v77 w n B j L hcm z (by rw [sq_at hsm (i := 61) (by omega) (by omega) (by omega)]; exact hz) hzm (by rw [sq_at hsm (i := 63) (by omega) (by omega) (by omega)]; exact hsd) hB20) mi_X6_faresAs ml_RX7_283 (cc_70) (by decide) kl6 rfl ⟨Nat.le_of_ble_eq_true rfl, Nat.le_of_ble_eq_true rfl⟩ rfl hl.1 rfl (Nat.le_of_ble_eq_true rfl) dX7_fitting_106) (fun r106 v106 w106 H locs hp106 h => ?_)
                obtain ⟨hr106, hw106, hfd106⟩ := hp106
                obtain ⟨-, rfl⟩ := Prod.mk.inj hw106
                replace hfd106 : frD _ v106 _ _ := hfd106
                rw [hxm, sq_at hsm (i := 62) (by omega) (by omega) (by omega), sq_at hsm (i := 63) (by omega) (by omega) (by omega)] at hr106
                replace hr106 : r106 = bI ((wasP (xC v 51 n) L n (v 62) (v 63) z p) i) := hr106
                have hs106 := scC_trans hsm (scC_D hj7 hfd106)
                refine lv_if_eq (tgt := 129) hx hb dX7_fitting_109 (by decide) (fun c_109 => ?_) (fun c_109 => ?_)
                · skip
                  rw [hr106, bI_0] at c_109
                  refine lv_iinc (v := (x7 + 1)) (lv' := [(7, .int (x7 + 1)), (0, .ref (zg Z 0)), (1, .int x0), (2, .int x1), (3, .int 1), (4, .int 40), (5, .int x5), (6, .int x6)]) hx hb dX7_fitting_129 hl (k := 7) rfl rfl (by decide) rfl (fun ls hl => ?_)
                  refine lv_goto (tgt := 42) hx hb dX7_fitting_132 (by decide) ?_
                  exact ih42 (i + 1) x5 x6 (x7 + 1) v106 (by rw [h7]; exact nI_1 _) (by omega) (fit_no hit hft c_109) hs106 (by omega) _ _ h ls (lv_sub hl [1, 2, 3, 4, 5, 6, 7, 0] rfl)
                · skip
                  rw [hr106, bI_n] at c_109
                  refine lv_iload hx hb dX7_fitting_112 (lv_at hl 5 rfl) ?_
                  refine lv_if_ne (tgt := 122) hx hb dX7_fitting_114 (by decide) (fun c_114 => ?_) (fun c_114 => ?_)
                  · skip
                    refine lv_iload hx hb dX7_fitting_122 (lv_at hl 6 rfl) ?_
                    refine lv_istore (lv' := [(6, .int x6), (0, .ref (zg Z 0)), (1, .int x0), (2, .int x1), (3, .int 1), (4, .int 40), (5, .int x5), (7, .int x7)]) hx hb dX7_fitting_124 hl (by decide) rfl (fun ls hl => ?_)
                    refine lv_iinc (v := (x5 + 1)) (lv' := [(5, .int (x5 + 1)), (6, .int x6), (0, .ref (zg Z 0)), (1, .int x0), (2, .int x1), (3, .int 1), (4, .int 40), (7, .int x7)]) hx hb dX7_fitting_126 hl (k := 6) rfl rfl (by decide) rfl (fun ls hl => ?_)
                    refine lv_iinc (v := (x7 + 1)) (lv' := [(7, .int (x7 + 1)), (5, .int (x5 + 1)), (6, .int x6), (0, .ref (zg Z 0)), (1, .int x0), (2, .int x1), (3, .int 1), (4, .int 40)]) hx hb dX7_fitting_129 hl (k := 7) rfl rfl (by decide) rfl (fun ls hl => ?_)
                    refine lv_goto (tgt := 42) hx hb dX7_fitting_132 (by decide) ?_
                    exact ih42 (i + 1) (x5 + 1) x6 (x7 + 1) v106 (by rw [h7]; exact nI_1 _) (by omega) (fit_yes hit (by decide) hft c_109 h7 (Or.inr ⟨c_114, rfl⟩)) hs106 (by omega) _ _ h ls (lv_sub hl [3, 4, 5, 6, 7, 1, 2, 0] rfl)
                  · skip
                    refine lv_iload hx hb dX7_fitting_117 (lv_at hl 7 rfl) ?_
                    refine lv_goto (tgt := 124) hx hb dX7_fitting_119 (by decide) ?_
                    refine lv_istore (lv' := [(6, .int x7), (0, .ref (zg Z 0)), (1, .int x0), (2, .int x1), (3, .int 1), (4, .int 40), (5, .int x5), (7, .int x7)]) hx hb dX7_fitting_124 hl (by decide) rfl (fun ls hl => ?_)
                    refine lv_iinc (v := (x5 + 1)) (lv' := [(5, .int (x5 + 1)), (6, .int x7), (0, .ref (zg Z 0)), (1, .int x0), (2, .int x1), (3, .int 1), (4, .int 40), (7, .int x7)]) hx hb dX7_fitting_126 hl (k := 6) rfl rfl (by decide) rfl (fun ls hl => ?_)
                    refine lv_iinc (v := (x7 + 1)) (lv' := [(7, .int (x7 + 1)), (5, .int (x5 + 1)), (6, .int x7), (0, .ref (zg Z 0)), (1, .int x0), (2, .int x1), (3, .int 1), (4, .int 40)]) hx hb dX7_fitting_129 hl (k := 7) rfl rfl (by decide) rfl (fun ls hl => ?_)
                    refine lv_goto (tgt := 42) hx hb dX7_fitting_132 (by decide) ?_
                    exact ih42 (i + 1) (x5 + 1) x7 (x7 + 1) v106 (by rw [h7]; exact nI_1 _) (by omega) (fit_yes hit (by decide) hft c_109 h7 (Or.inl ⟨c_114, rfl⟩)) hs106 (by omega) _ _ h ls (lv_sub hl [3, 4, 5, 6, 7, 1, 2, 0] rfl)
        exact L42 (40 + 1 - 0 + 1) 0 0 (-5) 0 v rfl (by omega) (fit_0 _ _) (scC_refl v) (Nat.lt_succ_self _) _ _ h ls (lv_sub hl [4, 5, 6, 7, 3, 2, 1, 0] rfl)
    · skip
      rw [hr11, bI_0] at c_14
      refine lv_iconst (v := (-1)) hx hb dX7_fitting_17 (by decide) ?_
      exact g_iret X h dX7_fitting_18 ⟨by rw [if_neg (by rw [c_14]; simp)], rfl, scC_refl v⟩

set_option maxRecDepth 100000 in
set_option maxHeartbeats 1000000 in
theorem c_X7_fitting_f (gl : Launch) (Z : PL) (v : VV) (w : WV) (x0 : Int32) (x1 : Int32) (n : Nat) (B : Nat) (j : Nat) (L : LND) (hcn : CN v n B j L) (z : Nat) (hz : v 61 2 = nI z) (hzm : z ≤ 5) (hsd : ∀ i, i < z → ∃ d, d ≤ 20 ∧ v 63 i = nI d) (hB20 : B + 30 < 1000000) : CT gl yX7_fitting cX7_fitting 8 (some .int) 5 126 Z [.ref (zg Z 0), .int x0, .int x1, .int 0] v w (Qi Z (fun r u => r = (if isP (nI n) x0 && inR x1 0 1 then (if x1 = 0 then cntD (canP (xC v 51 n) L n (v 62) (v 63) z x0.toNatClampNeg) 9 (9 + 1) else minD (canP (xC v 51 n) L n (v 62) (v 63) z x0.toNatClampNeg) 9 (9 + 1)) else -1) ∧ (u.1, w) = u ∧ scC v u.1)) := by
  refine g_met (by decide) (Nat.le_of_ble_eq_true rfl) ?_
  intro gp ge gs gm ga gb gh gc X h ls hl
  have hx := X.1
  have hb := X.2.1
  have hl : lv_has ls 8 [(0, .ref (zg Z 0)), (1, .int x0), (2, .int x1), (3, .int 0)] := hl
  obtain ⟨hn, h6, hj7, hland, hst, hrx, hB⟩ := CN.f hcn
  refine lv_aload_n hx hb dX7_fitting_0 rfl (lv_at hl 0 rfl) ?_
  refine lv_iload_n hx hb dX7_fitting_1 rfl (lv_at hl 1 rfl) ?_
  refine g_ki h (g_runV X h (As := [.int x0]) (rest := []) (c_X7_isPerson gl Z v w x0 n hn h6) mi_X7_isPerson ml_RX7_76 (cc_0) (by decide) kl7 rfl ⟨Nat.le_of_ble_eq_true rfl, Nat.le_of_ble_eq_true rfl⟩ rfl hl.1 rfl (Nat.le_of_ble_eq_true rfl) dX7_fitting_2) (fun r2 v2 w2 H locs hp2 h => ?_)
  obtain ⟨hr2, hu2⟩ := hp2; obtain ⟨rfl, rfl⟩ := Prod.mk.inj hu2
  refine lv_if_eq (tgt := 17) hx hb dX7_fitting_5 (by decide) (fun c_5 => ?_) (fun c_5 => ?_)
  · skip
    rw [hr2, bI_0] at c_5
    refine lv_iconst (v := (-1)) hx hb dX7_fitting_17 (by decide) ?_
    exact g_iret X h dX7_fitting_18 ⟨by rw [if_neg (by rw [c_5]; simp)], rfl, scC_refl v⟩
  · skip
    rw [hr2, bI_n] at c_5
    obtain ⟨p, hp, hpn, hpc⟩ := isP_nat (by omega) c_5
    refine lv_iload_n hx hb dX7_fitting_8 rfl (lv_at hl 2 rfl) ?_
    refine lv_iconst (v := 0) hx hb dX7_fitting_9 (by decide) ?_
    refine lv_iconst (v := 1) hx hb dX7_fitting_10 (by decide) ?_
    refine g_ki h (g_runS X h (As := [.int x1, .int 0, .int 1]) (rest := []) (c_X7_isWithin gl Z v w x1 0 1) ms_X7_isWithin ml_RX7_58 ⟨Nat.le_of_ble_eq_true rfl, Nat.le_of_ble_eq_true rfl⟩ rfl hl.1 rfl (Nat.le_of_ble_eq_true rfl) dX7_fitting_11) (fun r11 v11 w11 H locs hp11 h => ?_)
    obtain ⟨hr11, hu11⟩ := hp11; obtain ⟨rfl, rfl⟩ := Prod.mk.inj hu11
    refine lv_if_ne (tgt := 19) hx hb dX7_fitting_14 (by decide) (fun c_14 => ?_) (fun c_14 => ?_)
    · skip
      rw [hr11, bI_n] at c_14
      refine lv_iload_n hx hb dX7_fitting_19 rfl (lv_at hl 3 rfl) ?_
      refine lv_if_eq (tgt := 28) hx hb dX7_fitting_20 (by decide) (fun c_20 => ?_) (fun c_20 => ?_)
      · skip
        refine lv_bipush (v := 9) hx hb dX7_fitting_28 (by decide) ?_
        refine lv_istore (lv' := [(4, .int 9), (0, .ref (zg Z 0)), (1, .int x0), (2, .int x1), (3, .int 0)]) hx hb dX7_fitting_30 hl (by decide) rfl (fun ls hl => ?_)
        refine lv_iconst (v := 0) hx hb dX7_fitting_32 (by decide) ?_
        refine lv_istore (lv' := [(5, .int 0), (4, .int 9), (0, .ref (zg Z 0)), (1, .int x0), (2, .int x1), (3, .int 0)]) hx hb dX7_fitting_33 hl (by decide) rfl (fun ls hl => ?_)
        refine lv_bipush (v := (-5)) hx hb dX7_fitting_35 (by decide) ?_
        refine lv_istore (lv' := [(6, .int (-5)), (5, .int 0), (4, .int 9), (0, .ref (zg Z 0)), (1, .int x0), (2, .int x1), (3, .int 0)]) hx hb dX7_fitting_37 hl (by decide) rfl (fun ls hl => ?_)
        refine lv_iconst (v := 0) hx hb dX7_fitting_39 (by decide) ?_
        refine lv_istore (lv' := [(7, .int 0), (6, .int (-5)), (5, .int 0), (4, .int 9), (0, .ref (zg Z 0)), (1, .int x0), (2, .int x1), (3, .int 0)]) hx hb dX7_fitting_40 hl (by decide) rfl (fun ls hl => ?_)
        have L42 : ∀ (n42 : Nat) (i : Nat) (x5 x6 x7 : Int32) (va : VV), (x7 = nI i) → (i ≤ 9 + 1) → (fitI (canP (xC v 51 n) L n (v 62) (v 63) z p) 9 i x5 x6) → (scC v va) → 9 + 1 - i < n42 → ∀ (H : Heap) (locs : List Loc), HS Z gs va w H locs → ∀ ls : Array Slot, lv_has ls 8 [(0, .ref (zg Z 0)), (1, .int x0), (2, .int x1), (3, .int 0), (4, .int 9), (5, .int x5), (6, .int x6), (7, .int x7)] → W gp gl ge (rmm 5 126) gs gm ga gb gh gc H locs 0 0 (MQ gb (Qi Z (fun r u => r = (if isP (nI n) x0 && inR x1 0 1 then (if x1 = 0 then cntD (canP (xC v 51 n) L n (v 62) (v 63) z x0.toNatClampNeg) 9 (9 + 1) else minD (canP (xC v 51 n) L n (v 62) (v 63) z x0.toNatClampNeg) 9 (9 + 1)) else -1) ∧ (u.1, w) = u ∧ scC v u.1)) ga gs 0 0 (zA Z)) (F0 gm 42 ls []) := by
          intro n42
          induction n42 with
          | zero => intro i x5 x6 x7 va h7 hi hft hsa hmu; exact absurd hmu (Nat.not_lt_zero _)
          | succ n42 ih42 =>
            intro i x5 x6 x7 va h7 hi hft hsa hmu42 H locs h ls hl
            refine lv_iload hx hb dX7_fitting_42 (lv_at hl 7 rfl) ?_
            refine lv_iload hx hb dX7_fitting_44 (lv_at hl 4 rfl) ?_
            refine lv_icmp_gt (tgt := 135) hx hb dX7_fitting_46 (by decide) (fun c_46 => ?_) (fun c_46 => ?_)
            · skip
              have hit := nI_lt1 (a := 9) (b := i) rfl h7 (by omega) (by omega) c_46
              refine lv_iload_n hx hb dX7_fitting_135 rfl (lv_at hl 2 rfl) ?_
              refine lv_if_ne (tgt := 144) hx hb dX7_fitting_136 (by decide) (fun c_136 => ?_) (fun c_136 => ?_)
              · skip
                refine lv_iload hx hb dX7_fitting_144 (lv_at hl 6 rfl) ?_
                exact g_iret X h dX7_fitting_146 ⟨by rw [show i = 9 + 1 by omega] at hft; obtain ⟨f1, f2⟩ := fit_end hft; rw [if_pos (by rw [c_5, c_14]; rfl), if_neg c_136, hpc]; exact f2, rfl, hsa⟩
              · skip
                refine lv_iload hx hb dX7_fitting_139 (lv_at hl 5 rfl) ?_
                refine lv_goto (tgt := 146) hx hb dX7_fitting_141 (by decide) ?_
                exact g_iret X h dX7_fitting_146 ⟨by rw [show i = 9 + 1 by omega] at hft; obtain ⟨f1, f2⟩ := fit_end hft; rw [if_pos (by rw [c_5, c_14]; rfl), if_pos c_136, hpc]; exact f1, rfl, hsa⟩
            · skip
              have hit := nI_lt0 (a := 9) (b := i) rfl h7 (by omega) (by omega) c_46
              refine lv_aload_n hx hb dX7_fitting_49 rfl (lv_at hl 0 rfl) ?_
              refine g_getr X h (k := 2) (t := 70) (cc_0) fr_RX7_27 rfl (by decide) (by decide) (by decide) dX7_fitting_50 ?_
              refine lv_aload_n hx hb dX7_fitting_53 rfl (lv_at hl 0 rfl) ?_
              refine g_getr X h (k := 1) (t := 51) (cc_0) fr_RX7_23 rfl (by decide) (by decide) (by decide) dX7_fitting_54 ?_
              refine g_kv h (g_runV X h (As := [.ref (zg Z 51)]) (rest := []) (c_X6_startAs gl Z va w 70 isW1 51 isW0 (by decide) n j h6 hj7 (CN.f (CN_sc hsa hcn)).2.2.2.1 (CN.f (CN_sc hsa hcn)).2.2.2.2.1) mi_X6_startAs ml_RX7_169 (cc_70) (by decide) kl6 rfl ⟨Nat.le_of_ble_eq_true rfl, Nat.le_of_ble_eq_true rfl⟩ rfl hl.1 rfl (Nat.le_of_ble_eq_true rfl) dX7_fitting_57) (fun v57 w57 H locs hp57 h => ?_)
              obtain ⟨hx57, hw57, hl657, hft57, hsw57⟩ := hp57
              obtain ⟨-, rfl⟩ := Prod.mk.inj hw57
              replace hx57 : xC v57 _ _ = _ := hx57
              replace hl657 : v57 _ 6 = _ := hl657
              replace hft57 : frT _ v57 _ := hft57
              replace hsw57 : stW v57 _ _ := hsw57
              obtain ⟨hs57, hc57, hX57⟩ := TC_start hsa hcn hx57 hl657 hft57
              refine lv_iload_n hx hb dX7_fitting_60 rfl (lv_at hl 3 rfl) ?_
              refine lv_if_eq (tgt := 81) hx hb dX7_fitting_61 (by decide) (fun c_61 => ?_) (fun c_61 => ?_)
              · skip
                refine lv_aload_n hx hb dX7_fitting_81 rfl (lv_at hl 0 rfl) ?_
                refine g_getr X h (k := 2) (t := 70) (cc_0) fr_RX7_27 rfl (by decide) (by decide) (by decide) dX7_fitting_82 ?_
                refine g_getr X h (k := 0) (t := 71) (cc_70) fr_RX7_62 rfl (by decide) (by decide) (by decide) dX7_fitting_85 ?_
                refine g_getr X h (k := 3) (t := 74) (cc_71) fr_RX7_84 rfl (by decide) (by decide) (by decide) dX7_fitting_88 ?_
                refine lv_iload_n hx hb dX7_fitting_91 rfl (lv_at hl 1 rfl) ?_
                refine lv_iload hx hb dX7_fitting_92 (lv_at hl 7 rfl) ?_
                refine g_iast X h (k := p) (cc_74) hp (by omega) (by decide) dX7_fitting_94 (fun v94 H locs ev94 h => ?_)
                have hxm : xC v94 70 n = up2 (xC v 51 n) 2 p (nI i) := by rw [ev94, xT_v (by omega), hX57, h7]
                have hcm : CW v94 70 n B j L := CW70 hc57 (fun i hi => by rw [ev94, up2_ne (by omega)]) (by rw [ev94, up2_ne (by decide)]) (by rw [ev94, up2_ne (by decide)]) (by rw [hxm]; exact (RX_v (by omega) hrx))
                have hsm : scC v v94 := by rw [ev94]; exact scC_up hs57 (by decide)
                refine lv_aload_n hx hb dX7_fitting_95 rfl (lv_at hl 0 rfl) ?_
                refine g_getr X h (k := 2) (t := 70) (cc_0) fr_RX7_27 rfl (by decide) (by decide) (by decide) dX7_fitting_96 ?_
                refine lv_aload_n hx hb dX7_fitting_99 rfl (lv_at hl 0 rfl) ?_
                refine g_getr X h (k := 1) (t := 51) (cc_0) fr_RX7_23 rfl (by decide) (by decide) (by decide) dX7_fitting_100 ?_
                refine g_getr X h (k := 11) (t := 61) (cc_51) fr_RX7_180 rfl (by decide) (by decide) (by decide) dX7_fitting_103 ?_
                refine g_ki h (g_runV X h (As := [.ref (zg Z 61)]) (rest := []) (c_X6_faresAs gl Z v94 w n B j L hcm z (by rw [sq_at hsm (i := 61) (by omega) (by omega) (by omega)]; exact hz) hzm (by rw [sq_at hsm (i := 63) (by omega) (by omega) (by omega)]; exact hsd) hB20) mi_X6_faresAs ml_RX7_283 (cc_70) (by decide) kl6 rfl ⟨Nat.le_of_ble_eq_true rfl, Nat.le_of_ble_eq_true rfl⟩ rfl hl.1 rfl (Nat.le_of_ble_eq_true rfl) dX7_fitting_106) (fun r106 v106 w106 H locs hp106 h => ?_)
                obtain ⟨hr106, hw106, hfd106⟩ := hp106
                obtain ⟨-, rfl⟩ := Prod.mk.inj hw106
                replace hfd106 : frD _ v106 _ _ := hfd106
                rw [hxm, sq_at hsm (i := 62) (by omega) (by omega) (by omega), sq_at hsm (i := 63) (by omega) (by omega) (by omega)] at hr106
                replace hr106 : r106 = bI ((canP (xC v 51 n) L n (v 62) (v 63) z p) i) := hr106
                have hs106 := scC_trans hsm (scC_D hj7 hfd106)
                refine lv_if_eq (tgt := 129) hx hb dX7_fitting_109 (by decide) (fun c_109 => ?_) (fun c_109 => ?_)
                · skip
                  rw [hr106, bI_0] at c_109
                  refine lv_iinc (v := (x7 + 1)) (lv' := [(7, .int (x7 + 1)), (0, .ref (zg Z 0)), (1, .int x0), (2, .int x1), (3, .int 0), (4, .int 9), (5, .int x5), (6, .int x6)]) hx hb dX7_fitting_129 hl (k := 7) rfl rfl (by decide) rfl (fun ls hl => ?_)
                  refine lv_goto (tgt := 42) hx hb dX7_fitting_132 (by decide) ?_
                  exact ih42 (i + 1) x5 x6 (x7 + 1) v106 (by rw [h7]; exact nI_1 _) (by omega) (fit_no hit hft c_109) hs106 (by omega) _ _ h ls (lv_sub hl [1, 2, 3, 4, 5, 6, 7, 0] rfl)
                · skip
                  rw [hr106, bI_n] at c_109
                  refine lv_iload hx hb dX7_fitting_112 (lv_at hl 5 rfl) ?_
                  refine lv_if_ne (tgt := 122) hx hb dX7_fitting_114 (by decide) (fun c_114 => ?_) (fun c_114 => ?_)
                  · skip
                    refine lv_iload hx hb dX7_fitting_122 (lv_at hl 6 rfl) ?_
                    refine lv_istore (lv' := [(6, .int x6), (0, .ref (zg Z 0)), (1, .int x0), (2, .int x1), (3, .int 0), (4, .int 9), (5, .int x5), (7, .int x7)]) hx hb dX7_fitting_124 hl (by decide) rfl (fun ls hl => ?_)
                    refine lv_iinc (v := (x5 + 1)) (lv' := [(5, .int (x5 + 1)), (6, .int x6), (0, .ref (zg Z 0)), (1, .int x0), (2, .int x1), (3, .int 0), (4, .int 9), (7, .int x7)]) hx hb dX7_fitting_126 hl (k := 6) rfl rfl (by decide) rfl (fun ls hl => ?_)
                    refine lv_iinc (v := (x7 + 1)) (lv' := [(7, .int (x7 + 1)), (5, .int (x5 + 1)), (6, .int x6), (0, .ref (zg Z 0)), (1, .int x0), (2, .int x1), (3, .int 0), (4, .int 9)]) hx hb dX7_fitting_129 hl (k := 7) rfl rfl (by decide) rfl (fun ls hl => ?_)
                    refine lv_goto (tgt := 42) hx hb dX7_fitting_132 (by decide) ?_
                    exact ih42 (i + 1) (x5 + 1) x6 (x7 + 1) v106 (by rw [h7]; exact nI_1 _) (by omega) (fit_yes hit (by decide) hft c_109 h7 (Or.inr ⟨c_114, rfl⟩)) hs106 (by omega) _ _ h ls (lv_sub hl [3, 4, 5, 6, 7, 1, 2, 0] rfl)
                  · skip
                    refine lv_iload hx hb dX7_fitting_117 (lv_at hl 7 rfl) ?_
                    refine lv_goto (tgt := 124) hx hb dX7_fitting_119 (by decide) ?_
                    refine lv_istore (lv' := [(6, .int x7), (0, .ref (zg Z 0)), (1, .int x0), (2, .int x1), (3, .int 0), (4, .int 9), (5, .int x5), (7, .int x7)]) hx hb dX7_fitting_124 hl (by decide) rfl (fun ls hl => ?_)
                    refine lv_iinc (v := (x5 + 1)) (lv' := [(5, .int (x5 + 1)), (6, .int x7), (0, .ref (zg Z 0)), (1, .int x0), (2, .int x1), (3, .int 0), (4, .int 9), (7, .int x7)]) hx hb dX7_fitting_126 hl (k := 6) rfl rfl (by decide) rfl (fun ls hl => ?_)
                    refine lv_iinc (v := (x7 + 1)) (lv' := [(7, .int (x7 + 1)), (5, .int (x5 + 1)), (6, .int x7), (0, .ref (zg Z 0)), (1, .int x0), (2, .int x1), (3, .int 0), (4, .int 9)]) hx hb dX7_fitting_129 hl (k := 7) rfl rfl (by decide) rfl (fun ls hl => ?_)
                    refine lv_goto (tgt := 42) hx hb dX7_fitting_132 (by decide) ?_
                    exact ih42 (i + 1) (x5 + 1) x7 (x7 + 1) v106 (by rw [h7]; exact nI_1 _) (by omega) (fit_yes hit (by decide) hft c_109 h7 (Or.inl ⟨c_114, rfl⟩)) hs106 (by omega) _ _ h ls (lv_sub hl [3, 4, 5, 6, 7, 1, 2, 0] rfl)
              · exact absurd rfl c_61
        exact L42 (9 + 1 - 0 + 1) 0 0 (-5) 0 v rfl (by omega) (fit_0 _ _) (scC_refl v) (Nat.lt_succ_self _) _ _ h ls (lv_sub hl [4, 5, 6, 7, 3, 2, 1, 0] rfl)
      · exact absurd rfl c_20
    · skip
      rw [hr11, bI_0] at c_14
      refine lv_iconst (v := (-1)) hx hb dX7_fitting_17 (by decide) ?_
      exact g_iret X h dX7_fitting_18 ⟨by rw [if_neg (by rw [c_14]; simp)], rfl, scC_refl v⟩

set_option maxRecDepth 100000 in
set_option maxHeartbeats 1000000 in
theorem c_X7_was (gl : Launch) (Z : PL) (v : VV) (w : WV) (x0 : Int32) (x1 : Int32) (n : Nat) (B : Nat) (j : Nat) (L : LND) (hcn : CN v n B j L) (z : Nat) (hz : v 61 2 = nI z) (hzm : z ≤ 5) (hsd : ∀ i, i < z → ∃ d, d ≤ 20 ∧ v 63 i = nI d) (hB20 : B + 30 < 1000000) : CT gl yX7_was cX7_was 3 (some .int) 6 153 Z [.ref (zg Z 0), .int x0, .int x1] v w (Qi Z (fun r u => r = sWas (xC v 51 n) L n (v 62) (v 63) z x0 x1 ∧ (u.1, w) = u ∧ scC v u.1)) := by
  refine g_met (by decide) (Nat.le_of_ble_eq_true rfl) ?_
  intro gp ge gs gm ga gb gh gc X h ls hl
  have hx := X.1
  have hb := X.2.1
  have hl : lv_has ls 3 [(0, .ref (zg Z 0)), (1, .int x0), (2, .int x1)] := hl
  refine lv_aload_n hx hb dX7_was_0 rfl (lv_at hl 0 rfl) ?_
  refine lv_iload_n hx hb dX7_was_1 rfl (lv_at hl 1 rfl) ?_
  refine lv_iload_n hx hb dX7_was_2 rfl (lv_at hl 2 rfl) ?_
  refine lv_iconst (v := 1) hx hb dX7_was_3 (by decide) ?_
  refine g_ki h (g_runV X h (As := [.int x0, .int x1, .int 1]) (rest := []) (c_X7_fitting_t gl Z v w x0 x1 n B j L hcn z hz hzm hsd hB20) mi_X7_fitting ml_RX7_192 (cc_0) (by decide) kl7 rfl ⟨Nat.le_of_ble_eq_true rfl, Nat.le_of_ble_eq_true rfl⟩ rfl hl.1 rfl (Nat.le_of_ble_eq_true rfl) dX7_was_4) (fun r4 v4 w4 H locs hp4 h => ?_)
  obtain ⟨hr4, hw4, hs4⟩ := hp4
  obtain ⟨-, rfl⟩ := Prod.mk.inj hw4
  replace hs4 : scC _ v4 := hs4
  exact g_iret X h dX7_was_7 ⟨hr4, rfl, hs4⟩

set_option maxRecDepth 100000 in
set_option maxHeartbeats 1000000 in
theorem c_X7_can (gl : Launch) (Z : PL) (v : VV) (w : WV) (x0 : Int32) (x1 : Int32) (n : Nat) (B : Nat) (j : Nat) (L : LND) (hcn : CN v n B j L) (z : Nat) (hz : v 61 2 = nI z) (hzm : z ≤ 5) (hsd : ∀ i, i < z → ∃ d, d ≤ 20 ∧ v 63 i = nI d) (hB20 : B + 30 < 1000000) : CT gl yX7_can cX7_can 3 (some .int) 6 153 Z [.ref (zg Z 0), .int x0, .int x1] v w (Qi Z (fun r u => r = sCan (xC v 51 n) L n (v 62) (v 63) z x0 x1 ∧ (u.1, w) = u ∧ scC v u.1)) := by
  refine g_met (by decide) (Nat.le_of_ble_eq_true rfl) ?_
  intro gp ge gs gm ga gb gh gc X h ls hl
  have hx := X.1
  have hb := X.2.1
  have hl : lv_has ls 3 [(0, .ref (zg Z 0)), (1, .int x0), (2, .int x1)] := hl
  refine lv_aload_n hx hb dX7_can_0 rfl (lv_at hl 0 rfl) ?_
  refine lv_iload_n hx hb dX7_can_1 rfl (lv_at hl 1 rfl) ?_
  refine lv_iload_n hx hb dX7_can_2 rfl (lv_at hl 2 rfl) ?_
  refine lv_iconst (v := 0) hx hb dX7_can_3 (by decide) ?_
  refine g_ki h (g_runV X h (As := [.int x0, .int x1, .int 0]) (rest := []) (c_X7_fitting_f gl Z v w x0 x1 n B j L hcn z hz hzm hsd hB20) mi_X7_fitting ml_RX7_192 (cc_0) (by decide) kl7 rfl ⟨Nat.le_of_ble_eq_true rfl, Nat.le_of_ble_eq_true rfl⟩ rfl hl.1 rfl (Nat.le_of_ble_eq_true rfl) dX7_can_4) (fun r4 v4 w4 H locs hp4 h => ?_)
  obtain ⟨hr4, hw4, hs4⟩ := hp4
  obtain ⟨-, rfl⟩ := Prod.mk.inj hw4
  replace hs4 : scC _ v4 := hs4
  exact g_iret X h dX7_can_7 ⟨hr4, rfl, hs4⟩
