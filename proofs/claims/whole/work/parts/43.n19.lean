/-! the class: a land comes -/
def LF (v u : VV) (k : Nat) (R : Bool × Nat × LND) : Prop := (∀ i, i ≠ 0 → i ≠ 51 → i ≠ 108 → (i < 9 + 7 * k ∨ 14 + 7 * k < i) → u i = v i) ∧ u 108 1 = 0 ∧ (∀ q, q ≠ 6 → u 0 q = v 0 q) ∧ (R.1 = false → u 51 = v 51 ∧ u 0 6 = v 0 6) ∧ (R.1 = true → repC u (9 + 7 * k) R.2.2 ∧ (∀ q, q < 6 → u 51 q = v 51 q) ∧ u 51 6 = nI (k + 1) ∧ stW u 51 (k + 1) ∧ u 0 6 = nI (k + 1))
theorem lnk (k : Nat) : 9 + 7 * k = 2 + 7 * (k + 1) := by omega
theorem LF_no {v v27 : VV} {k : Nat} {R : Bool × Nat × LND} (hk : k < 6) (hR : R.1 = false) (hf : ∀ i, i ≠ 108 → (i < 2 + 7 * (k + 1) ∨ 2 + 7 * (k + 1) + 5 < i) → v27 i = v i) (h8 : v27 108 1 = 0) : LF v v27 k R :=
  ⟨fun i a b c d => hf i c (by omega), h8, fun q _ => by rw [hf 0 (by decide) (by omega)], fun _ => ⟨hf 51 (by decide) (by omega), by rw [hf 0 (by decide) (by omega)]⟩, fun q => by rw [hR] at q; cases q⟩
theorem LF_yes {v v27 v45 v55 : VV} {k : Nat} {R : Bool × Nat × LND} (hk : k < 6) (hR : R.1 = true) (hf : ∀ i, i ≠ 108 → (i < 2 + 7 * (k + 1) ∨ 2 + 7 * (k + 1) + 5 < i) → v27 i = v i) (h8 : v27 108 1 = 0) (hr : repL v27 (2 + 7 * (k + 1)) R.2.2 ∧ cumL (DLs R.2.2) (DLs R.2.2).length ≤ 100) (e45 : v45 = stlS v27 51 (k + 1)) (e55 : v55 = up2 v45 0 6 (nI (k + 1))) : LF v v55 k R := by
  have q45 : ∀ i, i ≠ 51 → v45 i = v27 i := fun i hi => by rw [e45, stlS, up2_ne hi, up2_ne hi, up2_ne hi, up2_ne hi]
  have q55 : ∀ i, i ≠ 51 → i ≠ 0 → v55 i = v27 i := fun i hi h0 => by rw [e55, up2_ne h0, q45 i hi]
  have r51 : ∀ q, v55 51 q = if q = 9 then v27 (2 + 7 * (k + 1)) 2 else if q = 8 then v27 (2 + 7 * (k + 1)) 1 else if q = 7 then v27 (2 + 7 * (k + 1)) 0 else if q = 6 then nI (k + 1) else v27 51 q := by
    intro q
    rw [e55, up2_ne (by decide), e45, stlS, up2_at, up2_at, up2_at, up2_at]
  have rl : v55 (2 + 7 * (k + 1)) = v27 (2 + 7 * (k + 1)) := q55 _ (by omega) (by omega)
  refine ⟨fun i a b c d => by rw [q55 i b a]; exact hf i c (by omega), by rw [q55 108 (by decide) (by decide)]; exact h8, (fun q hq => ?_), (fun q => by rw [hR] at q; cases q), fun _ => ⟨?_, fun q hq => ?_, ?_, ⟨?_, ?_, ?_⟩, ?_⟩⟩
  · rw [e55, up2_slot hq, q45 0 (by decide), hf 0 (by decide) (by omega)]
  · rw [lnk]
    exact repC_cong (fun i _ _ => q55 i (by omega) (by omega)) (repC_L hr.1 hr.2)
  · rw [r51, if_neg (by omega), if_neg (by omega), if_neg (by omega), if_neg (by omega), hf 51 (by decide) (by omega)]
  · rw [r51]; rfl
  · rw [r51, rl]; rfl
  · rw [r51, rl]; rfl
  · rw [r51, rl]; rfl
  · rw [e55, up2_same]
theorem ldR_le (t : Nat → Int32) (z : Nat) (hz : z ≤ 100 := by omega) : (ldR t z).2.1 ≤ 100 := by
  have : ∀ f a L, a ≤ z → (ldL t z f a L).2.1 ≤ z := by
    intro f
    induction f with
    | zero => intro a L ha; exact ha
    | succ f ih =>
      intro a L ha
      obtain ⟨g1, g2, -⟩ := clR_G (t := t) (z := z) ha
      rw [ldL]
      split
      · split
        · exact Nat.le_refl _
        · split
          · exact g2
          · split
            · rename_i q
              exact ih _ _ (isAt_lt q)
            · exact g2
      · exact g2
  have := this 10 0 [] (Nat.zero_le _)
  show (ldL t z 10 0 []).2.1 ≤ 100
  omega
set_option maxRecDepth 100000 in
set_option maxHeartbeats 1000000 in
theorem c_X7_land (gl : Launch) (Z : PL) (v : VV) (w : WV) (k : Nat) (hk : v 0 6 = nI k) (hk6 : k ≤ 6) (t : Nat → Int32) (z : Nat) (ht : v 109 = t) (hz : v 108 1 = nI z) (hz1 : z ≤ 100) (hch : ∀ k, k < z → inR (t k) 0 127 = true) : CT gl yX7_land cX7_land 3 (some .int) 18 423 Z [.ref (zg Z 0)] v w (Qi Z (fun r u => r = sLand k (ldR t z) ∧ (u.1, w) = u ∧ (k = 6 → u.1 = v) ∧ (k < 6 → LF v u.1 k (ldR t z)))) := by
  refine g_met (by decide) (Nat.le_of_ble_eq_true rfl) ?_
  intro gp ge gs gm ga gb gh gc X h ls hl
  have hx := X.1
  have hb := X.2.1
  have hl : lv_has ls 3 [(0, .ref (zg Z 0))] := hl
  have hk6_ := hk6
  refine lv_aload_n hx hb dX7_land_0 rfl (lv_at hl 0 rfl) ?_
  refine g_geti X h (k := 6) (cc_0) fr_RX7_137 rfl (by decide) dX7_land_1 ?_
  refine lv_bipush (v := 6) hx hb dX7_land_4 (by decide) ?_
  refine lv_icmp_lt (tgt := 12) hx hb dX7_land_6 (by decide) (fun c_6 => ?_) (fun c_6 => ?_)
  · skip
    have hk5 : k < 6 := nI_lt1 (b := 6) hk rfl (by omega) (by omega) c_6
    refine lv_aload_n hx hb dX7_land_12 rfl (lv_at hl 0 rfl) ?_
    refine g_getr X h (k := 5) (t := 1) (cc_0) fr_RX7_33 rfl (by decide) (by decide) (by decide) dX7_land_13 ?_
    refine lv_aload_n hx hb dX7_land_16 rfl (lv_at hl 0 rfl) ?_
    refine g_geti X h (k := 6) (cc_0) fr_RX7_137 rfl (by decide) dX7_land_17 ?_
    refine g_aald X h (k := k) (cc_1) hk (by omega) (by decide) dX7_land_20 ?_
    rw [lnk k]
    refine lv_astore_n (lv' := [(1, .ref (zg Z (2 + 7 * (k + 1)))), (0, .ref (zg Z 0))]) hx hb dX7_land_21 rfl hl (by decide) rfl (fun ls hl => ?_)
    refine lv_aload_n hx hb dX7_land_22 rfl (lv_at hl 1 rfl) ?_
    refine g_getr X h (k := 7) (t := 108) (cc_0) fr_RX7_40 rfl (by decide) (by decide) (by decide) dX7_land_23 ?_
    refine lv_aload_n hx hb dX7_land_26 rfl (lv_at hl 0 rfl) ?_
    refine g_ki h (g_runV X h (As := [.ref (zg Z (2 + 7 * (k + 1)))]) (rest := []) (c_X5_becomes gl Z v w t z ht hz hz1 hch (k + 1) (by omega)) mi_X5_becomes ml_RX7_140 (cc_108) (by decide) kl5 rfl ⟨Nat.le_of_ble_eq_true rfl, Nat.le_of_ble_eq_true rfl⟩ rfl hl.1 rfl (Nat.le_of_ble_eq_true rfl) dX7_land_27) (fun r27 v27 w27 H locs hp27 h => ?_)
    obtain ⟨hr27, hw27, hfb27, h8127, hrl27⟩ := hp27
    obtain ⟨-, rfl⟩ := Prod.mk.inj hw27
    replace hfb27 : ∀ i, _ → _ → v27 i = _ := hfb27
    replace h8127 : v27 108 1 = 0 := h8127
    replace hrl27 : _ → repL v27 _ _ ∧ _ := hrl27
    have hk0 : v27 0 6 = nI k := by rw [hfb27 0 (by decide) (by omega)]; exact hk
    refine lv_istore_n (lv' := [(2, .int r27), (1, .ref (zg Z (2 + 7 * (k + 1)))), (0, .ref (zg Z 0))]) hx hb dX7_land_30 rfl hl (by decide) rfl (fun ls hl => ?_)
    refine lv_iload_n hx hb dX7_land_31 rfl (lv_at hl 0 rfl) ?_
    refine lv_if_lt (tgt := 40) hx hb dX7_land_32 (by decide) (fun c_32 => ?_) (fun c_32 => ?_)
    · skip
      have hyes : (ldR t z).1 = true := by
        cases q : (ldR t z).1 with
        | true => rfl
        | false => rw [q, if_neg (by decide)] at hr27; exact absurd c_32 (by rw [hr27]; exact nI_pos (by have := ldR_le t z; omega))
      refine lv_aload_n hx hb dX7_land_40 rfl (lv_at hl 2 rfl) ?_
      refine g_getr X h (k := 1) (t := 51) (cc_0) fr_RX7_23 rfl (by decide) (by decide) (by decide) dX7_land_41 ?_
      refine lv_aload_n hx hb dX7_land_44 rfl (lv_at hl 1 rfl) ?_
      refine g_kv h (g_runV X h (As := [.ref (zg Z (2 + 7 * (k + 1)))]) (rest := []) (c_X6_settle gl Z v27 w 51 isW0 (k + 1) (by omega)) mi_X6_settle ml_RX7_144 (cc_51) (by decide) kl6 rfl ⟨Nat.le_of_ble_eq_true rfl, Nat.le_of_ble_eq_true rfl⟩ rfl hl.1 rfl (Nat.le_of_ble_eq_true rfl) dX7_land_45) (fun v45 w45 H locs hp45 h => ?_)
      obtain ⟨ev45, rfl⟩ := Prod.mk.inj hp45
      replace ev45 := ev45.symm
      have hk0_ : v45 0 6 = nI k := by rw [ev45, stlS, up2_ne (by decide), up2_ne (by decide), up2_ne (by decide), up2_ne (by decide)]; exact hk0
      refine lv_aload_n hx hb dX7_land_48 rfl (lv_at hl 2 rfl) ?_
      refine lv_dup hx hb dX7_land_49 rfl ?_
      refine g_geti X h (k := 6) (cc_0) fr_RX7_137 rfl (by decide) dX7_land_50 ?_
      refine lv_iconst (v := 1) hx hb dX7_land_53 (by decide) ?_
      refine lv_iadd hx hb dX7_land_54 ?_
      refine g_puti X h (k := 6) (cc_0) fp_RX7_137 rfl (by decide) dX7_land_55 (fun v55 H locs ev55 h => ?_)
      refine lv_aload_n hx hb dX7_land_58 rfl (lv_at hl 2 rfl) ?_
      refine g_geti X h (k := 6) (cc_0) fr_RX7_137 rfl (by decide) dX7_land_59 ?_
      refine g_tr (y := ((v45 0 6) + 1)) (by rw [ev55, up2_same]) ?_
      refine lv_iconst (v := 1) hx hb dX7_land_62 (by decide) ?_
      refine lv_isub hx hb dX7_land_63 ?_
      exact g_iret X h dX7_land_64 ⟨by rw [sLand, if_neg (by omega), if_pos hyes, hk0_, nI_1]; exact pk_sub (a := k + 1) (b := 1) (by omega), rfl, fun q => absurd q (by omega), fun _ => LF_yes hk5 hyes hfb27 h8127 (hrl27 hyes) ev45 (by rw [ev55, hk0_, nI_1])⟩
    · skip
      have hno : (ldR t z).1 = false := by
        cases q : (ldR t z).1 with
        | false => rfl
        | true => rw [q, if_pos rfl] at hr27; exact absurd (show r27 < 0 by rw [hr27]; decide) c_32
      refine lv_bipush (v := (-10)) hx hb dX7_land_35 (by decide) ?_
      refine lv_iload_n hx hb dX7_land_37 rfl (lv_at hl 0 rfl) ?_
      refine lv_isub hx hb dX7_land_38 ?_
      exact g_iret X h dX7_land_39 ⟨by rw [sLand, if_neg (by omega), if_neg (by rw [hno]; decide), hr27, if_neg (by rw [hno]; decide)], rfl, fun q => absurd q (by omega), fun _ => LF_no hk5 hno hfb27 h8127⟩
  · skip
    have hk5 : k = 6 := by have q := nI_lt0 (a := k) (b := 6) hk rfl (by omega) (by omega) c_6; omega
    refine lv_bipush (v := (-4)) hx hb dX7_land_9 (by decide) ?_
    exact g_iret X h dX7_land_11 ⟨by rw [sLand, if_pos (by omega)], rfl, fun _ => rfl, fun q => absurd q (by omega)⟩

set_option maxRecDepth 100000 in
set_option maxHeartbeats 1000000 in
theorem c_X8_of (gl : Launch) (Z : PL) (v : VV) (w : WV) (x0 : Int32) (x1 : Int32) (n : Nat) (B : Nat) (L : LND) (hd : DM v n B L) : CT gl yX8_of cX8_of 3 (some .int) 6 137 Z [.ref (zg Z 116), .int x0, .int x1] v w (Qi Z (fun r u => r = sOf (xM v n L) L n x0 x1 ∧ ∃ f, (upc v 131 f, w) = u)) := by
  refine g_met (by decide) (Nat.le_of_ble_eq_true rfl) ?_
  intro gp ge gs gm ga gb gh gc X h ls hl
  have hx := X.1
  have hb := X.2.1
  have hl : lv_has ls 3 [(0, .ref (zg Z 116)), (1, .int x0), (2, .int x1)] := hl
  obtain ⟨hn, h6, hwf, hcur, hrx, hB⟩ := id hd
  refine lv_aload_n hx hb dX8_of_0 rfl (lv_at hl 0 rfl) ?_
  refine lv_iload_n hx hb dX8_of_1 rfl (lv_at hl 1 rfl) ?_
  refine g_ki h (g_runV X h (As := [.int x0]) (rest := []) (c_X8_isOne gl Z v w x0 n hn h6) mi_X8_isOne ml_RX8_118 (cc_116) (by decide) kl8 rfl ⟨Nat.le_of_ble_eq_true rfl, Nat.le_of_ble_eq_true rfl⟩ rfl hl.1 rfl (Nat.le_of_ble_eq_true rfl) dX8_of_2) (fun r2 v2 w2 H locs hp2 h => ?_)
  obtain ⟨hr2, hu2⟩ := hp2; obtain ⟨rfl, rfl⟩ := Prod.mk.inj hu2
  refine lv_if_ne (tgt := 12) hx hb dX8_of_5 (by decide) (fun c_5 => ?_) (fun c_5 => ?_)
  · skip
    rw [hr2, bI_n] at c_5
    obtain ⟨k, hk, hkn, hkc⟩ := isP_nat (by omega) c_5
    refine lv_iload_n hx hb dX8_of_12 rfl (lv_at hl 2 rfl) ?_
    by_cases t13_0 : x1 = 0
    · refine lv_tableIn (off := 47) (tgt := 60) hx hb dX8_of_13 (by rw [t13_0]; decide) (by rw [t13_0]; decide) (by rw [t13_0]; rfl) (by decide) ?_
      refine lv_aload_n hx hb dX8_of_60 rfl (lv_at hl 0 rfl) ?_
      refine g_getr X h (k := 1) (t := 117) (cc_116) fr_RX8_9 rfl (by decide) (by decide) (by decide) dX8_of_61 ?_
      refine lv_iload_n hx hb dX8_of_64 rfl (lv_at hl 1 rfl) ?_
      refine g_iald X h (k := k) (cc_117) hk (by omega) (by decide) dX8_of_65 ?_
      exact g_iret X h dX8_of_66 ⟨by rw [sOf, if_pos c_5, hkc, if_pos t13_0]; exact (xM_kd hkn).symm, v 131, by rw [upc_self]⟩
    · skip
      by_cases t13_1 : x1 = 1
      · refine lv_tableIn (off := 54) (tgt := 67) hx hb dX8_of_13 (by rw [t13_1]; decide) (by rw [t13_1]; decide) (by rw [t13_1]; rfl) (by decide) ?_
        refine lv_aload_n hx hb dX8_of_67 rfl (lv_at hl 0 rfl) ?_
        refine g_getr X h (k := 2) (t := 118) (cc_116) fr_RX8_15 rfl (by decide) (by decide) (by decide) dX8_of_68 ?_
        refine lv_iload_n hx hb dX8_of_71 rfl (lv_at hl 1 rfl) ?_
        refine g_iald X h (k := k) (cc_118) hk (by omega) (by decide) dX8_of_72 ?_
        exact g_iret X h dX8_of_73 ⟨by rw [sOf, if_pos c_5, hkc, if_neg t13_0, if_pos t13_1]; exact (xM_v (show k < 6 by omega)).symm, v 131, by rw [upc_self]⟩
      · skip
        by_cases t13_2 : x1 = 2
        · refine lv_tableIn (off := 61) (tgt := 74) hx hb dX8_of_13 (by rw [t13_2]; decide) (by rw [t13_2]; decide) (by rw [t13_2]; rfl) (by decide) ?_
          refine lv_aload_n hx hb dX8_of_74 rfl (lv_at hl 0 rfl) ?_
          refine g_getr X h (k := 3) (t := 119) (cc_116) fr_RX8_18 rfl (by decide) (by decide) (by decide) dX8_of_75 ?_
          refine lv_iload_n hx hb dX8_of_78 rfl (lv_at hl 1 rfl) ?_
          refine g_iald X h (k := k) (cc_119) hk (by omega) (by decide) dX8_of_79 ?_
          exact g_iret X h dX8_of_80 ⟨by rw [sOf, if_pos c_5, hkc, if_neg t13_0, if_neg t13_1, if_pos t13_2]; exact (xM_th (show k < 6 by omega)).symm, v 131, by rw [upc_self]⟩
        · skip
          by_cases t13_3 : x1 = 3
          · refine lv_tableIn (off := 68) (tgt := 81) hx hb dX8_of_13 (by rw [t13_3]; decide) (by rw [t13_3]; decide) (by rw [t13_3]; rfl) (by decide) ?_
            refine lv_aload_n hx hb dX8_of_81 rfl (lv_at hl 0 rfl) ?_
            refine g_getr X h (k := 4) (t := 120) (cc_116) fr_RX8_21 rfl (by decide) (by decide) (by decide) dX8_of_82 ?_
            refine lv_iload_n hx hb dX8_of_85 rfl (lv_at hl 1 rfl) ?_
            refine g_iald X h (k := k) (cc_120) hk (by omega) (by decide) dX8_of_86 ?_
            exact g_iret X h dX8_of_87 ⟨by rw [sOf, if_pos c_5, hkc, if_neg t13_0, if_neg t13_1, if_neg t13_2, if_pos t13_3]; exact (xM_got (show k < 6 by omega)).symm, v 131, by rw [upc_self]⟩
          · skip
            by_cases t13_4 : x1 = 4
            · refine lv_tableIn (off := 75) (tgt := 88) hx hb dX8_of_13 (by rw [t13_4]; decide) (by rw [t13_4]; decide) (by rw [t13_4]; rfl) (by decide) ?_
              refine lv_aload_n hx hb dX8_of_88 rfl (lv_at hl 0 rfl) ?_
              refine g_getr X h (k := 5) (t := 121) (cc_116) fr_RX8_24 rfl (by decide) (by decide) (by decide) dX8_of_89 ?_
              refine lv_iload_n hx hb dX8_of_92 rfl (lv_at hl 1 rfl) ?_
              refine g_iald X h (k := k) (cc_121) hk (by omega) (by decide) dX8_of_93 ?_
              exact g_iret X h dX8_of_94 ⟨by rw [sOf, if_pos c_5, hkc, if_neg t13_0, if_neg t13_1, if_neg t13_2, if_neg t13_3, if_pos t13_4]; exact (xM_dead (show k < 6 by omega)).symm, v 131, by rw [upc_self]⟩
            · skip
              by_cases t13_5 : x1 = 5
              · refine lv_tableIn (off := 82) (tgt := 95) hx hb dX8_of_13 (by rw [t13_5]; decide) (by rw [t13_5]; decide) (by rw [t13_5]; rfl) (by decide) ?_
                refine lv_aload_n hx hb dX8_of_95 rfl (lv_at hl 0 rfl) ?_
                refine lv_iload_n hx hb dX8_of_96 rfl (lv_at hl 1 rfl) ?_
                refine g_ki h (g_runV X h (As := [.int x0]) (rest := []) (c_X8_welcome gl Z v w x0 k hk n B L hd hkn) mi_X8_welcome ml_RX8_122 (cc_116) (by decide) kl8 rfl ⟨Nat.le_of_ble_eq_true rfl, Nat.le_of_ble_eq_true rfl⟩ rfl hl.1 rfl (Nat.le_of_ble_eq_true rfl) dX8_of_97) (fun r97 v97 w97 H locs hp97 h => ?_)
                obtain ⟨hr97, f97, hf97⟩ := hp97
                obtain ⟨ev97, rfl⟩ := Prod.mk.inj hf97
                replace ev97 := ev97.symm
                exact g_iret X h dX8_of_100 ⟨by rw [sOf, if_pos c_5, hkc, if_neg t13_0, if_neg t13_1, if_neg t13_2, if_neg t13_3, if_neg t13_4, if_pos t13_5]; exact hr97, f97, by rw [ev97]⟩
              · skip
                by_cases t13_6 : x1 = 6
                · refine lv_tableIn (off := 88) (tgt := 101) hx hb dX8_of_13 (by rw [t13_6]; decide) (by rw [t13_6]; decide) (by rw [t13_6]; rfl) (by decide) ?_
                  refine lv_aload_n hx hb dX8_of_101 rfl (lv_at hl 0 rfl) ?_
                  refine lv_iload_n hx hb dX8_of_102 rfl (lv_at hl 1 rfl) ?_
                  refine g_ki h (g_runV X h (As := [.int x0]) (rest := []) (c_X8_lets gl Z v w x0 k hk n B L hd hkn) mi_X8_lets ml_RX8_126 (cc_116) (by decide) kl8 rfl ⟨Nat.le_of_ble_eq_true rfl, Nat.le_of_ble_eq_true rfl⟩ rfl hl.1 rfl (Nat.le_of_ble_eq_true rfl) dX8_of_103) (fun r103 v103 w103 H locs hp103 h => ?_)
                  obtain ⟨hr103, f103, hf103⟩ := hp103
                  obtain ⟨ev103, rfl⟩ := Prod.mk.inj hf103
                  replace ev103 := ev103.symm
                  refine lv_if_eq (tgt := 113) hx hb dX8_of_106 (by decide) (fun c_106 => ?_) (fun c_106 => ?_)
                  · skip
                    rw [hr103, bI_0] at c_106
                    refine lv_iconst (v := 0) hx hb dX8_of_113 (by decide) ?_
                    exact g_iret X h dX8_of_114 ⟨by rw [sOf, if_pos c_5, hkc, if_neg t13_0, if_neg t13_1, if_neg t13_2, if_neg t13_3, if_neg t13_4, if_neg t13_5, if_pos t13_6, c_106]; rfl, f103, by rw [ev103]⟩
                  · skip
                    rw [hr103, bI_n] at c_106
                    refine lv_iconst (v := 1) hx hb dX8_of_109 (by decide) ?_
                    refine lv_goto (tgt := 114) hx hb dX8_of_110 (by decide) ?_
                    exact g_iret X h dX8_of_114 ⟨by rw [sOf, if_pos c_5, hkc, if_neg t13_0, if_neg t13_1, if_neg t13_2, if_neg t13_3, if_neg t13_4, if_neg t13_5, if_pos t13_6, c_106]; rfl, f103, by rw [ev103]⟩
                · skip
                  by_cases t13_7 : x1 = 7
                  · refine lv_tableIn (off := 102) (tgt := 115) hx hb dX8_of_13 (by rw [t13_7]; decide) (by rw [t13_7]; decide) (by rw [t13_7]; rfl) (by decide) ?_
                    refine lv_aload_n hx hb dX8_of_115 rfl (lv_at hl 0 rfl) ?_
                    refine lv_iload_n hx hb dX8_of_116 rfl (lv_at hl 1 rfl) ?_
                    refine g_ki h (g_runV X h (As := [.int x0]) (rest := []) (c_X8_prays gl Z v w x0 k hk n B L hd hkn) mi_X8_prays ml_RX8_129 (cc_116) (by decide) kl8 rfl ⟨Nat.le_of_ble_eq_true rfl, Nat.le_of_ble_eq_true rfl⟩ rfl hl.1 rfl (Nat.le_of_ble_eq_true rfl) dX8_of_117) (fun r117 v117 w117 H locs hp117 h => ?_)
                    obtain ⟨hr117, f117, hf117⟩ := hp117
                    obtain ⟨ev117, rfl⟩ := Prod.mk.inj hf117
                    replace ev117 := ev117.symm
                    exact g_iret X h dX8_of_120 ⟨by rw [sOf, if_pos c_5, hkc, if_neg t13_0, if_neg t13_1, if_neg t13_2, if_neg t13_3, if_neg t13_4, if_neg t13_5, if_neg t13_6, if_pos t13_7]; exact hr117, f117, by rw [ev117]⟩
                  · skip
                    have q0 := lv_neT t13_0 (a := 0) (by decide)
                    have q1 := lv_neT t13_1 (a := 1) (by decide)
                    have q2 := lv_neT t13_2 (a := 2) (by decide)
                    have q3 := lv_neT t13_3 (a := 3) (by decide)
                    have q4 := lv_neT t13_4 (a := 4) (by decide)
                    have q5 := lv_neT t13_5 (a := 5) (by decide)
                    have q6 := lv_neT t13_6 (a := 6) (by decide)
                    have q7 := lv_neT t13_7 (a := 7) (by decide)
                    refine lv_tableOut (tgt := 121) hx hb dX8_of_13 (by omega) (by decide) ?_
                    refine lv_iload_n hx hb dX8_of_121 rfl (lv_at hl 2 rfl) ?_
                    refine lv_bipush (v := 10) hx hb dX8_of_122 (by decide) ?_
                    refine lv_bipush (v := 109) hx hb dX8_of_124 (by decide) ?_
                    refine g_ki h (g_runS X h (As := [.int x1, .int 10, .int 109]) (rest := []) (c_X8_within gl Z v w x1 10 109) ms_X8_within ml_RX8_114 ⟨Nat.le_of_ble_eq_true rfl, Nat.le_of_ble_eq_true rfl⟩ rfl hl.1 rfl (Nat.le_of_ble_eq_true rfl) dX8_of_126) (fun r126 v126 w126 H locs hp126 h => ?_)
                    obtain ⟨hr126, hu126⟩ := hp126; obtain ⟨rfl, rfl⟩ := Prod.mk.inj hu126
                    refine lv_if_eq (tgt := 144) hx hb dX8_of_129 (by decide) (fun c_129 => ?_) (fun c_129 => ?_)
                    · skip
                      rw [hr126, bI_0] at c_129
                      refine lv_sipush (v := (-10001)) hx hb dX8_of_144 (by decide) ?_
                      exact g_iret X h dX8_of_147 ⟨by rw [sOf, if_pos c_5, hkc, if_neg t13_0, if_neg t13_1, if_neg t13_2, if_neg t13_3, if_neg t13_4, if_neg t13_5, if_neg t13_6, if_neg t13_7, if_neg (by rw [c_129]; simp)]; skip, v 131, by rw [upc_self]⟩
                    · skip
                      rw [hr126, bI_n] at c_129
                      refine lv_aload_n hx hb dX8_of_132 rfl (lv_at hl 0 rfl) ?_
                      refine lv_iload_n hx hb dX8_of_133 rfl (lv_at hl 1 rfl) ?_
                      refine lv_iload_n hx hb dX8_of_134 rfl (lv_at hl 2 rfl) ?_
                      refine lv_bipush (v := 10) hx hb dX8_of_135 (by decide) ?_
                      refine lv_isub hx hb dX8_of_137 ?_
                      refine g_ki h (g_runV X h (As := [.int x0, .int (x1 - 10)]) (rest := []) (c_X8_thanksFor gl Z v w x0 k hk (x1 - 10) n L h6 hkn) mi_X8_thanksFor ml_RX8_132 (cc_116) (by decide) kl8 rfl ⟨Nat.le_of_ble_eq_true rfl, Nat.le_of_ble_eq_true rfl⟩ rfl hl.1 rfl (Nat.le_of_ble_eq_true rfl) dX8_of_138) (fun r138 v138 w138 H locs hp138 h => ?_)
                      obtain ⟨hr138, hu138⟩ := hp138; obtain ⟨rfl, rfl⟩ := Prod.mk.inj hu138
                      refine lv_goto (tgt := 147) hx hb dX8_of_141 (by decide) ?_
                      exact g_iret X h dX8_of_147 ⟨by rw [sOf, if_pos c_5, hkc, if_neg t13_0, if_neg t13_1, if_neg t13_2, if_neg t13_3, if_neg t13_4, if_neg t13_5, if_neg t13_6, if_neg t13_7, if_pos c_129]; exact hr138, v 131, by rw [upc_self]⟩
  · skip
    rw [hr2, bI_0] at c_5
    refine lv_sipush (v := (-10001)) hx hb dX8_of_8 (by decide) ?_
    exact g_iret X h dX8_of_11 ⟨by rw [sOf, if_neg (by rw [c_5]; simp)], v 131, by rw [upc_self]⟩
