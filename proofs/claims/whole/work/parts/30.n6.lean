/-! the class: days -/
theorem tfC_S {X : VV} {p : Nat} {g : Int32} : tfC (X 1 p) (X 2 p) g = tforS X p g := rfl
/-- the gift touches thanks and gold alone -/
def frP (v u : VV) (b : Nat) : Prop := ∀ i, i ≠ b + 5 → i ≠ b + 6 → u i = v i
theorem frP_D {v u : VV} {b j : Nat} (h : frP v u b) : frD v u b j := ⟨fun i _ a c _ _ => h i a c, fun k _ _ _ => by rw [h b (by omega) (by omega)]⟩
theorem CW_day {v va : VV} {b n B j k : Nat} {L : LND} (hb : 51 ≤ b) (h : CW v b n B j L) (h1 : frD v va b j) (hx : xC va b n = daysS (xC v b n) L n k) (hB : B + k < 1000000) : CW va b n (B + k) j L :=
  CW_tr hb h.2.2.1.1 h h1 (by rw [hx]; exact RX_daysS h.1.2 h.2.2.2.2.1 k hB) hB
theorem CW.ch {v : VV} {b n B j : Nat} {L : LND} (h : CW v b n B j L) : n ≤ 6 ∧ wfL L ∧ j < 7 ∧ RX n B (xC v b n) ∧ B < 1000000 := ⟨h.1.2, h.2.1, h.2.2.1.1, h.2.2.2.2.1, h.2.2.2.2.2⟩
theorem betw_eq {h p c x : Int32} : imax 0 (imin 999 (h + p - c)) = imax 0 (imin 999 (h + (p - c))) := by
  rw [show h + p - c = h + (p - c) by simp only [Int32.sub_eq_add_neg, Int32.add_assoc]]
/-- a winter's row -/
def sufS (X : VV) (L : LND) (n : Nat) (a w : Int32) : VV := if a = 0 then dayS X L n else if a = 1 then up2 X 5 w.toNatClampNeg 1 else if a = 2 then up2 X 0 1 (imax 0 (X 0 1 - 10)) else up2 X 0 2 0
def frS (v u : VV) (b j : Nat) : Prop := (∀ i, i ≠ b → i ≠ b + 1 → i ≠ b + 5 → i ≠ b + 6 → i ≠ b + 9 → i ≠ 2 + 7 * j + 6 → u i = v i) ∧ (∀ k, k ≠ 1 → k ≠ 2 → k ≠ 3 → u b k = v b k) ∧ ∀ k, k ≠ 7 → u (b + 1) k = v (b + 1) k
theorem frS_refl (v : VV) (b j : Nat) : frS v v b j := ⟨fun _ _ _ _ _ _ _ => rfl, fun _ _ _ _ => rfl, fun _ _ => rfl⟩
theorem frS_trans {v u x : VV} {b j : Nat} (h1 : frS v u b j) (h2 : frS u x b j) : frS v x b j := ⟨fun i a c d e f g => (h2.1 i a c d e f g).trans (h1.1 i a c d e f g), fun k a c d => (h2.2.1 k a c d).trans (h1.2.1 k a c d), fun k a => (h2.2.2 k a).trans (h1.2.2 k a)⟩
theorem frD_S {v u : VV} {b j : Nat} (hb : 51 ≤ b) (hj : j < 7) (h : frD v u b j) : frS v u b j := ⟨fun i a _ c d e f => h.1 i a c d e f, h.2, fun k _ => by rw [h.1 (b + 1) (by omega) (by omega) (by omega) (by omega) (by omega)]⟩
theorem frS_dead {v : VV} {b j : Nat} {x : Int32} : frS v (up2 v (b + 1) 7 x) b j := ⟨fun i _ c _ _ _ _ => up2_ne c, fun k _ _ _ => by rw [up2_ne (by omega)], fun k hk => up2_slot hk⟩
theorem frS_num {v : VV} {b j k : Nat} {x : Int32} (hk : k = 1 ∨ k = 2) : frS v (up2 v b k x) b j := ⟨fun i c _ _ _ _ _ => up2_ne c, fun q _ _ _ => up2_slot (by omega), fun q _ => by rw [up2_ne (by omega)]⟩
theorem CW_frS {v va : VV} {b n B B' j : Nat} {L : LND} (hb : 51 ≤ b) (h : CW v b n B j L) (h1 : frS v va b j) (hr : RX n B' (xC va b n)) (hB : B' < 1000000) : CW va b n B' j L := by
  obtain ⟨⟨c1, c2⟩, c3, ⟨c4, c5, c6⟩, c7, c8, c9⟩ := h
  exact ⟨⟨by rw [h1.2.2 0 (by omega)]; exact c1, c2⟩, c3, ⟨c4, by rw [h1.2.1 6 (by omega) (by omega) (by omega)]; exact c5, repC_cong (fun i _ _ => h1.1 i (by omega) (by omega) (by omega) (by omega) (by omega) (by omega)) c6⟩, (fun p hp => by rw [h1.1 _ (by omega) (by omega) (by omega) (by omega) (by omega) (by omega)]; exact c7 p hp), hr, hB⟩
theorem v2_pos {x : Int32} (h : 0 ≤ x.toInt ∧ x.toInt ≤ 9) : 0 < x + 2 := by
  obtain ⟨k, e, hk⟩ := RX_nat (hi := 9) h (by decide)
  rw [e, show (2 : Int32) = nI 2 from rfl, nI_add]
  exact nI_lt (a := 0) (by omega) (by omega)
set_option maxRecDepth 100000 in
set_option maxHeartbeats 1000000 in
theorem c_X7_between (gl : Launch) (Z : PL) (v : VV) (w : WV) (x0 : Int32) (x1 : Int32) (x2 : Int32) : CT gl yX7_between cX7_between 3 (some .int) 1 21 Z [.int x0, .int x1, .int x2] v w (Qi Z (fun r u => r = imax x1 (imin x2 x0) ∧ (v, w) = u)) := by
  refine g_met (by decide) (Nat.le_of_ble_eq_true rfl) ?_
  intro gp ge gs gm ga gb gh gc X h ls hl
  have hx := X.1
  have hb := X.2.1
  have hl : lv_has ls 3 [(0, .int x0), (1, .int x1), (2, .int x2)] := hl
  refine lv_iload_n hx hb dX7_between_0 rfl (lv_at hl 1 rfl) ?_
  refine lv_iload_n hx hb dX7_between_1 rfl (lv_at hl 2 rfl) ?_
  refine lv_iload_n hx hb dX7_between_2 rfl (lv_at hl 0 rfl) ?_
  refine g_min X hl.1 ml_RX7_287 ⟨Nat.le_of_ble_eq_true rfl, Nat.le_of_ble_eq_true rfl⟩ (Nat.le_of_ble_eq_true rfl) dX7_between_3 ?_
  refine g_max X hl.1 ml_RX7_292 ⟨Nat.le_of_ble_eq_true rfl, Nat.le_of_ble_eq_true rfl⟩ (Nat.le_of_ble_eq_true rfl) dX7_between_6 ?_
  exact g_iret X h dX7_between_9 ⟨rfl, rfl⟩

set_option maxRecDepth 100000 in
set_option maxHeartbeats 1000000 in
theorem c_X6_isMultiple (gl : Launch) (Z : PL) (v : VV) (w : WV) (x0 : Int32) (x1 : Int32) : CT gl yX6_isMultiple cX6_isMultiple 2 (some .boolean) 0 0 Z [.int x0, .int x1] v w (Qi Z (fun r u => r = bI (decide (0 < x1) && decide (imod x0 x1 = 0)) ∧ (v, w) = u)) := by
  refine g_met (by decide) (Nat.le_of_ble_eq_true rfl) ?_
  intro gp ge gs gm ga gb gh gc X h ls hl
  have hx := X.1
  have hb := X.2.1
  have hl : lv_has ls 2 [(0, .int x0), (1, .int x1)] := hl
  refine lv_iload_n hx hb dX6_isMultiple_0 rfl (lv_at hl 1 rfl) ?_
  refine lv_if_le (tgt := 14) hx hb dX6_isMultiple_1 (by decide) (fun c_1 => ?_) (fun c_1 => ?_)
  · skip
    refine lv_iconst (v := 0) hx hb dX6_isMultiple_14 (by decide) ?_
    exact g_nret X h dX6_isMultiple_15 rfl ⟨by rw [decide_eq_false (Int32.not_lt.mpr c_1)]; rfl, rfl⟩
  · skip
    refine lv_iload_n hx hb dX6_isMultiple_4 rfl (lv_at hl 0 rfl) ?_
    refine lv_iload_n hx hb dX6_isMultiple_5 rfl (lv_at hl 1 rfl) ?_
    refine lv_irem hx hb dX6_isMultiple_6 (by intro z; rw [z] at c_1; exact c_1 (by decide)) ?_
    refine lv_if_ne (tgt := 14) hx hb dX6_isMultiple_7 (by decide) (fun c_7 => ?_) (fun c_7 => ?_)
    · skip
      refine lv_iconst (v := 0) hx hb dX6_isMultiple_14 (by decide) ?_
      exact g_nret X h dX6_isMultiple_15 rfl ⟨by rw [decide_eq_true (Int32.not_le.mp c_1), decide_eq_false (show ¬ imod x0 x1 = 0 from c_7)]; rfl, rfl⟩
    · skip
      refine lv_iconst (v := 1) hx hb dX6_isMultiple_10 (by decide) ?_
      refine lv_goto (tgt := 15) hx hb dX6_isMultiple_11 (by decide) ?_
      exact g_nret X h dX6_isMultiple_15 rfl ⟨by rw [decide_eq_true (Int32.not_le.mp c_1), decide_eq_true (show imod x0 x1 = 0 from c_7)]; rfl, rfl⟩

set_option maxRecDepth 100000 in
set_option maxHeartbeats 1000000 in
theorem c_X6_prayerOf (gl : Launch) (Z : PL) (v : VV) (w : WV) (x0 : Int32) (p : Nat) (hp : x0 = nI p) (x1 : Int32) (b : Nat) (hW : isW b) (n : Nat) (B : Nat) (L : LND) (hpw : PW v b n B) (hpn : p < n) (hlb : bt x1 p = letS (xC v b n) L p) : CT gl yX6_prayerOf cX6_prayerOf 5 (some .int) 1 21 Z [.ref (zg Z b), .int x0, .int x1] v w (Qi Z (fun r u => r = prayS (xC v b n) L p ∧ (v, w) = u)) := by
  refine g_met (by decide) (Nat.le_of_ble_eq_true rfl) ?_
  intro gp ge gs gm ga gb gh gc X h ls hl
  have hx := X.1
  have hb := X.2.1
  have hl : lv_has ls 5 [(0, .ref (zg Z b)), (1, .int x0), (2, .int x1)] := hl
  obtain ⟨⟨hn, h6⟩, hnum, hrx, hB⟩ := id hpw
  have hbr := isW_r hW
  have hE : isE (b + 1) := isWE hW
  obtain ⟨dy, hdy, hdB, hd4⟩ := RX_day hrx hB
  replace hd4 : v b 3 - v b 3 / 4 * 4 = nI (dy % 4) := hd4
  obtain ⟨-, hv2, -, -⟩ := hrx.1 p hpn
  rw [xC_v (show p < 6 by omega)] at hv2
  have hm4 := Nat.mod_lt dy (show 0 < 4 by omega)
  refine lv_aload_n hx hb dX6_prayerOf_0 rfl (lv_at hl 0 rfl) ?_
  refine g_getr X h (k := 0) (t := (b + 1)) (cW_0 hW) fr_RX6_12 rfl (by decide) (by decide) (by decide) dX6_prayerOf_1 ?_
  refine lv_iload_n hx hb dX6_prayerOf_4 rfl (lv_at hl 1 rfl) ?_
  refine g_ki h (g_runV X h (As := [.int x0]) (rest := []) (c_X3_isDead gl Z v w x0 p hp (by omega) (b + 1) hE) mi_X3_isDead ml_RX6_91 (cW_1 hW) (by decide) kl3 rfl ⟨Nat.le_of_ble_eq_true rfl, Nat.le_of_ble_eq_true rfl⟩ rfl hl.1 rfl (Nat.le_of_ble_eq_true rfl) dX6_prayerOf_5) (fun r5 v5 w5 H locs hp5 h => ?_)
  obtain ⟨hr5, hu5⟩ := hp5; obtain ⟨rfl, rfl⟩ := Prod.mk.inj hu5
  refine lv_if_eq (tgt := 13) hx hb dX6_prayerOf_8 (by decide) (fun c_8 => ?_) (fun c_8 => ?_)
  · skip
    rw [hr5, bI_0] at c_8
    refine lv_aload_n hx hb dX6_prayerOf_13 rfl (lv_at hl 0 rfl) ?_
    refine g_getr X h (k := 0) (t := (b + 1)) (cW_0 hW) fr_RX6_12 rfl (by decide) (by decide) (by decide) dX6_prayerOf_14 ?_
    refine g_getr X h (k := 4) (t := (b + 5)) (cW_1 hW) fr_RX6_69 rfl (by decide) (by decide) (by decide) dX6_prayerOf_17 ?_
    refine lv_iload_n hx hb dX6_prayerOf_20 rfl (lv_at hl 1 rfl) ?_
    refine g_iald X h (k := p) (cW_5 hW) hp (by omega) (by decide) dX6_prayerOf_21 ?_
    refine lv_topi (fun x3_22 ex3_22 => ?_)
    refine lv_istore_n (lv' := [(3, .int x3_22), (0, .ref (zg Z b)), (1, .int x0), (2, .int x1)]) hx hb dX6_prayerOf_22 rfl hl (by decide) rfl (fun ls hl => ?_)
    refine lv_aload_n hx hb dX6_prayerOf_23 rfl (lv_at hl 1 rfl) ?_
    refine g_getr X h (k := 0) (t := (b + 1)) (cW_0 hW) fr_RX6_12 rfl (by decide) (by decide) (by decide) dX6_prayerOf_24 ?_
    refine g_getr X h (k := 3) (t := (b + 4)) (cW_1 hW) fr_RX6_95 rfl (by decide) (by decide) (by decide) dX6_prayerOf_27 ?_
    refine lv_iload_n hx hb dX6_prayerOf_30 rfl (lv_at hl 2 rfl) ?_
    refine g_iald X h (k := p) (cW_4 hW) hp (by omega) (by decide) dX6_prayerOf_31 ?_
    refine lv_topi (fun x4_32 ex4_32 => ?_)
    refine lv_istore (lv' := [(4, .int x4_32), (3, .int x3_22), (0, .ref (zg Z b)), (1, .int x0), (2, .int x1)]) hx hb dX6_prayerOf_32 hl (by decide) rfl (fun ls hl => ?_)
    refine lv_aload_n hx hb dX6_prayerOf_34 rfl (lv_at hl 2 rfl) ?_
    refine g_getr X h (k := 0) (t := (b + 1)) (cW_0 hW) fr_RX6_12 rfl (by decide) (by decide) (by decide) dX6_prayerOf_35 ?_
    refine g_getr X h (k := 2) (t := (b + 3)) (cW_1 hW) fr_RX6_88 rfl (by decide) (by decide) (by decide) dX6_prayerOf_38 ?_
    refine lv_iload_n hx hb dX6_prayerOf_41 rfl (lv_at hl 3 rfl) ?_
    refine g_iald X h (k := p) (cW_3 hW) hp (by omega) (by decide) dX6_prayerOf_42 ?_
    by_cases t43_1 : (v (b + 3) p) = 1
    · refine lv_tableIn (off := 37) (tgt := 80) hx hb dX6_prayerOf_43 (by rw [t43_1]; decide) (by rw [t43_1]; decide) (by rw [t43_1]; rfl) (by decide) ?_
      refine lv_iload_n hx hb dX6_prayerOf_80 rfl (lv_at hl 1 rfl) ?_
      refine lv_iconst (v := 5) hx hb dX6_prayerOf_81 (by decide) ?_
      refine lv_idiv hx hb dX6_prayerOf_82 (by decide) ?_
      exact g_iret X h dX6_prayerOf_83 ⟨(by rw [prayS, xC_dead (show p < 6 by omega), xC_kd hpn, xC_th (show p < 6 by omega), dB, c_8]; rw [if_neg (by decide)]; rw [if_pos t43_1, ex3_22]), rfl⟩
    · skip
      by_cases t43_2 : (v (b + 3) p) = 2
      · refine lv_tableIn (off := 41) (tgt := 84) hx hb dX6_prayerOf_43 (by rw [t43_2]; decide) (by rw [t43_2]; decide) (by rw [t43_2]; rfl) (by decide) ?_
        refine lv_iload_n hx hb dX6_prayerOf_84 rfl (lv_at hl 1 rfl) ?_
        refine lv_bipush (v := 10) hx hb dX6_prayerOf_85 (by decide) ?_
        refine lv_idiv hx hb dX6_prayerOf_87 (by decide) ?_
        refine lv_iload_n hx hb dX6_prayerOf_88 rfl (lv_at hl 4 rfl) ?_
        refine lv_iload_n hx hb dX6_prayerOf_89 rfl (lv_at hl 3 rfl) ?_
        refine lv_ishr hx hb dX6_prayerOf_90 ?_
        refine lv_iconst (v := 1) hx hb dX6_prayerOf_91 (by decide) ?_
        refine lv_iand hx hb dX6_prayerOf_92 ?_
        refine lv_if_eq (tgt := 101) hx hb dX6_prayerOf_93 (by decide) (fun c_93 => ?_) (fun c_93 => ?_)
        · skip
          refine lv_iconst (v := 0) hx hb dX6_prayerOf_101 (by decide) ?_
          refine lv_iadd hx hb dX6_prayerOf_102 ?_
          exact g_iret X h dX6_prayerOf_103 ⟨(by rw [prayS, xC_dead (show p < 6 by omega), xC_kd hpn, xC_th (show p < 6 by omega), dB, c_8]; rw [if_neg (by decide)]; rw [if_neg t43_1, if_pos t43_2, xC_v (show p < 6 by omega), ex3_22, ← hlb]; rw [hp, b1_n (by omega)] at c_93; rw [bI_0] at c_93; rw [c_93]; rfl), rfl⟩
        · skip
          refine lv_iload hx hb dX6_prayerOf_96 (lv_at hl 0 rfl) ?_
          refine lv_goto (tgt := 102) hx hb dX6_prayerOf_98 (by decide) ?_
          refine lv_iadd hx hb dX6_prayerOf_102 ?_
          exact g_iret X h dX6_prayerOf_103 ⟨(by rw [prayS, xC_dead (show p < 6 by omega), xC_kd hpn, xC_th (show p < 6 by omega), dB, c_8]; rw [if_neg (by decide)]; rw [if_neg t43_1, if_pos t43_2, xC_v (show p < 6 by omega), ex3_22, ← hlb]; rw [hp, b1_n (by omega)] at c_93; rw [bI_n] at c_93; rw [c_93, ex4_32]; rfl), rfl⟩
      · skip
        by_cases t43_3 : (v (b + 3) p) = 3
        · refine lv_tableIn (off := 117) (tgt := 160) hx hb dX6_prayerOf_43 (by rw [t43_3]; decide) (by rw [t43_3]; decide) (by rw [t43_3]; rfl) (by decide) ?_
          refine lv_iload_n hx hb dX6_prayerOf_160 rfl (lv_at hl 1 rfl) ?_
          refine lv_bipush (v := 10) hx hb dX6_prayerOf_161 (by decide) ?_
          refine lv_idiv hx hb dX6_prayerOf_163 (by decide) ?_
          exact g_iret X h dX6_prayerOf_164 ⟨(by rw [prayS, xC_dead (show p < 6 by omega), xC_kd hpn, xC_th (show p < 6 by omega), dB, c_8]; rw [if_neg (by decide)]; rw [ex3_22]; simp [t43_3]), rfl⟩
        · skip
          by_cases t43_4 : (v (b + 3) p) = 4
          · refine lv_tableIn (off := 61) (tgt := 104) hx hb dX6_prayerOf_43 (by rw [t43_4]; decide) (by rw [t43_4]; decide) (by rw [t43_4]; rfl) (by decide) ?_
            refine lv_aload_n hx hb dX6_prayerOf_104 rfl (lv_at hl 2 rfl) ?_
            refine g_geti X h (k := 3) (cW_0 hW) fr_RX6_78 rfl (by decide) dX6_prayerOf_105 ?_
            refine lv_iload hx hb dX6_prayerOf_108 (lv_at hl 0 rfl) ?_
            refine lv_iconst (v := 2) hx hb dX6_prayerOf_110 (by decide) ?_
            refine lv_iadd hx hb dX6_prayerOf_111 ?_
            refine g_ki h (g_runS X h (As := [.int (v b 3), .int (x4_32 + 2)]) (rest := []) (c_X6_isMultiple gl Z v w (v b 3) (x4_32 + 2)) ms_X6_isMultiple ml_RX6_98 ⟨Nat.le_of_ble_eq_true rfl, Nat.le_of_ble_eq_true rfl⟩ rfl hl.1 rfl (Nat.le_of_ble_eq_true rfl) dX6_prayerOf_112) (fun r112 v112 w112 H locs hp112 h => ?_)
            obtain ⟨hr112, hu112⟩ := hp112; obtain ⟨rfl, rfl⟩ := Prod.mk.inj hu112
            refine lv_if_eq (tgt := 122) hx hb dX6_prayerOf_115 (by decide) (fun c_115 => ?_) (fun c_115 => ?_)
            · skip
              rw [hr112, bI_0] at c_115
              have him : ¬ imod (xC v b n 0 3) (x4_32 + 2) = 0 := fun z => by
                rw [decide_eq_true (v2_pos (by rw [ex4_32]; exact hv2)), decide_eq_true (show imod (v b 3) (x4_32 + 2) = 0 from z)] at c_115
                cases c_115
              refine lv_iload_n hx hb dX6_prayerOf_122 rfl (lv_at hl 1 rfl) ?_
              refine lv_iconst (v := 5) hx hb dX6_prayerOf_123 (by decide) ?_
              refine lv_idiv hx hb dX6_prayerOf_124 (by decide) ?_
              exact g_iret X h dX6_prayerOf_125 ⟨(by rw [prayS, xC_dead (show p < 6 by omega), xC_kd hpn, xC_th (show p < 6 by omega), dB, c_8]; rw [if_neg (by decide)]; rw [if_neg t43_1, if_neg t43_2, if_pos t43_4, xC_v (show p < 6 by omega), ← ex4_32, ← ex3_22]; exact (if_neg him).symm), rfl⟩
            · skip
              rw [hr112, bI_n] at c_115
              have him : imod (xC v b n 0 3) (x4_32 + 2) = 0 := by
                simp only [Bool.and_eq_true, decide_eq_true_eq] at c_115
                exact c_115.2
              refine lv_iconst (v := 0) hx hb dX6_prayerOf_118 (by decide) ?_
              refine lv_goto (tgt := 125) hx hb dX6_prayerOf_119 (by decide) ?_
              exact g_iret X h dX6_prayerOf_125 ⟨(by rw [prayS, xC_dead (show p < 6 by omega), xC_kd hpn, xC_th (show p < 6 by omega), dB, c_8]; rw [if_neg (by decide)]; rw [if_neg t43_1, if_neg t43_2, if_pos t43_4, xC_v (show p < 6 by omega), ← ex4_32, ← ex3_22]; exact (if_pos him).symm), rfl⟩
          · skip
            by_cases t43_5 : (v (b + 3) p) = 5
            · refine lv_tableIn (off := 83) (tgt := 126) hx hb dX6_prayerOf_43 (by rw [t43_5]; decide) (by rw [t43_5]; decide) (by rw [t43_5]; rfl) (by decide) ?_
              refine lv_iload_n hx hb dX6_prayerOf_126 rfl (lv_at hl 1 rfl) ?_
              refine lv_if_le (tgt := 134) hx hb dX6_prayerOf_127 (by decide) (fun c_127 => ?_) (fun c_127 => ?_)
              · skip
                refine lv_iconst (v := 0) hx hb dX6_prayerOf_134 (by decide) ?_
                exact g_iret X h dX6_prayerOf_135 ⟨(by rw [prayS, xC_dead (show p < 6 by omega), xC_kd hpn, xC_th (show p < 6 by omega), dB, c_8]; rw [if_neg (by decide)]; rw [if_neg t43_1, if_neg t43_2, if_neg t43_4, if_pos t43_5, ← ex3_22]; exact (if_neg (Int32.not_lt.mpr c_127)).symm), rfl⟩
              · skip
                refine lv_iconst (v := 3) hx hb dX6_prayerOf_130 (by decide) ?_
                refine lv_goto (tgt := 135) hx hb dX6_prayerOf_131 (by decide) ?_
                exact g_iret X h dX6_prayerOf_135 ⟨(by rw [prayS, xC_dead (show p < 6 by omega), xC_kd hpn, xC_th (show p < 6 by omega), dB, c_8]; rw [if_neg (by decide)]; rw [if_neg t43_1, if_neg t43_2, if_neg t43_4, if_pos t43_5, ← ex3_22]; exact (if_pos (Int32.not_le.mp c_127)).symm), rfl⟩
            · skip
              by_cases t43_6 : (v (b + 3) p) = 6
              · refine lv_tableIn (off := 93) (tgt := 136) hx hb dX6_prayerOf_43 (by rw [t43_6]; decide) (by rw [t43_6]; decide) (by rw [t43_6]; rfl) (by decide) ?_
                refine lv_iload_n hx hb dX6_prayerOf_136 rfl (lv_at hl 1 rfl) ?_
                refine lv_bipush (v := 10) hx hb dX6_prayerOf_137 (by decide) ?_
                refine lv_idiv hx hb dX6_prayerOf_139 (by decide) ?_
                refine lv_aload_n hx hb dX6_prayerOf_140 rfl (lv_at hl 2 rfl) ?_
                refine g_getr X h (k := 0) (t := (b + 1)) (cW_0 hW) fr_RX6_12 rfl (by decide) (by decide) (by decide) dX6_prayerOf_141 ?_
                refine g_getr X h (k := 6) (t := (b + 7)) (cW_1 hW) fr_RX6_102 rfl (by decide) (by decide) (by decide) dX6_prayerOf_144 ?_
                refine lv_iload_n hx hb dX6_prayerOf_147 rfl (lv_at hl 3 rfl) ?_
                refine lv_iconst (v := 4) hx hb dX6_prayerOf_148 (by decide) ?_
                refine lv_imul hx hb dX6_prayerOf_149 ?_
                refine lv_aload_n hx hb dX6_prayerOf_150 rfl (lv_at hl 2 rfl) ?_
                refine g_geti X h (k := 3) (cW_0 hW) fr_RX6_78 rfl (by decide) dX6_prayerOf_151 ?_
                refine lv_iconst (v := 4) hx hb dX6_prayerOf_154 (by decide) ?_
                refine lv_irem hx hb dX6_prayerOf_155 (by decide) ?_
                refine lv_iadd hx hb dX6_prayerOf_156 ?_
                refine g_iald X h (k := (4 * p + dy % 4)) (cW_7 hW) (by rw [hd4, hp]; exact (congrArg (fun z => z + nI (dy % 4)) ((Int32.mul_comm _ _).trans (pk_mul 4 p))).trans (nI_add _ _)) (by omega) (by decide) dX6_prayerOf_157 ?_
                refine lv_iadd hx hb dX6_prayerOf_158 ?_
                exact g_iret X h dX6_prayerOf_159 ⟨(by rw [prayS, xC_dead (show p < 6 by omega), xC_kd hpn, xC_th (show p < 6 by omega), dB, c_8]; rw [if_neg (by decide)]; rw [if_neg t43_1, if_neg t43_2, if_neg t43_4, if_neg t43_5, if_pos t43_6, show imod (xC v b n 0 3) 4 = nI (dy % 4) from hd4, nI_clamp (by omega), xC_row (by omega), ex3_22]), rfl⟩
              · skip
                have q0 := lv_neT t43_1 (a := 1) (by decide)
                have q1 := lv_neT t43_2 (a := 2) (by decide)
                have q2 := lv_neT t43_3 (a := 3) (by decide)
                have q3 := lv_neT t43_4 (a := 4) (by decide)
                have q4 := lv_neT t43_5 (a := 5) (by decide)
                have q5 := lv_neT t43_6 (a := 6) (by decide)
                refine lv_tableOut (tgt := 160) hx hb dX6_prayerOf_43 (by omega) (by decide) ?_
                refine lv_iload_n hx hb dX6_prayerOf_160 rfl (lv_at hl 1 rfl) ?_
                refine lv_bipush (v := 10) hx hb dX6_prayerOf_161 (by decide) ?_
                refine lv_idiv hx hb dX6_prayerOf_163 (by decide) ?_
                exact g_iret X h dX6_prayerOf_164 ⟨(by rw [prayS, xC_dead (show p < 6 by omega), xC_kd hpn, xC_th (show p < 6 by omega), dB, c_8]; rw [if_neg (by decide)]; rw [ex3_22]; simp [t43_1, t43_2, t43_4, t43_5, t43_6]), rfl⟩
  · skip
    rw [hr5, bI_n] at c_8
    refine lv_iconst (v := 0) hx hb dX6_prayerOf_11 (by decide) ?_
    exact g_iret X h dX6_prayerOf_12 ⟨(by rw [prayS, xC_dead (show p < 6 by omega), xC_kd hpn, xC_th (show p < 6 by omega), dB, c_8]; exact (if_pos rfl).symm), rfl⟩

set_option maxRecDepth 100000 in
set_option maxHeartbeats 1000000 in
theorem c_X6_prayers (gl : Launch) (Z : PL) (v : VV) (w : WV) (x0 : Int32) (b : Nat) (hW : isW b) (n : Nat) (B : Nat) (L : LND) (hpw : PW v b n B) (hlb : ∀ p, p < n → bt x0 p = letS (xC v b n) L p) : CT gl yX6_prayers cX6_prayers 4 (some .int) 2 45 Z [.ref (zg Z b), .int x0] v w (Qi Z (fun r u => r = lsum (prayS (xC v b n) L) n ∧ (v, w) = u)) := by
  refine g_met (by decide) (Nat.le_of_ble_eq_true rfl) ?_
  intro gp ge gs gm ga gb gh gc X h ls hl
  have hx := X.1
  have hb := X.2.1
  have hl : lv_has ls 4 [(0, .ref (zg Z b)), (1, .int x0)] := hl
  obtain ⟨⟨hn, h6⟩, hnum, hrx, hB⟩ := id hpw
  have hbr := isW_r hW
  have hE : isE (b + 1) := isWE hW
  refine lv_iconst (v := 0) hx hb dX6_prayers_0 (by decide) ?_
  refine lv_istore_n (lv' := [(2, .int 0), (0, .ref (zg Z b)), (1, .int x0)]) hx hb dX6_prayers_1 rfl hl (by decide) rfl (fun ls hl => ?_)
  refine lv_iconst (v := 0) hx hb dX6_prayers_2 (by decide) ?_
  refine lv_istore_n (lv' := [(3, .int 0), (2, .int 0), (0, .ref (zg Z b)), (1, .int x0)]) hx hb dX6_prayers_3 rfl hl (by decide) rfl (fun ls hl => ?_)
  have L4 : ∀ (n4 : Nat) (i : Nat) (x2 x3 : Int32), (x3 = nI i) → (i ≤ n) → (x2 = lsum (prayS (xC v b n) L) i) → n - i < n4 → ∀ (H : Heap) (locs : List Loc), HS Z gs v w H locs → ∀ ls : Array Slot, lv_has ls 4 [(0, .ref (zg Z b)), (1, .int x0), (2, .int x2), (3, .int x3)] → W gp gl ge (rmm 2 45) gs gm ga gb gh gc H locs 0 0 (MQ gb (Qi Z (fun r u => r = lsum (prayS (xC v b n) L) n ∧ (v, w) = u)) ga gs 0 0 (zA Z)) (F0 gm 4 ls []) := by
    intro n4
    induction n4 with
    | zero => intro i x2 x3 hx3 hi hx2 hmu; exact absurd hmu (Nat.not_lt_zero _)
    | succ n4 ih4 =>
      intro i x2 x3 hx3 hi hx2 hmu4 H locs h ls hl
      refine lv_iload_n hx hb dX6_prayers_4 rfl (lv_at hl 3 rfl) ?_
      refine lv_aload_n hx hb dX6_prayers_5 rfl (lv_at hl 0 rfl) ?_
      refine g_getr X h (k := 0) (t := (b + 1)) (cW_0 hW) fr_RX6_12 rfl (by decide) (by decide) (by decide) dX6_prayers_6 ?_
      refine g_geti X h (k := 0) (cW_1 hW) fr_RX6_66 rfl (by decide) dX6_prayers_9 ?_
      refine lv_icmp_ge (tgt := 30) hx hb dX6_prayers_12 (by decide) (fun c_12 => ?_) (fun c_12 => ?_)
      · skip
        have hin := nI_le1 (a := n) (b := i) hn hx3 (by omega) (by omega) c_12
        refine lv_iload_n hx hb dX6_prayers_30 rfl (lv_at hl 2 rfl) ?_
        exact g_iret X h dX6_prayers_31 ⟨(by rw [hx2, show i = n by omega]), rfl⟩
      · skip
        have hin := nI_le0 (a := n) (b := i) hn hx3 (by omega) (by omega) c_12
        refine lv_iload_n hx hb dX6_prayers_15 rfl (lv_at hl 2 rfl) ?_
        refine lv_aload_n hx hb dX6_prayers_16 rfl (lv_at hl 0 rfl) ?_
        refine lv_iload_n hx hb dX6_prayers_17 rfl (lv_at hl 3 rfl) ?_
        refine lv_iload_n hx hb dX6_prayers_18 rfl (lv_at hl 1 rfl) ?_
        refine g_ki h (g_runV X h (As := [.int x3, .int x0]) (rest := [.int x2]) (c_X6_prayerOf gl Z v w x3 i hx3 x0 b hW n B L hpw (by first | assumption | omega) (hlb i hin)) mi_X6_prayerOf ml_RX6_105 (cW_0 hW) (by decide) kl6 rfl ⟨Nat.le_of_ble_eq_true rfl, Nat.le_of_ble_eq_true rfl⟩ rfl hl.1 rfl (Nat.le_of_ble_eq_true rfl) dX6_prayers_19) (fun r19 v19 w19 H locs hp19 h => ?_)
        obtain ⟨hr19, hu19⟩ := hp19; obtain ⟨rfl, rfl⟩ := Prod.mk.inj hu19
        refine lv_iadd hx hb dX6_prayers_22 ?_
        refine lv_topi (fun x2_23 ex2_23 => ?_)
        refine lv_istore_n (lv' := [(2, .int x2_23), (0, .ref (zg Z b)), (1, .int x0), (3, .int x3)]) hx hb dX6_prayers_23 rfl hl (by decide) rfl (fun ls hl => ?_)
        refine lv_iinc (v := (x3 + 1)) (lv' := [(3, .int (x3 + 1)), (2, .int x2_23), (0, .ref (zg Z b)), (1, .int x0)]) hx hb dX6_prayers_24 hl (k := 3) rfl rfl (by decide) rfl (fun ls hl => ?_)
        refine lv_goto (tgt := 4) hx hb dX6_prayers_27 (by decide) ?_
        exact ih4 (i + 1) x2_23 (x3 + 1) (by rw [hx3]; exact nI_1 _) (by omega) (by rw [ex2_23, hx2, hr19]; rfl) (by omega) _ _ h ls (lv_sub hl [2, 3, 1, 0] rfl)
  exact L4 (n - 0 + 1) 0 0 0 rfl (Nat.zero_le _) rfl (Nat.lt_succ_self _) _ _ h ls (lv_sub hl [2, 3, 1, 0] rfl)

set_option maxRecDepth 100000 in
set_option maxHeartbeats 1000000 in
theorem c_X6_givePocket (gl : Launch) (Z : PL) (v : VV) (w : WV) (b : Nat) (hW : isW b) (n : Nat) (B : Nat) (j : Nat) (L : LND) (hcw : CW v b n B j L) : CT gl yX6_givePocket cX6_givePocket 2 none 2 44 Z [.ref (zg Z b)] v w (Qv Z (fun u => xC u.1 b n = giveS (xC v b n) ∧ (u.1, w) = u ∧ frP v u.1 b)) := by
  refine g_met (by decide) (Nat.le_of_ble_eq_true rfl) ?_
  intro gp ge gs gm ga gb gh gc X h ls hl
  have hx := X.1
  have hb := X.2.1
  have hl : lv_has ls 2 [(0, .ref (zg Z b))] := hl
  obtain ⟨⟨hn, h6⟩, hwf, ⟨hj7, hland, hrep⟩, hnum, hrx, hB⟩ := id hcw
  have hbr := isW_r hW
  have hL : isL (2 + 7 * j) := isLj hj7
  have hE : isE (b + 1) := isWE hW
  have hland2 : (v b 6).toNatClampNeg = j := by rw [hland]; exact nI_clamp (by omega)
  obtain ⟨dy, hdy, hdB, -⟩ := RX_day hrx hB
  replace hdy : v b 3 = nI dy := hdy
  obtain ⟨q, hq6, hq, hqr⟩ := id hrx.2.2.2.2.1
  replace hq : v b 5 = nI q := hq
  refine lv_aload_n hx hb dX6_givePocket_0 rfl (lv_at hl 0 rfl) ?_
  refine g_geti X h (k := 5) (cW_0 hW) fr_RX6_147 rfl (by decide) dX6_givePocket_1 ?_
  refine lv_if_gt (tgt := 8) hx hb dX6_givePocket_4 (by decide) (fun c_4 => ?_) (fun c_4 => ?_)
  · skip
    have hq0 : 0 < q := by
      rcases Nat.eq_zero_or_pos q with z | z
      · exact absurd c_4 (by rw [hq, z]; decide)
      · exact z
    have hmm : v b 3 - v b 3 / v b 5 * v b 5 = nI (dy % q) := by rw [hdy, hq]; exact pk_rem (by omega) hq0 (by omega)
    have hml := Nat.mod_lt dy hq0
    obtain ⟨pp, hppn, hpp⟩ := hqr (dy % q) hml
    rw [xC_rnd (by omega)] at hpp
    have hcom : (xC v b n 7 (imod (xC v b n 0 3) (xC v b n 0 4)).toNatClampNeg).toNatClampNeg = pp := by
      rw [show imod (xC v b n 0 3) (xC v b n 0 4) = nI (dy % q) from hmm, nI_clamp (by omega), xC_rnd (by omega), hpp, nI_clamp (by omega)]
    refine lv_aload_n hx hb dX6_givePocket_8 rfl (lv_at hl 0 rfl) ?_
    refine g_getr X h (k := 4) (t := (b + 8)) (cW_0 hW) fr_RX6_22 rfl (by decide) (by decide) (by decide) dX6_givePocket_9 ?_
    refine lv_aload_n hx hb dX6_givePocket_12 rfl (lv_at hl 0 rfl) ?_
    refine g_geti X h (k := 3) (cW_0 hW) fr_RX6_78 rfl (by decide) dX6_givePocket_13 ?_
    refine lv_aload_n hx hb dX6_givePocket_16 rfl (lv_at hl 0 rfl) ?_
    refine g_geti X h (k := 5) (cW_0 hW) fr_RX6_147 rfl (by decide) dX6_givePocket_17 ?_
    refine lv_irem hx hb dX6_givePocket_20 (by rw [hq]; exact nI_ne0 hq0 (by omega)) ?_
    refine g_iald X h (k := (dy % q)) (cW_8 hW) hmm (by omega) (by decide) dX6_givePocket_21 ?_
    refine lv_topi (fun x1_22 ex1_22 => ?_)
    refine lv_istore_n (lv' := [(1, .int x1_22), (0, .ref (zg Z b))]) hx hb dX6_givePocket_22 rfl hl (by decide) rfl (fun ls hl => ?_)
    refine lv_iload_n hx hb dX6_givePocket_23 rfl (lv_at hl 0 rfl) ?_
    refine lv_iconst (v := 0) hx hb dX6_givePocket_24 (by decide) ?_
    refine lv_aload_n hx hb dX6_givePocket_25 rfl (lv_at hl 1 rfl) ?_
    refine g_getr X h (k := 0) (t := (b + 1)) (cW_0 hW) fr_RX6_12 rfl (by decide) (by decide) (by decide) dX6_givePocket_26 ?_
    refine g_geti X h (k := 0) (cW_1 hW) fr_RX6_66 rfl (by decide) dX6_givePocket_29 ?_
    refine lv_iconst (v := 1) hx hb dX6_givePocket_32 (by decide) ?_
    refine lv_isub hx hb dX6_givePocket_33 ?_
    refine g_ki h (g_runSN X h (As := [.int x1_22, .int 0, .int ((v (b + 1) 0) - 1)]) (rest := []) (c_X7_isWithin gl Z v w x1_22 0 ((v (b + 1) 0) - 1)) ms_X7_isWithin (List.mem_of_getElem? (i := 1) rfl) ⟨Nat.le_of_ble_eq_true rfl, Nat.le_of_ble_eq_true rfl⟩ rfl hl.1 rfl (Nat.le_of_ble_eq_true rfl) dX6_givePocket_34) (fun r34 v34 w34 H locs hp34 h => ?_)
    obtain ⟨hr34, hu34⟩ := hp34; obtain ⟨rfl, rfl⟩ := Prod.mk.inj hu34
    refine lv_if_eq (tgt := 63) hx hb dX6_givePocket_37 (by decide) (fun c_37 => ?_) (fun c_37 => ?_)
    · rw [hr34, ex1_22, hpp, hn, inR_isP' (by omega), isP_lt hppn (by omega)] at c_37
      exact absurd c_37 (by decide)
    · skip
      rw [hr34, bI_n] at c_37
      refine lv_aload_n hx hb dX6_givePocket_40 rfl (lv_at hl 1 rfl) ?_
      refine g_getr X h (k := 0) (t := (b + 1)) (cW_0 hW) fr_RX6_12 rfl (by decide) (by decide) (by decide) dX6_givePocket_41 ?_
      refine lv_iload_n hx hb dX6_givePocket_44 rfl (lv_at hl 0 rfl) ?_
      refine g_ki h (g_runV X h (As := [.int x1_22]) (rest := []) (c_X3_isDead gl Z v w x1_22 pp (ex1_22.trans hpp) (by omega) (b + 1) hE) mi_X3_isDead ml_RX6_91 (cW_1 hW) (by decide) kl3 rfl ⟨Nat.le_of_ble_eq_true rfl, Nat.le_of_ble_eq_true rfl⟩ rfl hl.1 rfl (Nat.le_of_ble_eq_true rfl) dX6_givePocket_45) (fun r45 v45 w45 H locs hp45 h => ?_)
      obtain ⟨hr45, hu45⟩ := hp45; obtain ⟨rfl, rfl⟩ := Prod.mk.inj hu45
      refine lv_if_ne (tgt := 63) hx hb dX6_givePocket_48 (by decide) (fun c_48 => ?_) (fun c_48 => ?_)
      · skip
        rw [hr45, bI_n] at c_48
        exact g_vret X h dX6_givePocket_63 ⟨(giveS_dead (p := pp) c_4 hcom (by rw [xC_dead (by omega), dB, c_48]; decide)).symm, rfl, fun _ _ _ => rfl⟩
      · skip
        rw [hr45, bI_0] at c_48
        refine lv_aload_n hx hb dX6_givePocket_51 rfl (lv_at hl 1 rfl) ?_
        refine g_getr X h (k := 0) (t := (b + 1)) (cW_0 hW) fr_RX6_12 rfl (by decide) (by decide) (by decide) dX6_givePocket_52 ?_
        refine lv_iload_n hx hb dX6_givePocket_55 rfl (lv_at hl 0 rfl) ?_
        refine lv_aload_n hx hb dX6_givePocket_56 rfl (lv_at hl 1 rfl) ?_
        refine g_geti X h (k := 8) (cW_0 hW) fr_RX6_61 rfl (by decide) dX6_givePocket_57 ?_
        refine g_kv h (g_runV X h (As := [.int x1_22, .int (v b 8)]) (rest := []) (c_X3_give gl Z v w x1_22 pp (ex1_22.trans hpp) (v b 8) (by omega) (b + 1) hE) mi_X3_give ml_RX6_154 (cW_1 hW) (by decide) kl3 rfl ⟨Nat.le_of_ble_eq_true rfl, Nat.le_of_ble_eq_true rfl⟩ rfl hl.1 rfl (Nat.le_of_ble_eq_true rfl) dX6_givePocket_60) (fun v60 w60 H locs hp60 h => ?_)
        obtain ⟨hv60, rfl⟩ := Prod.mk.inj hp60
        have ev60 : v60 = up2 (up2 v (b + 6) pp (imin 99999 (v (b + 6) pp + v b 8))) (b + 5) pp (imin 999 (v (b + 5) pp + tfC (v (b + 3) pp) (v (b + 4) pp) (v b 8))) := hv60.symm
        exact g_vret X h dX6_givePocket_63 ⟨(by show xC v60 b n = _; rw [ev60, xC_up_th (by omega), xC_up_got (by omega), giveS_yes (p := pp) c_4 hcom (by rw [xC_dead (by omega), dB, c_48]; rfl), xC_got (by omega), xC_th (by omega), ← tfC_S, xC_kd hppn, xC_v (by omega)]; rfl), rfl, fun i a c => (by show v60 i = _; rw [ev60, up2_ne a, up2_ne c])⟩
  · skip
    exact g_vret X h dX6_givePocket_7 ⟨(giveS_no c_4).symm, rfl, fun _ _ _ => rfl⟩

set_option maxRecDepth 100000 in
set_option maxHeartbeats 1000000 in
theorem c_X6_goDay (gl : Launch) (Z : PL) (v : VV) (w : WV) (b : Nat) (hW : isW b) (n : Nat) (B : Nat) (j : Nat) (L : LND) (hcw : CW v b n B j L) : CT gl yX6_goDay cX6_goDay 4 none 3 79 Z [.ref (zg Z b)] v w (Qv Z (fun u => xC u.1 b n = dayS (xC v b n) L n ∧ (u.1, w) = u ∧ frD v u.1 b j)) := by
  refine g_met (by decide) (Nat.le_of_ble_eq_true rfl) ?_
  intro gp ge gs gm ga gb gh gc X h ls hl
  have hx := X.1
  have hb := X.2.1
  have hl : lv_has ls 4 [(0, .ref (zg Z b))] := hl
  obtain ⟨⟨hn, h6⟩, hwf, ⟨hj7, hland, hrep⟩, hnum, hrx, hB⟩ := id hcw
  have hbr := isW_r hW
  have hL : isL (2 + 7 * j) := isLj hj7
  have hE : isE (b + 1) := isWE hW
  have hland2 : (v b 6).toNatClampNeg = j := by rw [hland]; exact nI_clamp (by omega)
  refine lv_aload_n hx hb dX6_goDay_0 rfl (lv_at hl 0 rfl) ?_
  refine g_ki h (g_runV X h (As := []) (rest := []) (c_X6_isGone gl Z v w b hW n B hrx) mi_X6_isGone ml_RX6_109 (cW_0 hW) (by decide) kl6 rfl ⟨Nat.le_of_ble_eq_true rfl, Nat.le_of_ble_eq_true rfl⟩ rfl hl.1 rfl (Nat.le_of_ble_eq_true rfl) dX6_goDay_1) (fun r1 v1 w1 H locs hp1 h => ?_)
  obtain ⟨hr1, hu1⟩ := hp1; obtain ⟨rfl, rfl⟩ := Prod.mk.inj hu1
  refine lv_if_eq (tgt := 8) hx hb dX6_goDay_4 (by decide) (fun c_4 => ?_) (fun c_4 => ?_)
  · skip
    rw [hr1, bI_0] at c_4
    refine lv_aload_n hx hb dX6_goDay_8 rfl (lv_at hl 0 rfl) ?_
    refine g_ki h (g_runV X h (As := []) (rest := []) (c_X6_letIn gl Z v w b hW n B j L hcw) mi_X6_letIn ml_RX6_113 (cW_0 hW) (by decide) kl6 rfl ⟨Nat.le_of_ble_eq_true rfl, Nat.le_of_ble_eq_true rfl⟩ rfl hl.1 rfl (Nat.le_of_ble_eq_true rfl) dX6_goDay_9) (fun r9 v9 w9 H locs hp9 h => ?_)
    obtain ⟨hr9, hw9, hfl9, hwl9⟩ := hp9
    obtain ⟨-, rfl⟩ := Prod.mk.inj hw9
    replace hfl9 : frL _ v9 _ _ := hfl9
    have hc9 := CW_frL hbr.1 hj7 hcw hfl9
    have hx9 : xC v9 b n = xC v b n := xC_frL hbr.1 hj7 hfl9
    have hlb : ∀ p, p < n → bt r9 p = letS (xC v9 b n) L p := fun p hp => by rw [hx9, hr9, bits_b n (by omega) p (by omega), decide_eq_true hp, Bool.true_and]
    refine lv_istore_n (lv' := [(1, .int r9), (0, .ref (zg Z b))]) hx hb dX6_goDay_12 rfl hl (by decide) rfl (fun ls hl => ?_)
    refine lv_aload_n hx hb dX6_goDay_13 rfl (lv_at hl 1 rfl) ?_
    refine lv_iload_n hx hb dX6_goDay_14 rfl (lv_at hl 0 rfl) ?_
    refine g_ki h (g_runV X h (As := [.int r9]) (rest := []) (c_X6_prayers gl Z v9 w r9 b hW n B L (CW.pw hc9) hlb) mi_X6_prayers ml_RX6_117 (cW_0 hW) (by decide) kl6 rfl ⟨Nat.le_of_ble_eq_true rfl, Nat.le_of_ble_eq_true rfl⟩ rfl hl.1 rfl (Nat.le_of_ble_eq_true rfl) dX6_goDay_15) (fun r15 v15 w15 H locs hp15 h => ?_)
    obtain ⟨hr15, hu15⟩ := hp15; obtain ⟨rfl, rfl⟩ := Prod.mk.inj hu15
    refine lv_istore_n (lv' := [(2, .int r15), (1, .int r9), (0, .ref (zg Z b))]) hx hb dX6_goDay_18 rfl hl (by decide) rfl (fun ls hl => ?_)
    refine lv_iconst (v := 0) hx hb dX6_goDay_19 (by decide) ?_
    refine lv_aload_n hx hb dX6_goDay_20 rfl (lv_at hl 2 rfl) ?_
    refine g_geti X h (k := 7) (cW_0 hW) fr_RX6_57 rfl (by decide) dX6_goDay_21 ?_
    refine g_tr (y := (v b 7)) (by rw [hfl9 b (by omega) (by omega)]) ?_
    refine lv_iload_n hx hb dX6_goDay_24 rfl (lv_at hl 1 rfl) ?_
    refine g_ki h (g_runS X h (As := [.int r9]) (rest := [.int (v b 7), .int 0]) (c_J6_bitCount_0f7a4 gl Z v9 w r9) ms_J6_bitCount_0f7a4 ml_RX6_121 ⟨Nat.le_of_ble_eq_true rfl, Nat.le_of_ble_eq_true rfl⟩ rfl hl.1 rfl (Nat.le_of_ble_eq_true rfl) dX6_goDay_25) (fun r25 v25 w25 H locs hp25 h => ?_)
    obtain ⟨hr25, hu25⟩ := hp25; obtain ⟨rfl, rfl⟩ := Prod.mk.inj hu25
    refine lv_isub hx hb dX6_goDay_28 ?_
    refine g_max X hl.1 ml_RX6_126 ⟨Nat.le_of_ble_eq_true rfl, Nat.le_of_ble_eq_true rfl⟩ (Nat.le_of_ble_eq_true rfl) dX6_goDay_29 ?_
    refine lv_topi (fun x3_32 ex3_32 => ?_)
    refine lv_istore_n (lv' := [(3, .int x3_32), (2, .int r15), (1, .int r9), (0, .ref (zg Z b))]) hx hb dX6_goDay_32 rfl hl (by decide) rfl (fun ls hl => ?_)
    refine lv_aload_n hx hb dX6_goDay_33 rfl (lv_at hl 3 rfl) ?_
    refine g_kv h (g_runV X h (As := []) (rest := []) (c_X6_givePocket gl Z v9 w b hW n B j L hc9) mi_X6_givePocket ml_RX6_131 (cW_0 hW) (by decide) kl6 rfl ⟨Nat.le_of_ble_eq_true rfl, Nat.le_of_ble_eq_true rfl⟩ rfl hl.1 rfl (Nat.le_of_ble_eq_true rfl) dX6_goDay_34) (fun v34 w34 H locs hp34 h => ?_)
    obtain ⟨hx34, hw34, hfp34⟩ := hp34
    obtain ⟨-, rfl⟩ := Prod.mk.inj hw34
    replace hx34 : xC v34 _ _ = _ := hx34
    replace hfp34 : frP _ v34 _ := hfp34
    refine lv_aload_n hx hb dX6_goDay_37 rfl (lv_at hl 3 rfl) ?_
    refine g_getr X h (k := 0) (t := (b + 1)) (cW_0 hW) fr_RX6_12 rfl (by decide) (by decide) (by decide) dX6_goDay_38 ?_
    refine g_kv h (g_runV X h (As := []) (rest := []) (c_X3_forgetSome gl Z v34 w (b + 1) hE n (by rw [hfp34 (b + 1) (by omega) (by omega), hfl9 (b + 1) (by omega) (by omega)]; exact hn) h6) mi_X3_forgetSome ml_RX6_134 (cW_1 hW) (by decide) kl3 rfl ⟨Nat.le_of_ble_eq_true rfl, Nat.le_of_ble_eq_true rfl⟩ rfl hl.1 rfl (Nat.le_of_ble_eq_true rfl) dX6_goDay_41) (fun v41 w41 H locs hp41 h => ?_)
    obtain ⟨hv41, rfl⟩ := Prod.mk.inj hp41
    have ev41 : v41 = upc v34 (b + 5) (fgC (v34 (b + 5)) n) := hv41.symm
    refine lv_aload_n hx hb dX6_goDay_44 rfl (lv_at hl 3 rfl) ?_
    refine lv_aload_n hx hb dX6_goDay_45 rfl (lv_at hl 3 rfl) ?_
    refine g_geti X h (k := 1) (cW_0 hW) fr_RX6_18 rfl (by decide) dX6_goDay_46 ?_
    refine g_tr (y := (v b 1)) (by rw [ev41, upc_ne (by omega), hfp34 b (by omega) (by omega), hfl9 b (by omega) (by omega)]) ?_
    refine lv_iload_n hx hb dX6_goDay_49 rfl (lv_at hl 1 rfl) ?_
    refine lv_iadd hx hb dX6_goDay_50 ?_
    refine lv_iload_n hx hb dX6_goDay_51 rfl (lv_at hl 0 rfl) ?_
    refine lv_isub hx hb dX6_goDay_52 ?_
    refine lv_iconst (v := 0) hx hb dX6_goDay_53 (by decide) ?_
    refine lv_sipush (v := 999) hx hb dX6_goDay_54 (by decide) ?_
    refine g_ki h (g_runSN X h (As := [.int (((v b 1) + r15) - x3_32), .int 0, .int 999]) (rest := [.ref (zg Z b)]) (c_X7_between gl Z v41 w (((v b 1) + r15) - x3_32) 0 999) ms_X7_between (List.mem_of_getElem? (i := 2) rfl) ⟨Nat.le_of_ble_eq_true rfl, Nat.le_of_ble_eq_true rfl⟩ rfl hl.1 rfl (Nat.le_of_ble_eq_true rfl) dX6_goDay_57) (fun r57 v57 w57 H locs hp57 h => ?_)
    obtain ⟨hr57, hu57⟩ := hp57; obtain ⟨rfl, rfl⟩ := Prod.mk.inj hu57
    refine g_puti X h (k := 1) (cW_0 hW) fp_RX6_18 rfl (by decide) dX6_goDay_60 (fun v60 H locs ev60 h => ?_)
    refine lv_aload_n hx hb dX6_goDay_63 rfl (lv_at hl 3 rfl) ?_
    refine lv_sipush (v := 999) hx hb dX6_goDay_64 (by decide) ?_
    refine lv_aload_n hx hb dX6_goDay_67 rfl (lv_at hl 3 rfl) ?_
    refine g_geti X h (k := 2) (cW_0 hW) fr_RX6_72 rfl (by decide) dX6_goDay_68 ?_
    refine g_tr (y := (v b 2)) (by rw [ev60, up2_slot (by omega), ev41, upc_ne (by omega), hfp34 b (by omega) (by omega), hfl9 b (by omega) (by omega)]) ?_
    refine lv_aload_n hx hb dX6_goDay_71 rfl (lv_at hl 3 rfl) ?_
    refine g_geti X h (k := 9) (cW_0 hW) fr_RX6_65 rfl (by decide) dX6_goDay_72 ?_
    refine g_tr (y := (v b 9)) (by rw [ev60, up2_slot (by omega), ev41, upc_ne (by omega), hfp34 b (by omega) (by omega), hfl9 b (by omega) (by omega)]) ?_
    refine lv_iadd hx hb dX6_goDay_75 ?_
    refine g_min X hl.1 ml_RX6_141 ⟨Nat.le_of_ble_eq_true rfl, Nat.le_of_ble_eq_true rfl⟩ (Nat.le_of_ble_eq_true rfl) dX6_goDay_76 ?_
    refine g_puti X h (k := 2) (cW_0 hW) fp_RX6_72 rfl (by decide) dX6_goDay_79 (fun v79 H locs ev79 h => ?_)
    refine lv_aload_n hx hb dX6_goDay_82 rfl (lv_at hl 3 rfl) ?_
    refine lv_dup hx hb dX6_goDay_83 rfl ?_
    refine g_geti X h (k := 3) (cW_0 hW) fr_RX6_78 rfl (by decide) dX6_goDay_84 ?_
    refine g_tr (y := (v b 3)) (by rw [ev79, up2_slot (by omega), ev60, up2_slot (by omega), ev41, upc_ne (by omega), hfp34 b (by omega) (by omega), hfl9 b (by omega) (by omega)]) ?_
    refine lv_iconst (v := 1) hx hb dX6_goDay_87 (by decide) ?_
    refine lv_iadd hx hb dX6_goDay_88 ?_
    refine g_puti X h (k := 3) (cW_0 hW) fp_RX6_78 rfl (by decide) dX6_goDay_89 (fun v89 H locs ev89 h => ?_)
    exact g_vret X h dX6_goDay_92 ⟨(by show xC v89 b n = _; rw [ev89, xC_up_dy, ev79, xC_up_sm, ev60, xC_up_he, ev41, xC_fg h6, hx34, hx9, dayS_go (of_decide_eq_false c_4), hr57, ex3_32, hr15, hr25, hx9, hr9, betw_eq (x := 0)]; rfl), rfl, (by show frD v v89 b j; rw [ev89, ev79, ev60]; exact frD_num (by omega) (frD_num (by omega) (frD_num (by omega) (frD_trans (frL_D hbr.1 hj7 hfl9) (by rw [ev41]; exact frD_th (frP_D hfp34)))))) ⟩
  · skip
    rw [hr1, bI_n] at c_4
    exact g_vret X h dX6_goDay_7 ⟨(dayS_no (of_decide_eq_true c_4)).symm, rfl, frD_refl _ _ _⟩
