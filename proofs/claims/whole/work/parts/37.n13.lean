/-! the class: acts -/
def ranC (v : VV) (t : Nat) (b : Int32) : VV := up2 (if t < 20 then up2 v 111 t b else v) 110 1 (nI (t + 1))
def ranCL (v : VV) (t : Nat) : List Int32 → VV
  | [] => v
  | b :: l => ranCL (ranC v t b) (t + 1) l
theorem ranC_ne {v : VV} {t : Nat} {b : Int32} {i : Nat} (h : i ≠ 111) (h2 : i ≠ 110) : ranC v t b i = v i := by
  unfold ranC
  rw [up2_ne h2]
  split
  · exact up2_ne h
  · rfl
theorem ranC_k {v : VV} {t : Nat} {b : Int32} {k : Nat} (h : k ≠ 1) : ranC v t b 110 k = v 110 k := by
  unfold ranC
  rw [up2_slot h]
  split
  · rw [up2_ne (by decide)]
  · rfl
theorem ranC_1 {v : VV} {t : Nat} {b : Int32} : ranC v t b 110 1 = nI (t + 1) := by simp [ranC, up2]
theorem ranCL_ne {i : Nat} (h : i ≠ 111) (h2 : i ≠ 110) : ∀ (l : List Int32) (v : VV) (t : Nat), ranCL v t l i = v i
  | [], _, _ => rfl
  | b :: l, v, t => by rw [ranCL, ranCL_ne h h2 l]; exact ranC_ne h h2
theorem ranCL_k {k : Nat} (h : k ≠ 1) : ∀ (l : List Int32) (v : VV) (t : Nat), ranCL v t l 110 k = v 110 k
  | [], _, _ => rfl
  | b :: l, v, t => by rw [ranCL, ranCL_k h l]; exact ranC_k h
theorem ranCL_1 : ∀ (l : List Int32) (v : VV) (t : Nat), v 110 1 = nI t → ranCL v t l 110 1 = nI (t + l.length)
  | [], _, _, h => h
  | b :: l, v, t, _ => by rw [ranCL, ranCL_1 l _ _ ranC_1, List.length_cons, show t + 1 + l.length = t + (l.length + 1) by omega]
theorem ranCL_app : ∀ (a b : List Int32) (v : VV) (t : Nat), ranCL (ranCL v t a) (t + a.length) b = ranCL v t (a ++ b)
  | [], _, _, _ => rfl
  | x :: a, b, v, t => by
    rw [ranCL, List.cons_append, ranCL, ← ranCL_app a b (ranC v t x) (t + 1), List.length_cons, show t + 1 + a.length = t + (a.length + 1) by omega]
theorem tlL_0 (own : Nat) (h : own ≤ 6) : (tlL own 0).length ≤ 20 := by
  rcases (show own = 0 ∨ own = 1 ∨ own = 2 ∨ own = 3 ∨ own = 4 ∨ own = 5 ∨ own = 6 by omega) with rfl | rfl | rfl | rfl | rfl | rfl | rfl <;> decide
/-! shift, judge -/
theorem shift_bad {a b i j n : Int32} : (decide (n < 0) || decide (i < 0) || decide (j < 0) || outS a i n || outS b j n) = !(stS a i n && stS b j n) := by
  have e : ∀ x : Int32, decide (x < 0) = !decide (0 ≤ x) := by
    intro x
    by_cases h : x < 0
    · rw [decide_eq_true h, decide_eq_false (Int32.not_le.mpr h)]; rfl
    · rw [decide_eq_false h, decide_eq_true (Int32.not_lt.mp h)]; rfl
  rw [e, e, e, stS, stS]
  cases decide (0 ≤ n) <;> cases decide (0 ≤ i) <;> cases decide (0 ≤ j) <;> cases outS a i n <;> cases outS b j n <;> rfl
theorem shift_ok {a b i j n : Int32} (h1 : stS a i n = true) (h2 : stS b j n = true) : (decide (¬ n < 0) = true ∧ decide (¬ i < 0) = true ∧ decide (¬ j < 0) = true) ∧ (!outS a i n) = true ∧ (!outS b j n) = true := by
  simp only [stS, Bool.and_eq_true, decide_eq_true_eq] at h1 h2
  obtain ⟨⟨a1, a2⟩, a3⟩ := h1
  obtain ⟨⟨b1, b2⟩, b3⟩ := h2
  exact ⟨⟨decide_eq_true (Int32.not_lt.mpr a2), decide_eq_true (Int32.not_lt.mpr a1), decide_eq_true (Int32.not_lt.mpr b1)⟩, a3, b3⟩
def judC (z x : Int32) (p : Nat) : Prop := plS z (x.toInt64 + (nI p).toInt64) = true
/-- a place from x on is none, so neither side looks -/
theorem jud_no {th : Nat → Int32} {ts sz : Int32} {it : Nat → Int64} {t f p : Nat} {x : Int32} (hp : p < 6) (hx0 : 1 ≤ p → 0 ≤ x) (hts : ts = -1 → sz = 0) (h : plS sz (x.toInt64 + (nI p).toInt64) = false) : judF th ts sz it t x (f + 1) p = 100 + nI p := by
  rw [judF, if_pos]
  have el : ∀ a : Int32, a.toInt64.toInt = a.toInt := fun a => Int32.toInt_toInt64 a
  have hs := i_rng x
  have e1 : (x.toInt64 + (nI p).toInt64).toInt = x.toInt + p := by
    rw [Int64.toInt_add, el, el, nI_toInt (by omega)]
    exact Int.bmod_eq_of_le (by omega) (by omega)
  by_cases h1 : ts = -1
  · exact Or.inl h1
  by_cases h2 : x < 0
  · exact Or.inr (Or.inl h2)
  refine Or.inr (Or.inr (fun q => ?_))
  rw [plS, decide_eq_true q, Bool.and_true, decide_eq_false_iff_not] at h
  apply h
  rw [Int64.le_iff_toInt_le, e1]
  rw [i_lt] at h2
  have e0 : (0 : Int64).toInt = 0 := rfl
  have e3 : (0 : Int32).toInt = 0 := rfl
  omega
theorem jud_at {ts sz : Nat → Int32} {t p : Nat} {x : Int32} (hti : TIv ts sz) (ht : t < 6) (hp : p < 6) (hx0 : 1 ≤ p → 0 ≤ x) (h : plS (sz t) (x.toInt64 + (nI p).toInt64) = true) : ∃ k, x = nI k ∧ k + p < 60 ∧ x.toNatClampNeg = k ∧ ¬ (ts t = -1 ∨ x < 0 ∨ ¬ x.toInt64 + (nI p).toInt64 < (sz t).toInt64) ∧ isP (sz t) (nI (k + p)) = true := by
  obtain ⟨z, hz, ez⟩ := sz_nat hti ht
  have el : ∀ a : Int32, a.toInt64.toInt = a.toInt := fun a => Int32.toInt_toInt64 a
  have hs := i_rng x
  have e1 : (x.toInt64 + (nI p).toInt64).toInt = x.toInt + p := by
    rw [Int64.toInt_add, el, el, nI_toInt (by omega)]
    exact Int.bmod_eq_of_le (by omega) (by omega)
  simp only [plS, Bool.and_eq_true, decide_eq_true_eq] at h
  obtain ⟨h1, h2⟩ := h
  have h2' := h2
  rw [Int64.le_iff_toInt_le, e1] at h1
  rw [Int64.lt_iff_toInt_lt, e1, el, ez, nI_toInt (by omega)] at h2
  have e0 : (0 : Int64).toInt = 0 := rfl
  have hx : 0 ≤ x.toInt := by
    rcases Nat.eq_zero_or_pos p with q | q
    · omega
    · have := hx0 q; rw [i_le] at this; exact this
  obtain ⟨k, ek, hk, hk2⟩ := i_nat hx
  have hkz : k + p < z := by omega
  have hc : isP (sz t) (nI (k + p)) = true := by rw [ez]; exact isP_lt hkz (by omega)
  refine ⟨k, ek, by omega, by rw [ek]; exact nI_clamp hk2, ?_, hc⟩
  rintro (q | q | q)
  · exact (TIv_place hti ht hc).1 q
  · rw [i_lt] at q; have e3 : (0 : Int32).toInt = 0 := rfl; omega
  · exact q h2'
def undN (k : Nat) : Bool := true
theorem ok_no {ts sz : Nat → Int32} {t i o j n : Int32} (h : (stS (sz t.toNatClampNeg) i n && stS (sz o.toNatClampNeg) j n) = false) : ¬ okShift ts sz t i o j n = true := by
  intro q
  have hb := shift_bad (a := sz t.toNatClampNeg) (b := sz o.toNatClampNeg) (i := i) (j := j) (n := n)
  rw [h] at hb
  simp only [okShift, Bool.and_eq_true, decide_eq_true_eq, Bool.not_eq_true'] at q
  obtain ⟨⟨⟨⟨⟨-, q1⟩, q2⟩, q3⟩, q4⟩, q5⟩ := q
  simp [q1, q2, q3, q4, q5] at hb
theorem min20c {x : Int32} : (if (20 : Int32) < x then (20 : Int32) else x) = (if x < 20 then x else 20) := by
  by_cases h1 : (20 : Int32) < x
  · rw [if_pos h1]
    rw [if_neg (fun h2 => by rw [i_lt] at h1 h2; omega)]
  · rw [if_neg h1]
    by_cases h2 : x < 20
    · rw [if_pos h2]
    · rw [if_neg h2]
      rw [i_eq]
      rw [i_lt] at h1 h2
      omega
set_option maxRecDepth 100000 in
set_option maxHeartbeats 1000000 in
theorem c_X7_shift (gl : Launch) (Z : PL) (v : VV) (w : WV) (x0 : Int32) (x1 : Int32) (x2 : Int32) (x3 : Int32) (x4 : Int32) (hti : TIv (v 113) (v 114)) : CT gl yX7_shift cX7_shift 6 (some .int) 2 85 Z [.ref (zg Z 0), .int x0, .int x1, .int x2, .int x3, .int x4] v w (Qi Z (fun r u => r = sShift (v 113) (v 114) x0 x1 x2 x3 x4 ∧ (v, if okShift (v 113) (v 114) x0 x1 x2 x3 x4 then upcL w 115 (va_cpy (w 115) (w 115) (60 * x0.toNatClampNeg + x1.toNatClampNeg) (60 * x2.toNatClampNeg + x3.toNatClampNeg) x4.toNatClampNeg) else w) = u)) := by
  refine g_met (by decide) (Nat.le_of_ble_eq_true rfl) ?_
  intro gp ge gs gm ga gb gh gc X h ls hl
  have hx := X.1
  have hb := X.2.1
  have hl : lv_has ls 6 [(0, .ref (zg Z 0)), (1, .int x0), (2, .int x1), (3, .int x2), (4, .int x3), (5, .int x4)] := hl
  refine lv_aload_n hx hb dX7_shift_0 rfl (lv_at hl 0 rfl) ?_
  refine g_getr X h (k := 9) (t := 112) (cc_0) fr_RX7_54 rfl (by decide) (by decide) (by decide) dX7_shift_1 ?_
  refine lv_iload_n hx hb dX7_shift_4 rfl (lv_at hl 1 rfl) ?_
  refine g_ki h (g_runV X h (As := [.int x0]) (rest := []) (c_X4_isTape gl Z v w x0) mi_X4_isTape ml_RX7_219 (cc_112) (by decide) kl4 rfl ⟨Nat.le_of_ble_eq_true rfl, Nat.le_of_ble_eq_true rfl⟩ rfl hl.1 rfl (Nat.le_of_ble_eq_true rfl) dX7_shift_5) (fun r5 v5 w5 H locs hp5 h => ?_)
  obtain ⟨hr5, hu5⟩ := hp5; obtain ⟨rfl, rfl⟩ := Prod.mk.inj hu5
  refine lv_if_eq (tgt := 22) hx hb dX7_shift_8 (by decide) (fun c_8 => ?_) (fun c_8 => ?_)
  · skip
    rw [hr5, bI_0] at c_8
    refine lv_iconst (v := (-1)) hx hb dX7_shift_22 (by decide) ?_
    exact g_iret X h dX7_shift_23 ⟨by simp [sShift, c_8], by rw [if_neg (by simp [okShift, c_8])]⟩
  · skip
    rw [hr5, bI_n] at c_8
    obtain ⟨t, ht, htl, htn, htc⟩ := inR_nat (a := 0) (b := 5) rfl rfl (by decide) c_8
    refine lv_aload_n hx hb dX7_shift_11 rfl (lv_at hl 0 rfl) ?_
    refine g_getr X h (k := 9) (t := 112) (cc_0) fr_RX7_54 rfl (by decide) (by decide) (by decide) dX7_shift_12 ?_
    refine lv_iload_n hx hb dX7_shift_15 rfl (lv_at hl 3 rfl) ?_
    refine g_ki h (g_runV X h (As := [.int x2]) (rest := []) (c_X4_isTape gl Z v w x2) mi_X4_isTape ml_RX7_219 (cc_112) (by decide) kl4 rfl ⟨Nat.le_of_ble_eq_true rfl, Nat.le_of_ble_eq_true rfl⟩ rfl hl.1 rfl (Nat.le_of_ble_eq_true rfl) dX7_shift_16) (fun r16 v16 w16 H locs hp16 h => ?_)
    obtain ⟨hr16, hu16⟩ := hp16; obtain ⟨rfl, rfl⟩ := Prod.mk.inj hu16
    refine lv_if_ne (tgt := 24) hx hb dX7_shift_19 (by decide) (fun c_19 => ?_) (fun c_19 => ?_)
    · skip
      rw [hr16, bI_n] at c_19
      obtain ⟨o, ho, hol, hon, hoc⟩ := inR_nat (a := 0) (b := 5) rfl rfl (by decide) c_19
      refine lv_aload_n hx hb dX7_shift_24 rfl (lv_at hl 0 rfl) ?_
      refine g_getr X h (k := 9) (t := 112) (cc_0) fr_RX7_54 rfl (by decide) (by decide) (by decide) dX7_shift_25 ?_
      refine lv_iload_n hx hb dX7_shift_28 rfl (lv_at hl 1 rfl) ?_
      refine g_ki h (g_runV X h (As := [.int x0]) (rest := []) (c_X4_isEmpty gl Z v w x0 t ht (by omega)) mi_X4_isEmpty ml_RX7_222 (cc_112) (by decide) kl4 rfl ⟨Nat.le_of_ble_eq_true rfl, Nat.le_of_ble_eq_true rfl⟩ rfl hl.1 rfl (Nat.le_of_ble_eq_true rfl) dX7_shift_29) (fun r29 v29 w29 H locs hp29 h => ?_)
      obtain ⟨hr29, hu29⟩ := hp29; obtain ⟨rfl, rfl⟩ := Prod.mk.inj hu29
      refine lv_if_ne (tgt := 46) hx hb dX7_shift_32 (by decide) (fun c_32 => ?_) (fun c_32 => ?_)
      · skip
        rw [hr29, bI_n] at c_32
        refine lv_bipush (v := (-11)) hx hb dX7_shift_46 (by decide) ?_
        exact g_iret X h dX7_shift_48 ⟨by rw [sShift, if_pos (by rw [c_8, c_19]; rfl), htc, hoc, decide_eq_true ((TIv_emp hti (show t < 6 by omega)).mpr (of_decide_eq_true c_32)), if_pos (by simp)], by rw [if_neg (by simp [okShift, htc, (TIv_emp hti (show t < 6 by omega)).mpr (of_decide_eq_true c_32)])]⟩
      · skip
        rw [hr29, bI_0] at c_32
        refine lv_aload_n hx hb dX7_shift_35 rfl (lv_at hl 0 rfl) ?_
        refine g_getr X h (k := 9) (t := 112) (cc_0) fr_RX7_54 rfl (by decide) (by decide) (by decide) dX7_shift_36 ?_
        refine lv_iload_n hx hb dX7_shift_39 rfl (lv_at hl 3 rfl) ?_
        refine g_ki h (g_runV X h (As := [.int x2]) (rest := []) (c_X4_isEmpty gl Z v w x2 o ho (by omega)) mi_X4_isEmpty ml_RX7_222 (cc_112) (by decide) kl4 rfl ⟨Nat.le_of_ble_eq_true rfl, Nat.le_of_ble_eq_true rfl⟩ rfl hl.1 rfl (Nat.le_of_ble_eq_true rfl) dX7_shift_40) (fun r40 v40 w40 H locs hp40 h => ?_)
        obtain ⟨hr40, hu40⟩ := hp40; obtain ⟨rfl, rfl⟩ := Prod.mk.inj hu40
        refine lv_if_eq (tgt := 49) hx hb dX7_shift_43 (by decide) (fun c_43 => ?_) (fun c_43 => ?_)
        · skip
          rw [hr40, bI_0] at c_43
          refine lv_aload_n hx hb dX7_shift_49 rfl (lv_at hl 0 rfl) ?_
          refine g_getr X h (k := 9) (t := 112) (cc_0) fr_RX7_54 rfl (by decide) (by decide) (by decide) dX7_shift_50 ?_
          refine g_getr X h (k := 0) (t := 113) (cc_112) fr_RX7_273 rfl (by decide) (by decide) (by decide) dX7_shift_53 ?_
          refine lv_iload_n hx hb dX7_shift_56 rfl (lv_at hl 1 rfl) ?_
          refine g_iald X h (k := t) (cc_113) ht (by omega) (by decide) dX7_shift_57 ?_
          refine lv_aload_n hx hb dX7_shift_58 rfl (lv_at hl 0 rfl) ?_
          refine g_getr X h (k := 9) (t := 112) (cc_0) fr_RX7_54 rfl (by decide) (by decide) (by decide) dX7_shift_59 ?_
          refine g_getr X h (k := 0) (t := 113) (cc_112) fr_RX7_273 rfl (by decide) (by decide) (by decide) dX7_shift_62 ?_
          refine lv_iload_n hx hb dX7_shift_65 rfl (lv_at hl 3 rfl) ?_
          refine g_iald X h (k := o) (cc_113) ho (by omega) (by decide) dX7_shift_66 ?_
          refine lv_icmp_eq (tgt := 73) hx hb dX7_shift_67 (by decide) (fun c_67 => ?_) (fun c_67 => ?_)
          · skip
            refine lv_aload_n hx hb dX7_shift_73 rfl (lv_at hl 0 rfl) ?_
            refine g_getr X h (k := 9) (t := 112) (cc_0) fr_RX7_54 rfl (by decide) (by decide) (by decide) dX7_shift_74 ?_
            refine lv_iload_n hx hb dX7_shift_77 rfl (lv_at hl 1 rfl) ?_
            refine lv_iload_n hx hb dX7_shift_78 rfl (lv_at hl 2 rfl) ?_
            refine lv_iload hx hb dX7_shift_79 (lv_at hl 5 rfl) ?_
            refine g_ki h (g_runV X h (As := [.int x0, .int x1, .int x4]) (rest := []) (c_X4_isStretch gl Z v w x0 t ht x1 x4 (by omega)) mi_X4_isStretch ml_RX7_276 (cc_112) (by decide) kl4 rfl ⟨Nat.le_of_ble_eq_true rfl, Nat.le_of_ble_eq_true rfl⟩ rfl hl.1 rfl (Nat.le_of_ble_eq_true rfl) dX7_shift_81) (fun r81 v81 w81 H locs hp81 h => ?_)
            obtain ⟨hr81, hu81⟩ := hp81; obtain ⟨rfl, rfl⟩ := Prod.mk.inj hu81
            refine lv_if_eq (tgt := 102) hx hb dX7_shift_84 (by decide) (fun c_84 => ?_) (fun c_84 => ?_)
            · skip
              rw [hr81, bI_0] at c_84
              refine lv_bipush (v := (-13)) hx hb dX7_shift_102 (by decide) ?_
              exact g_iret X h dX7_shift_104 ⟨by rw [sShift, if_pos (by rw [c_8, c_19]; rfl), htc, hoc, decide_eq_false (show ¬ v 113 t < 0 from fun q => of_decide_eq_false c_32 ((TIv_emp hti (show t < 6 by omega)).mp q)), decide_eq_false (show ¬ v 113 o < 0 from fun q => of_decide_eq_false c_43 ((TIv_emp hti (show o < 6 by omega)).mp q)), if_neg (by decide), if_pos c_67, shift_bad, c_84, if_pos (by rfl)], by rw [if_neg (ok_no (htc ▸ hoc ▸ (by rw [c_84]; rfl)))]⟩
            · skip
              rw [hr81, bI_n] at c_84
              refine lv_aload_n hx hb dX7_shift_87 rfl (lv_at hl 0 rfl) ?_
              refine g_getr X h (k := 9) (t := 112) (cc_0) fr_RX7_54 rfl (by decide) (by decide) (by decide) dX7_shift_88 ?_
              refine lv_iload_n hx hb dX7_shift_91 rfl (lv_at hl 3 rfl) ?_
              refine lv_iload hx hb dX7_shift_92 (lv_at hl 4 rfl) ?_
              refine lv_iload hx hb dX7_shift_94 (lv_at hl 5 rfl) ?_
              refine g_ki h (g_runV X h (As := [.int x2, .int x3, .int x4]) (rest := []) (c_X4_isStretch gl Z v w x2 o ho x3 x4 (by omega)) mi_X4_isStretch ml_RX7_276 (cc_112) (by decide) kl4 rfl ⟨Nat.le_of_ble_eq_true rfl, Nat.le_of_ble_eq_true rfl⟩ rfl hl.1 rfl (Nat.le_of_ble_eq_true rfl) dX7_shift_96) (fun r96 v96 w96 H locs hp96 h => ?_)
              obtain ⟨hr96, hu96⟩ := hp96; obtain ⟨rfl, rfl⟩ := Prod.mk.inj hu96
              refine lv_if_ne (tgt := 105) hx hb dX7_shift_99 (by decide) (fun c_99 => ?_) (fun c_99 => ?_)
              · skip
                rw [hr96, bI_n] at c_99
                obtain ⟨i, nn, hi, hn, hin, hic, hnc⟩ := st_nat hti (show t < 6 by omega) c_84
                obtain ⟨j, nn2, hj, hn2, hjn, hjc, hnc2⟩ := st_nat hti (show o < 6 by omega) c_99
                obtain rfl : nn = nn2 := hnc.symm.trans hnc2
                refine lv_aload_n hx hb dX7_shift_105 rfl (lv_at hl 0 rfl) ?_
                refine g_getr X h (k := 9) (t := 112) (cc_0) fr_RX7_54 rfl (by decide) (by decide) (by decide) dX7_shift_106 ?_
                refine lv_iload_n hx hb dX7_shift_109 rfl (lv_at hl 1 rfl) ?_
                refine lv_iload_n hx hb dX7_shift_110 rfl (lv_at hl 2 rfl) ?_
                refine lv_iload_n hx hb dX7_shift_111 rfl (lv_at hl 3 rfl) ?_
                refine lv_iload hx hb dX7_shift_112 (lv_at hl 4 rfl) ?_
                refine lv_iload hx hb dX7_shift_114 (lv_at hl 5 rfl) ?_
                refine g_kv h (g_runV X h (As := [.int x0, .int x1, .int x2, .int x3, .int x4]) (rest := []) (c_X4_move gl Z v w x0 t ht x1 i hi x2 o ho x3 j hj x4 nn hn (by omega) hin hjn (by omega)) mi_X4_move ml_RX7_279 (cc_112) (by decide) kl4 rfl ⟨Nat.le_of_ble_eq_true rfl, Nat.le_of_ble_eq_true rfl⟩ rfl hl.1 rfl (Nat.le_of_ble_eq_true rfl) dX7_shift_116) (fun v116 w116 H locs hp116 h => ?_)
                obtain ⟨ev116, ew116⟩ := Prod.mk.inj hp116
                replace ev116 := ev116.symm
                replace ew116 := ew116.symm
                refine lv_iload hx hb dX7_shift_119 (lv_at hl 5 rfl) ?_
                exact g_iret X h dX7_shift_121 ⟨by rw [sShift, if_pos (by rw [c_8, c_19]; rfl), htc, hoc, decide_eq_false (show ¬ v 113 t < 0 from fun q => of_decide_eq_false c_32 ((TIv_emp hti (show t < 6 by omega)).mp q)), decide_eq_false (show ¬ v 113 o < 0 from fun q => of_decide_eq_false c_43 ((TIv_emp hti (show o < 6 by omega)).mp q)), if_neg (by decide), if_pos c_67, shift_bad, c_84, c_99, if_neg (by decide)], by rw [if_pos (by rw [okShift, c_8, c_19, htc, hoc, decide_eq_true (show ¬ v 113 t < 0 from fun q => of_decide_eq_false c_32 ((TIv_emp hti (show t < 6 by omega)).mp q)), decide_eq_true (show ¬ v 113 o < 0 from fun q => of_decide_eq_false c_43 ((TIv_emp hti (show o < 6 by omega)).mp q)), decide_eq_true c_67, (shift_ok c_84 c_99).1.1, (shift_ok c_84 c_99).1.2.1, (shift_ok c_84 c_99).1.2.2, (shift_ok c_84 c_99).2.1, (shift_ok c_84 c_99).2.2]; rfl), htc, hoc, hic, hjc, hnc, ev116, ew116]⟩
              · skip
                rw [hr96, bI_0] at c_99
                refine lv_bipush (v := (-13)) hx hb dX7_shift_102 (by decide) ?_
                exact g_iret X h dX7_shift_104 ⟨by rw [sShift, if_pos (by rw [c_8, c_19]; rfl), htc, hoc, decide_eq_false (show ¬ v 113 t < 0 from fun q => of_decide_eq_false c_32 ((TIv_emp hti (show t < 6 by omega)).mp q)), decide_eq_false (show ¬ v 113 o < 0 from fun q => of_decide_eq_false c_43 ((TIv_emp hti (show o < 6 by omega)).mp q)), if_neg (by decide), if_pos c_67, shift_bad, c_99, if_pos (by simp)], by rw [if_neg (ok_no (htc ▸ hoc ▸ (by rw [c_99]; simp)))]⟩
          · skip
            refine lv_bipush (v := (-12)) hx hb dX7_shift_70 (by decide) ?_
            exact g_iret X h dX7_shift_72 ⟨by rw [sShift, if_pos (by rw [c_8, c_19]; rfl), htc, hoc, decide_eq_false (show ¬ v 113 t < 0 from fun q => of_decide_eq_false c_32 ((TIv_emp hti (show t < 6 by omega)).mp q)), decide_eq_false (show ¬ v 113 o < 0 from fun q => of_decide_eq_false c_43 ((TIv_emp hti (show o < 6 by omega)).mp q)), if_neg (by decide), if_neg c_67], by rw [if_neg (by simp [okShift, htc, hoc, c_67])]⟩
        · skip
          rw [hr40, bI_n] at c_43
          refine lv_bipush (v := (-11)) hx hb dX7_shift_46 (by decide) ?_
          exact g_iret X h dX7_shift_48 ⟨by rw [sShift, if_pos (by rw [c_8, c_19]; rfl), htc, hoc, decide_eq_true ((TIv_emp hti (show o < 6 by omega)).mpr (of_decide_eq_true c_43)), if_pos (by simp)], by rw [if_neg (by simp [okShift, hoc, (TIv_emp hti (show o < 6 by omega)).mpr (of_decide_eq_true c_43)])]⟩
    · skip
      rw [hr16, bI_0] at c_19
      refine lv_iconst (v := (-1)) hx hb dX7_shift_22 (by decide) ?_
      exact g_iret X h dX7_shift_23 ⟨by simp [sShift, c_19], by rw [if_neg (by simp [okShift, c_19])]⟩

set_option maxRecDepth 100000 in
set_option maxHeartbeats 1000000 in
theorem c_X7_judge (gl : Launch) (Z : PL) (v : VV) (w : WV) (x0 : Int32) (x1 : Int32) (n : Nat) (hn : v 52 0 = nI n) (h6 : n ≤ 6) (hti : TIv (v 113) (v 114)) : CT gl yX7_judge cX7_judge 4 (some .int) 1 23 Z [.ref (zg Z 0), .int x0, .int x1] v w (Qi Z (fun r u => r = sJudge n (v 56) (v 113) (v 114) (w 115) x0 x1 ∧ (v, w) = u)) := by
  refine g_met (by decide) (Nat.le_of_ble_eq_true rfl) ?_
  intro gp ge gs gm ga gb gh gc X h ls hl
  have hx := X.1
  have hb := X.2.1
  have hl : lv_has ls 4 [(0, .ref (zg Z 0)), (1, .int x0), (2, .int x1)] := hl
  refine lv_aload_n hx hb dX7_judge_0 rfl (lv_at hl 0 rfl) ?_
  refine g_getr X h (k := 9) (t := 112) (cc_0) fr_RX7_54 rfl (by decide) (by decide) (by decide) dX7_judge_1 ?_
  refine lv_iload_n hx hb dX7_judge_4 rfl (lv_at hl 1 rfl) ?_
  refine g_ki h (g_runV X h (As := [.int x0]) (rest := []) (c_X4_isTape gl Z v w x0) mi_X4_isTape ml_RX7_219 (cc_112) (by decide) kl4 rfl ⟨Nat.le_of_ble_eq_true rfl, Nat.le_of_ble_eq_true rfl⟩ rfl hl.1 rfl (Nat.le_of_ble_eq_true rfl) dX7_judge_5) (fun r5 v5 w5 H locs hp5 h => ?_)
  obtain ⟨hr5, hu5⟩ := hp5; obtain ⟨rfl, rfl⟩ := Prod.mk.inj hu5
  refine lv_if_ne (tgt := 13) hx hb dX7_judge_8 (by decide) (fun c_8 => ?_) (fun c_8 => ?_)
  · skip
    rw [hr5, bI_n] at c_8
    obtain ⟨t, ht, htl, htn, htc⟩ := inR_nat (a := 0) (b := 5) rfl rfl (by decide) c_8
    refine lv_aload_n hx hb dX7_judge_13 rfl (lv_at hl 0 rfl) ?_
    refine g_getr X h (k := 9) (t := 112) (cc_0) fr_RX7_54 rfl (by decide) (by decide) (by decide) dX7_judge_14 ?_
    refine lv_iload_n hx hb dX7_judge_17 rfl (lv_at hl 1 rfl) ?_
    refine g_ki h (g_runV X h (As := [.int x0]) (rest := []) (c_X4_isEmpty gl Z v w x0 t ht (by omega)) mi_X4_isEmpty ml_RX7_222 (cc_112) (by decide) kl4 rfl ⟨Nat.le_of_ble_eq_true rfl, Nat.le_of_ble_eq_true rfl⟩ rfl hl.1 rfl (Nat.le_of_ble_eq_true rfl) dX7_judge_18) (fun r18 v18 w18 H locs hp18 h => ?_)
    obtain ⟨hr18, hu18⟩ := hp18; obtain ⟨rfl, rfl⟩ := Prod.mk.inj hu18
    refine lv_if_ne (tgt := 39) hx hb dX7_judge_21 (by decide) (fun c_21 => ?_) (fun c_21 => ?_)
    · skip
      rw [hr18, bI_n] at c_21
      refine lv_iconst (v := 0) hx hb dX7_judge_39 (by decide) ?_
      refine lv_istore_n (lv' := [(3, .int 0), (0, .ref (zg Z 0)), (1, .int x0), (2, .int x1)]) hx hb dX7_judge_40 rfl hl (by decide) rfl (fun ls hl => ?_)
      have L41 : ∀ (n41 : Nat) (k : Nat) (x3 : Int32), (x3 = nI k) → (k ≤ n) → (1 ≤ k → 0 ≤ x1) → (v 113 t = -1 → v 114 t = 0) → (sJudge n (v 56) (v 113) (v 114) (w 115) x0 x1 = judF (v 56) (v 113 t) (v 114 t) (w 115) t x1 (n - k) k) → n - k < n41 → ∀ (H : Heap) (locs : List Loc), HS Z gs v w H locs → ∀ ls : Array Slot, lv_has ls 4 [(0, .ref (zg Z 0)), (1, .int x0), (2, .int x1), (3, .int x3)] → W gp gl ge (rmm 1 23) gs gm ga gb gh gc H locs 0 0 (MQ gb (Qi Z (fun r u => r = sJudge n (v 56) (v 113) (v 114) (w 115) x0 x1 ∧ (v, w) = u)) ga gs 0 0 (zA Z)) (F0 gm 41 ls []) := by
        intro n41
        induction n41 with
        | zero => intro k x3 hx3 hk hx0 hts hjf hmu; exact absurd hmu (Nat.not_lt_zero _)
        | succ n41 ih41 =>
          intro k x3 hx3 hk hx0 hts hjf hmu41 H locs h ls hl
          refine lv_iload_n hx hb dX7_judge_41 rfl (lv_at hl 3 rfl) ?_
          refine lv_aload_n hx hb dX7_judge_42 rfl (lv_at hl 0 rfl) ?_
          refine g_getr X h (k := 1) (t := 51) (cc_0) fr_RX7_23 rfl (by decide) (by decide) (by decide) dX7_judge_43 ?_
          refine g_getr X h (k := 0) (t := 52) (cc_51) fr_RX7_62 rfl (by decide) (by decide) (by decide) dX7_judge_46 ?_
          refine g_geti X h (k := 0) (cc_52) fr_RX7_66 rfl (by decide) dX7_judge_49 ?_
          refine lv_icmp_ge (tgt := 112) hx hb dX7_judge_52 (by decide) (fun c_52 => ?_) (fun c_52 => ?_)
          · skip
            have hkn := nI_le1 (a := n) (b := k) hn hx3 (by omega) (by omega) c_52
            refine lv_bipush (v := (-5)) hx hb dX7_judge_112 (by decide) ?_
            exact g_iret X h dX7_judge_114 ⟨by rw [hjf, show n - k = 0 by omega]; rfl, rfl⟩
          · skip
            have hkn := nI_le0 (a := n) (b := k) hn hx3 (by omega) (by omega) c_52
            refine lv_aload_n hx hb dX7_judge_55 rfl (lv_at hl 0 rfl) ?_
            refine g_getr X h (k := 9) (t := 112) (cc_0) fr_RX7_54 rfl (by decide) (by decide) (by decide) dX7_judge_56 ?_
            refine lv_iload_n hx hb dX7_judge_59 rfl (lv_at hl 1 rfl) ?_
            refine lv_iload_n hx hb dX7_judge_60 rfl (lv_at hl 2 rfl) ?_
            refine lv_i2l hx hb dX7_judge_61 rfl ?_
            refine lv_iload_n hx hb dX7_judge_62 rfl (lv_at hl 3 rfl) ?_
            refine lv_i2l hx hb dX7_judge_63 rfl ?_
            refine lv_ladd hx hb dX7_judge_64 ?_
            refine g_ki h (g_runV X h (As := [.int x0, .long ((x1 : Int32).toInt64 + (x3 : Int32).toInt64)]) (rest := []) (c_X4_isPlace gl Z v w x0 t ht ((x1 : Int32).toInt64 + (x3 : Int32).toInt64) (by omega)) mi_X4_isPlace ml_RX7_228 (cc_112) (by decide) kl4 rfl ⟨Nat.le_of_ble_eq_true rfl, Nat.le_of_ble_eq_true rfl⟩ rfl hl.1 rfl (Nat.le_of_ble_eq_true rfl) dX7_judge_65) (fun r65 v65 w65 H locs hp65 h => ?_)
            obtain ⟨hr65, hu65⟩ := hp65; obtain ⟨rfl, rfl⟩ := Prod.mk.inj hu65
            rw [hx3] at hr65
            refine lv_if_ne (tgt := 76) hx hb dX7_judge_68 (by decide) (fun c_68 => ?_) (fun c_68 => ?_)
            · skip
              rw [hr65, bI_n] at c_68
              obtain ⟨kk, hkk, hkk60, hkkc, hnin, -⟩ := jud_at hti (show t < 6 by omega) (show k < 6 by omega) hx0 c_68
              have hks : x1 + x3 = nI (kk + k) := by rw [hkk, hx3]; exact nI_add _ _
              refine lv_aload_n hx hb dX7_judge_76 rfl (lv_at hl 0 rfl) ?_
              refine g_getr X h (k := 9) (t := 112) (cc_0) fr_RX7_54 rfl (by decide) (by decide) (by decide) dX7_judge_77 ?_
              refine lv_iload_n hx hb dX7_judge_80 rfl (lv_at hl 1 rfl) ?_
              refine lv_iload_n hx hb dX7_judge_81 rfl (lv_at hl 2 rfl) ?_
              refine lv_iload_n hx hb dX7_judge_82 rfl (lv_at hl 3 rfl) ?_
              refine lv_iadd hx hb dX7_judge_83 ?_
              refine g_kl h (g_runV X h (As := [.int x0, .int (x1 + x3)]) (rest := []) (c_X4_valueAt gl Z v w x0 t ht (x1 + x3) (kk + k) hks (by omega) (by omega)) mi_X4_valueAt ml_RX7_232 (cc_112) (by decide) kl4 rfl ⟨Nat.le_of_ble_eq_true rfl, Nat.le_of_ble_eq_true rfl⟩ rfl hl.1 rfl (Nat.le_of_ble_eq_true rfl) dX7_judge_84) (fun r84 v84 w84 H locs hp84 h => ?_)
              obtain ⟨hr84, hu84⟩ := hp84; obtain ⟨rfl, rfl⟩ := Prod.mk.inj hu84
              refine lv_aload_n hx hb dX7_judge_87 rfl (lv_at hl 0 rfl) ?_
              refine g_getr X h (k := 1) (t := 51) (cc_0) fr_RX7_23 rfl (by decide) (by decide) (by decide) dX7_judge_88 ?_
              refine g_getr X h (k := 0) (t := 52) (cc_51) fr_RX7_62 rfl (by decide) (by decide) (by decide) dX7_judge_91 ?_
              refine g_getr X h (k := 4) (t := 56) (cc_52) fr_RX7_87 rfl (by decide) (by decide) (by decide) dX7_judge_94 ?_
              refine lv_iload_n hx hb dX7_judge_97 rfl (lv_at hl 3 rfl) ?_
              refine g_iald X h (k := k) (cc_56) hx3 (by omega) (by decide) dX7_judge_98 ?_
              refine lv_i2l hx hb dX7_judge_99 rfl ?_
              refine W.lcmp hx hb dX7_judge_100 ?_
              refine lv_if_eq (tgt := 106) hx hb dX7_judge_101 (by decide) (fun c_101 => ?_) (fun c_101 => ?_)
              · skip
                have heq : w 115 (60 * t + kk + k) = (v 56 k).toInt64 := by rw [Nat.add_assoc, ← hr84]; exact cmp_eq.mp c_101
                refine lv_iinc (v := (x3 + 1)) (lv' := [(3, .int (x3 + 1)), (0, .ref (zg Z 0)), (1, .int x0), (2, .int x1)]) hx hb dX7_judge_106 hl (k := 3) rfl rfl (by decide) rfl (fun ls hl => ?_)
                refine lv_goto (tgt := 41) hx hb dX7_judge_109 (by decide) ?_
                exact ih41 (k + 1) (x3 + 1) (by rw [hx3]; exact nI_1 _) (by omega) (fun _ => by rw [hkk]; exact Int32.not_lt.mp (nI_pos (by omega))) hts (by rw [hjf, show n - k = (n - (k + 1)) + 1 by omega, judF, if_neg hnin, hkkc, if_pos heq]) (by omega) _ _ h ls (lv_sub hl [1, 2, 3, 0] rfl)
              · skip
                have hne : ¬ w 115 (60 * t + kk + k) = (v 56 k).toInt64 := by rw [Nat.add_assoc, ← hr84]; exact fun q => c_101 (cmp_eq.mpr q)
                refine lv_iload_n hx hb dX7_judge_104 rfl (lv_at hl 3 rfl) ?_
                exact g_iret X h dX7_judge_105 ⟨by rw [hjf, show n - k = (n - (k + 1)) + 1 by omega, judF, if_neg hnin, hkkc, if_neg hne]; exact hx3, rfl⟩
            · skip
              rw [hr65, bI_0] at c_68
              refine lv_bipush (v := 100) hx hb dX7_judge_71 (by decide) ?_
              refine lv_iload_n hx hb dX7_judge_73 rfl (lv_at hl 3 rfl) ?_
              refine lv_iadd hx hb dX7_judge_74 ?_
              exact g_iret X h dX7_judge_75 ⟨by rw [hjf, show n - k = (n - (k + 1)) + 1 by omega, jud_no (by omega) hx0 hts c_68, hx3], rfl⟩
      exact L41 (n - 0 + 1) 0 0 rfl (Nat.zero_le _) (fun q => absurd q (by decide)) (fun q => by rcases hti t (by omega) with ⟨-, e⟩ | ⟨s, z, hs, -, e, -⟩; exact e; exact absurd q (fun q => absurd (e.symm.trans q) (by intro q2; have := congrArg Int32.toInt q2; rw [nI_toInt (by omega)] at this; have e1 : (-1 : Int32).toInt = -1 := rfl; omega))) (by rw [sJudge, if_pos c_8, htc, if_pos (by first | exact Or.inl (of_decide_eq_true c_21) | exact Or.inr (of_decide_eq_true c_33))]; rfl) (Nat.lt_succ_self _) _ _ h ls (lv_sub hl [1, 2, 3, 0] rfl)
    · skip
      rw [hr18, bI_0] at c_21
      refine lv_aload_n hx hb dX7_judge_24 rfl (lv_at hl 0 rfl) ?_
      refine g_getr X h (k := 9) (t := 112) (cc_0) fr_RX7_54 rfl (by decide) (by decide) (by decide) dX7_judge_25 ?_
      refine lv_iload_n hx hb dX7_judge_28 rfl (lv_at hl 1 rfl) ?_
      refine lv_iconst (v := 1) hx hb dX7_judge_29 (by decide) ?_
      refine g_ki h (g_runV X h (As := [.int x0, .int 1]) (rest := []) (c_X4_isOf gl Z v w x0 t ht 1 (by omega)) mi_X4_isOf ml_RX7_225 (cc_112) (by decide) kl4 rfl ⟨Nat.le_of_ble_eq_true rfl, Nat.le_of_ble_eq_true rfl⟩ rfl hl.1 rfl (Nat.le_of_ble_eq_true rfl) dX7_judge_30) (fun r30 v30 w30 H locs hp30 h => ?_)
      obtain ⟨hr30, hu30⟩ := hp30; obtain ⟨rfl, rfl⟩ := Prod.mk.inj hu30
      refine lv_if_ne (tgt := 39) hx hb dX7_judge_33 (by decide) (fun c_33 => ?_) (fun c_33 => ?_)
      · skip
        rw [hr30, bI_n] at c_33
        refine lv_iconst (v := 0) hx hb dX7_judge_39 (by decide) ?_
        refine lv_istore_n (lv' := [(3, .int 0), (0, .ref (zg Z 0)), (1, .int x0), (2, .int x1)]) hx hb dX7_judge_40 rfl hl (by decide) rfl (fun ls hl => ?_)
        have L41 : ∀ (n41 : Nat) (k : Nat) (x3 : Int32), (x3 = nI k) → (k ≤ n) → (1 ≤ k → 0 ≤ x1) → (v 113 t = -1 → v 114 t = 0) → (sJudge n (v 56) (v 113) (v 114) (w 115) x0 x1 = judF (v 56) (v 113 t) (v 114 t) (w 115) t x1 (n - k) k) → n - k < n41 → ∀ (H : Heap) (locs : List Loc), HS Z gs v w H locs → ∀ ls : Array Slot, lv_has ls 4 [(0, .ref (zg Z 0)), (1, .int x0), (2, .int x1), (3, .int x3)] → W gp gl ge (rmm 1 23) gs gm ga gb gh gc H locs 0 0 (MQ gb (Qi Z (fun r u => r = sJudge n (v 56) (v 113) (v 114) (w 115) x0 x1 ∧ (v, w) = u)) ga gs 0 0 (zA Z)) (F0 gm 41 ls []) := by
          intro n41
          induction n41 with
          | zero => intro k x3 hx3 hk hx0 hts hjf hmu; exact absurd hmu (Nat.not_lt_zero _)
          | succ n41 ih41 =>
            intro k x3 hx3 hk hx0 hts hjf hmu41 H locs h ls hl
            refine lv_iload_n hx hb dX7_judge_41 rfl (lv_at hl 3 rfl) ?_
            refine lv_aload_n hx hb dX7_judge_42 rfl (lv_at hl 0 rfl) ?_
            refine g_getr X h (k := 1) (t := 51) (cc_0) fr_RX7_23 rfl (by decide) (by decide) (by decide) dX7_judge_43 ?_
            refine g_getr X h (k := 0) (t := 52) (cc_51) fr_RX7_62 rfl (by decide) (by decide) (by decide) dX7_judge_46 ?_
            refine g_geti X h (k := 0) (cc_52) fr_RX7_66 rfl (by decide) dX7_judge_49 ?_
            refine lv_icmp_ge (tgt := 112) hx hb dX7_judge_52 (by decide) (fun c_52 => ?_) (fun c_52 => ?_)
            · skip
              have hkn := nI_le1 (a := n) (b := k) hn hx3 (by omega) (by omega) c_52
              refine lv_bipush (v := (-5)) hx hb dX7_judge_112 (by decide) ?_
              exact g_iret X h dX7_judge_114 ⟨by rw [hjf, show n - k = 0 by omega]; rfl, rfl⟩
            · skip
              have hkn := nI_le0 (a := n) (b := k) hn hx3 (by omega) (by omega) c_52
              refine lv_aload_n hx hb dX7_judge_55 rfl (lv_at hl 0 rfl) ?_
              refine g_getr X h (k := 9) (t := 112) (cc_0) fr_RX7_54 rfl (by decide) (by decide) (by decide) dX7_judge_56 ?_
              refine lv_iload_n hx hb dX7_judge_59 rfl (lv_at hl 1 rfl) ?_
              refine lv_iload_n hx hb dX7_judge_60 rfl (lv_at hl 2 rfl) ?_
              refine lv_i2l hx hb dX7_judge_61 rfl ?_
              refine lv_iload_n hx hb dX7_judge_62 rfl (lv_at hl 3 rfl) ?_
              refine lv_i2l hx hb dX7_judge_63 rfl ?_
              refine lv_ladd hx hb dX7_judge_64 ?_
              refine g_ki h (g_runV X h (As := [.int x0, .long ((x1 : Int32).toInt64 + (x3 : Int32).toInt64)]) (rest := []) (c_X4_isPlace gl Z v w x0 t ht ((x1 : Int32).toInt64 + (x3 : Int32).toInt64) (by omega)) mi_X4_isPlace ml_RX7_228 (cc_112) (by decide) kl4 rfl ⟨Nat.le_of_ble_eq_true rfl, Nat.le_of_ble_eq_true rfl⟩ rfl hl.1 rfl (Nat.le_of_ble_eq_true rfl) dX7_judge_65) (fun r65 v65 w65 H locs hp65 h => ?_)
              obtain ⟨hr65, hu65⟩ := hp65; obtain ⟨rfl, rfl⟩ := Prod.mk.inj hu65
              rw [hx3] at hr65
              refine lv_if_ne (tgt := 76) hx hb dX7_judge_68 (by decide) (fun c_68 => ?_) (fun c_68 => ?_)
              · skip
                rw [hr65, bI_n] at c_68
                obtain ⟨kk, hkk, hkk60, hkkc, hnin, -⟩ := jud_at hti (show t < 6 by omega) (show k < 6 by omega) hx0 c_68
                have hks : x1 + x3 = nI (kk + k) := by rw [hkk, hx3]; exact nI_add _ _
                refine lv_aload_n hx hb dX7_judge_76 rfl (lv_at hl 0 rfl) ?_
                refine g_getr X h (k := 9) (t := 112) (cc_0) fr_RX7_54 rfl (by decide) (by decide) (by decide) dX7_judge_77 ?_
                refine lv_iload_n hx hb dX7_judge_80 rfl (lv_at hl 1 rfl) ?_
                refine lv_iload_n hx hb dX7_judge_81 rfl (lv_at hl 2 rfl) ?_
                refine lv_iload_n hx hb dX7_judge_82 rfl (lv_at hl 3 rfl) ?_
                refine lv_iadd hx hb dX7_judge_83 ?_
                refine g_kl h (g_runV X h (As := [.int x0, .int (x1 + x3)]) (rest := []) (c_X4_valueAt gl Z v w x0 t ht (x1 + x3) (kk + k) hks (by omega) (by omega)) mi_X4_valueAt ml_RX7_232 (cc_112) (by decide) kl4 rfl ⟨Nat.le_of_ble_eq_true rfl, Nat.le_of_ble_eq_true rfl⟩ rfl hl.1 rfl (Nat.le_of_ble_eq_true rfl) dX7_judge_84) (fun r84 v84 w84 H locs hp84 h => ?_)
                obtain ⟨hr84, hu84⟩ := hp84; obtain ⟨rfl, rfl⟩ := Prod.mk.inj hu84
                refine lv_aload_n hx hb dX7_judge_87 rfl (lv_at hl 0 rfl) ?_
                refine g_getr X h (k := 1) (t := 51) (cc_0) fr_RX7_23 rfl (by decide) (by decide) (by decide) dX7_judge_88 ?_
                refine g_getr X h (k := 0) (t := 52) (cc_51) fr_RX7_62 rfl (by decide) (by decide) (by decide) dX7_judge_91 ?_
                refine g_getr X h (k := 4) (t := 56) (cc_52) fr_RX7_87 rfl (by decide) (by decide) (by decide) dX7_judge_94 ?_
                refine lv_iload_n hx hb dX7_judge_97 rfl (lv_at hl 3 rfl) ?_
                refine g_iald X h (k := k) (cc_56) hx3 (by omega) (by decide) dX7_judge_98 ?_
                refine lv_i2l hx hb dX7_judge_99 rfl ?_
                refine W.lcmp hx hb dX7_judge_100 ?_
                refine lv_if_eq (tgt := 106) hx hb dX7_judge_101 (by decide) (fun c_101 => ?_) (fun c_101 => ?_)
                · skip
                  have heq : w 115 (60 * t + kk + k) = (v 56 k).toInt64 := by rw [Nat.add_assoc, ← hr84]; exact cmp_eq.mp c_101
                  refine lv_iinc (v := (x3 + 1)) (lv' := [(3, .int (x3 + 1)), (0, .ref (zg Z 0)), (1, .int x0), (2, .int x1)]) hx hb dX7_judge_106 hl (k := 3) rfl rfl (by decide) rfl (fun ls hl => ?_)
                  refine lv_goto (tgt := 41) hx hb dX7_judge_109 (by decide) ?_
                  exact ih41 (k + 1) (x3 + 1) (by rw [hx3]; exact nI_1 _) (by omega) (fun _ => by rw [hkk]; exact Int32.not_lt.mp (nI_pos (by omega))) hts (by rw [hjf, show n - k = (n - (k + 1)) + 1 by omega, judF, if_neg hnin, hkkc, if_pos heq]) (by omega) _ _ h ls (lv_sub hl [1, 2, 3, 0] rfl)
                · skip
                  have hne : ¬ w 115 (60 * t + kk + k) = (v 56 k).toInt64 := by rw [Nat.add_assoc, ← hr84]; exact fun q => c_101 (cmp_eq.mpr q)
                  refine lv_iload_n hx hb dX7_judge_104 rfl (lv_at hl 3 rfl) ?_
                  exact g_iret X h dX7_judge_105 ⟨by rw [hjf, show n - k = (n - (k + 1)) + 1 by omega, judF, if_neg hnin, hkkc, if_neg hne]; exact hx3, rfl⟩
              · skip
                rw [hr65, bI_0] at c_68
                refine lv_bipush (v := 100) hx hb dX7_judge_71 (by decide) ?_
                refine lv_iload_n hx hb dX7_judge_73 rfl (lv_at hl 3 rfl) ?_
                refine lv_iadd hx hb dX7_judge_74 ?_
                exact g_iret X h dX7_judge_75 ⟨by rw [hjf, show n - k = (n - (k + 1)) + 1 by omega, jud_no (by omega) hx0 hts c_68, hx3], rfl⟩
        exact L41 (n - 0 + 1) 0 0 rfl (Nat.zero_le _) (fun q => absurd q (by decide)) (fun q => by rcases hti t (by omega) with ⟨-, e⟩ | ⟨s, z, hs, -, e, -⟩; exact e; exact absurd q (fun q => absurd (e.symm.trans q) (by intro q2; have := congrArg Int32.toInt q2; rw [nI_toInt (by omega)] at this; have e1 : (-1 : Int32).toInt = -1 := rfl; omega))) (by rw [sJudge, if_pos c_8, htc, if_pos (by first | exact Or.inl (of_decide_eq_true c_21) | exact Or.inr (of_decide_eq_true c_33))]; rfl) (Nat.lt_succ_self _) _ _ h ls (lv_sub hl [1, 2, 3, 0] rfl)
      · skip
        rw [hr30, bI_0] at c_33
        refine lv_bipush (v := (-12)) hx hb dX7_judge_36 (by decide) ?_
        exact g_iret X h dX7_judge_38 ⟨by rw [sJudge, if_pos c_8, htc, if_neg (by rintro (q | q); exact of_decide_eq_false c_21 q; exact of_decide_eq_false c_33 q)], rfl⟩
  · skip
    rw [hr5, bI_0] at c_8
    refine lv_iconst (v := (-1)) hx hb dX7_judge_11 (by decide) ?_
    exact g_iret X h dX7_judge_12 ⟨by simp [sJudge, c_8], rfl⟩

set_option maxRecDepth 100000 in
set_option maxHeartbeats 1000000 in
theorem c_X0_forget (gl : Launch) (Z : PL) (v : VV) (w : WV) : CT gl yX0_forget cX0_forget 1 none 0 0 Z [.ref (zg Z 110)] v w (Qv Z (fun u => (up2 v 110 1 0, w) = u)) := by
  refine g_met (by decide) (Nat.le_of_ble_eq_true rfl) ?_
  intro gp ge gs gm ga gb gh gc X h ls hl
  have hx := X.1
  have hb := X.2.1
  have hl : lv_has ls 1 [(0, .ref (zg Z 110))] := hl
  refine lv_aload_n hx hb dX0_forget_0 rfl (lv_at hl 0 rfl) ?_
  refine lv_iconst (v := 0) hx hb dX0_forget_1 (by decide) ?_
  refine g_puti X h (k := 1) (cc_110) fp_RX0_15 rfl (by decide) dX0_forget_2 (fun v2 H locs ev2 h => ?_)
  exact g_vret X h dX0_forget_5 (by rw [ev2])

set_option maxRecDepth 100000 in
set_option maxHeartbeats 1000000 in
theorem c_X0_keptBodies (gl : Launch) (Z : PL) (v : VV) (w : WV) (t : Nat) (htr : v 110 1 = nI t) (ht9 : t < 1000) : CT gl yX0_keptBodies cX0_keptBodies 1 (some .int) 1 21 Z [.ref (zg Z 110)] v w (Qi Z (fun r u => r = nI (min t 20) ∧ (v, w) = u)) := by
  refine g_met (by decide) (Nat.le_of_ble_eq_true rfl) ?_
  intro gp ge gs gm ga gb gh gc X h ls hl
  have hx := X.1
  have hb := X.2.1
  have hl : lv_has ls 1 [(0, .ref (zg Z 110))] := hl
  refine lv_aload_n hx hb dX0_keptBodies_0 rfl (lv_at hl 0 rfl) ?_
  refine g_geti X h (k := 1) (cc_110) fr_RX0_15 rfl (by decide) dX0_keptBodies_1 ?_
  refine lv_bipush (v := 20) hx hb dX0_keptBodies_4 (by decide) ?_
  refine g_min X hl.1 ml_RX0_19 ⟨Nat.le_of_ble_eq_true rfl, Nat.le_of_ble_eq_true rfl⟩ (Nat.le_of_ble_eq_true rfl) dX0_keptBodies_6 ?_
  exact g_iret X h dX0_keptBodies_9 ⟨by rw [← min20 htr ht9]; exact min20c, rfl⟩

set_option maxRecDepth 100000 in
set_option maxHeartbeats 1000000 in
theorem c_X0_note (gl : Launch) (Z : PL) (v : VV) (w : WV) (x0 : Int32) (t : Nat) (htr : v 110 1 = nI t) (ht9 : t < 1000) : CT gl yX0_note cX0_note 2 none 0 0 Z [.ref (zg Z 110), .int x0] v w (Qv Z (fun u => (ranC v t x0, w) = u)) := by
  refine g_met (by decide) (Nat.le_of_ble_eq_true rfl) ?_
  intro gp ge gs gm ga gb gh gc X h ls hl
  have hx := X.1
  have hb := X.2.1
  have hl : lv_has ls 2 [(0, .ref (zg Z 110)), (1, .int x0)] := hl
  refine lv_aload_n hx hb dX0_note_0 rfl (lv_at hl 0 rfl) ?_
  refine g_geti X h (k := 1) (cc_110) fr_RX0_15 rfl (by decide) dX0_note_1 ?_
  refine lv_bipush (v := 20) hx hb dX0_note_4 (by decide) ?_
  refine lv_icmp_ge (tgt := 19) hx hb dX0_note_6 (by decide) (fun c_6 => ?_) (fun c_6 => ?_)
  · skip
    have ht20 := nI_le1 (a := 20) (b := t) rfl htr (by omega) (by omega) c_6
    refine lv_aload_n hx hb dX0_note_19 rfl (lv_at hl 0 rfl) ?_
    refine lv_dup hx hb dX0_note_20 rfl ?_
    refine g_geti X h (k := 1) (cc_110) fr_RX0_15 rfl (by decide) dX0_note_21 ?_
    refine lv_iconst (v := 1) hx hb dX0_note_24 (by decide) ?_
    refine lv_iadd hx hb dX0_note_25 ?_
    refine g_puti X h (k := 1) (cc_110) fp_RX0_15 rfl (by decide) dX0_note_26 (fun v26 H locs ev26 h => ?_)
    exact g_vret X h dX0_note_29 (by refine congrArg (fun z => (z, w)) ?_; rw [ranC, if_neg (by omega), ev26, htr, nI_1])
  · skip
    have ht20 := nI_le0 (a := 20) (b := t) rfl htr (by omega) (by omega) c_6
    refine lv_aload_n hx hb dX0_note_9 rfl (lv_at hl 0 rfl) ?_
    refine g_getr X h (k := 0) (t := 111) (cc_110) fr_RX0_11 rfl (by decide) (by decide) (by decide) dX0_note_10 ?_
    refine lv_aload_n hx hb dX0_note_13 rfl (lv_at hl 0 rfl) ?_
    refine g_geti X h (k := 1) (cc_110) fr_RX0_15 rfl (by decide) dX0_note_14 ?_
    refine lv_iload_n hx hb dX0_note_17 rfl (lv_at hl 1 rfl) ?_
    refine g_iast X h (k := t) (cc_111) htr (by omega) (by decide) dX0_note_18 (fun v18 H locs ev18 h => ?_)
    refine lv_aload_n hx hb dX0_note_19 rfl (lv_at hl 0 rfl) ?_
    refine lv_dup hx hb dX0_note_20 rfl ?_
    refine g_geti X h (k := 1) (cc_110) fr_RX0_15 rfl (by decide) dX0_note_21 ?_
    refine g_tr (y := (v 110 1)) (by rw [ev18, up2_ne (by omega)]) ?_
    refine lv_iconst (v := 1) hx hb dX0_note_24 (by decide) ?_
    refine lv_iadd hx hb dX0_note_25 ?_
    refine g_puti X h (k := 1) (cc_110) fp_RX0_15 rfl (by decide) dX0_note_26 (fun v26 H locs ev26 h => ?_)
    exact g_vret X h dX0_note_29 (by refine congrArg (fun z => (z, w)) ?_; rw [ranC, if_pos ht20, ev26, ev18, htr, nI_1])

set_option maxRecDepth 100000 in
set_option maxHeartbeats 1000000 in
theorem c_X0_holderOf_00 (gl : Launch) (Z : PL) (v : VV) (w : WV) : CT gl yX0_holderOf cX0_holderOf 4 (some .int) 0 0 Z [.int 0, .int 0] v w (Qi Z (fun r u => r = 0 ∧ (v, w) = u)) := by
  refine g_met (by decide) (Nat.le_of_ble_eq_true rfl) ?_
  intro gp ge gs gm ga gb gh gc X h ls hl
  have hx := X.1
  have hb := X.2.1
  have hl : lv_has ls 4 [(0, .int 0), (1, .int 0)] := hl
  refine lv_iload_n hx hb dX0_holderOf_0 rfl (lv_at hl 0 rfl) ?_
  refine lv_istore_n (lv' := [(2, .int 0), (0, .int 0), (1, .int 0)]) hx hb dX0_holderOf_1 rfl hl (by decide) rfl (fun ls hl => ?_)
  refine lv_iconst (v := 0) hx hb dX0_holderOf_2 (by decide) ?_
  refine lv_istore_n (lv' := [(3, .int 0), (2, .int 0), (0, .int 0), (1, .int 0)]) hx hb dX0_holderOf_3 rfl hl (by decide) rfl (fun ls hl => ?_)
  refine lv_iload_n hx hb dX0_holderOf_4 rfl (lv_at hl 0 rfl) ?_
  refine lv_bipush (v := 7) hx hb dX0_holderOf_5 (by decide) ?_
  refine lv_icmp_ge (tgt := 46) hx hb dX0_holderOf_7 (by decide) (fun q => absurd q (by decide)) (fun _ => ?_)
  refine lv_iload_n hx hb dX0_holderOf_10 rfl (lv_at hl 1 rfl) ?_
  refine lv_if_le (tgt := 46) hx hb dX0_holderOf_11 (by decide) (fun _ => ?_) (fun q => absurd q (by decide))
  refine lv_iconst (v := 0) hx hb dX0_holderOf_46 (by decide) ?_
  exact g_iret X h dX0_holderOf_47 ⟨rfl, rfl⟩

set_option maxRecDepth 100000 in
set_option maxHeartbeats 1000000 in
theorem c_X0_holderOf_01 (gl : Launch) (Z : PL) (v : VV) (w : WV) : CT gl yX0_holderOf cX0_holderOf 4 (some .int) 0 0 Z [.int 0, .int 1] v w (Qi Z (fun r u => r = 0 ∧ (v, w) = u)) := by
  refine g_met (by decide) (Nat.le_of_ble_eq_true rfl) ?_
  intro gp ge gs gm ga gb gh gc X h ls hl
  have hx := X.1
  have hb := X.2.1
  have hl : lv_has ls 4 [(0, .int 0), (1, .int 1)] := hl
  refine lv_iload_n hx hb dX0_holderOf_0 rfl (lv_at hl 0 rfl) ?_
  refine lv_istore_n (lv' := [(2, .int 0), (0, .int 0), (1, .int 1)]) hx hb dX0_holderOf_1 rfl hl (by decide) rfl (fun ls hl => ?_)
  refine lv_iconst (v := 0) hx hb dX0_holderOf_2 (by decide) ?_
  refine lv_istore_n (lv' := [(3, .int 0), (2, .int 0), (0, .int 0), (1, .int 1)]) hx hb dX0_holderOf_3 rfl hl (by decide) rfl (fun ls hl => ?_)
  refine lv_iload_n hx hb dX0_holderOf_4 rfl (lv_at hl 0 rfl) ?_
  refine lv_bipush (v := 7) hx hb dX0_holderOf_5 (by decide) ?_
  refine lv_icmp_ge (tgt := 46) hx hb dX0_holderOf_7 (by decide) (fun q => absurd q (by decide)) (fun _ => ?_)
  refine lv_iload_n hx hb dX0_holderOf_10 rfl (lv_at hl 1 rfl) ?_
  refine lv_if_le (tgt := 46) hx hb dX0_holderOf_11 (by decide) (fun _ => ?_) (fun q => absurd q (by decide))
  refine lv_iconst (v := 0) hx hb dX0_holderOf_46 (by decide) ?_
  exact g_iret X h dX0_holderOf_47 ⟨rfl, rfl⟩

set_option maxRecDepth 100000 in
set_option maxHeartbeats 1000000 in
theorem c_X0_holderOf_02 (gl : Launch) (Z : PL) (v : VV) (w : WV) : CT gl yX0_holderOf cX0_holderOf 4 (some .int) 0 0 Z [.int 0, .int 2] v w (Qi Z (fun r u => r = 0 ∧ (v, w) = u)) := by
  refine g_met (by decide) (Nat.le_of_ble_eq_true rfl) ?_
  intro gp ge gs gm ga gb gh gc X h ls hl
  have hx := X.1
  have hb := X.2.1
  have hl : lv_has ls 4 [(0, .int 0), (1, .int 2)] := hl
  refine lv_iload_n hx hb dX0_holderOf_0 rfl (lv_at hl 0 rfl) ?_
  refine lv_istore_n (lv' := [(2, .int 0), (0, .int 0), (1, .int 2)]) hx hb dX0_holderOf_1 rfl hl (by decide) rfl (fun ls hl => ?_)
  refine lv_iconst (v := 0) hx hb dX0_holderOf_2 (by decide) ?_
  refine lv_istore_n (lv' := [(3, .int 0), (2, .int 0), (0, .int 0), (1, .int 2)]) hx hb dX0_holderOf_3 rfl hl (by decide) rfl (fun ls hl => ?_)
  refine lv_iload_n hx hb dX0_holderOf_4 rfl (lv_at hl 0 rfl) ?_
  refine lv_bipush (v := 7) hx hb dX0_holderOf_5 (by decide) ?_
  refine lv_icmp_ge (tgt := 46) hx hb dX0_holderOf_7 (by decide) (fun q => absurd q (by decide)) (fun _ => ?_)
  refine lv_iload_n hx hb dX0_holderOf_10 rfl (lv_at hl 1 rfl) ?_
  refine lv_if_le (tgt := 46) hx hb dX0_holderOf_11 (by decide) (fun _ => ?_) (fun q => absurd q (by decide))
  refine lv_iconst (v := 0) hx hb dX0_holderOf_46 (by decide) ?_
  exact g_iret X h dX0_holderOf_47 ⟨rfl, rfl⟩

set_option maxRecDepth 100000 in
set_option maxHeartbeats 1000000 in
theorem c_X0_holderOf_10 (gl : Launch) (Z : PL) (v : VV) (w : WV) : CT gl yX0_holderOf cX0_holderOf 4 (some .int) 0 0 Z [.int 1, .int 0] v w (Qi Z (fun r u => r = 0 ∧ (v, w) = u)) := by
  refine g_met (by decide) (Nat.le_of_ble_eq_true rfl) ?_
  intro gp ge gs gm ga gb gh gc X h ls hl
  have hx := X.1
  have hb := X.2.1
  have hl : lv_has ls 4 [(0, .int 1), (1, .int 0)] := hl
  refine lv_iload_n hx hb dX0_holderOf_0 rfl (lv_at hl 0 rfl) ?_
  refine lv_istore_n (lv' := [(2, .int 1), (0, .int 1), (1, .int 0)]) hx hb dX0_holderOf_1 rfl hl (by decide) rfl (fun ls hl => ?_)
  refine lv_iconst (v := 0) hx hb dX0_holderOf_2 (by decide) ?_
  refine lv_istore_n (lv' := [(3, .int 0), (2, .int 1), (0, .int 1), (1, .int 0)]) hx hb dX0_holderOf_3 rfl hl (by decide) rfl (fun ls hl => ?_)
  refine lv_iload_n hx hb dX0_holderOf_4 rfl (lv_at hl 0 rfl) ?_
  refine lv_bipush (v := 7) hx hb dX0_holderOf_5 (by decide) ?_
  refine lv_icmp_ge (tgt := 46) hx hb dX0_holderOf_7 (by decide) (fun q => absurd q (by decide)) (fun _ => ?_)
  refine lv_iload_n hx hb dX0_holderOf_10 rfl (lv_at hl 1 rfl) ?_
  refine lv_if_le (tgt := 46) hx hb dX0_holderOf_11 (by decide) (fun q => absurd q (by decide)) (fun _ => ?_)
  refine lv_iload_n hx hb dX0_holderOf_14 rfl (lv_at hl 1 rfl) ?_
  refine lv_bipush (v := 7) hx hb dX0_holderOf_15 (by decide) ?_
  refine lv_icmp_ge (tgt := 46) hx hb dX0_holderOf_17 (by decide) (fun q => absurd q (by decide)) (fun _ => ?_)
  refine g_st_BODY X h dX0_holderOf_20 ?_
  refine lv_iload_n hx hb dX0_holderOf_23 rfl (lv_at hl 1 rfl) ?_
  refine lv_iconst (v := 3) hx hb dX0_holderOf_24 (by decide) ?_
  refine lv_imul hx hb dX0_holderOf_25 ?_
  refine g_tr (y := 3) (by decide) ?_
  refine lv_iload_n hx hb dX0_holderOf_26 rfl (lv_at hl 3 rfl) ?_
  refine lv_iadd hx hb dX0_holderOf_27 ?_
  refine g_tr (y := 3) (by decide) ?_
  refine g_tab1 X h (k := 3) rfl (by decide) dX0_holderOf_28 ?_
  refine g_tr (y := 0) rfl ?_
  refine lv_if_eq (tgt := 34) hx hb dX0_holderOf_29 (by decide) (fun _ => ?_) (fun q => absurd q (by decide))
  refine g_st_ABOVEN X h dX0_holderOf_34 ?_
  refine lv_iload_n hx hb dX0_holderOf_37 rfl (lv_at hl 1 rfl) ?_
  refine g_tab0 X h (k := 1) rfl (by decide) dX0_holderOf_38 ?_
  refine g_tr (y := 0) rfl ?_
  refine lv_istore_n (lv' := [(2, .int 0), (3, .int 0), (0, .int 1), (1, .int 0)]) hx hb dX0_holderOf_39 rfl hl (by decide) rfl (fun ls hl => ?_)
  refine lv_iinc (v := 1) (lv' := [(3, .int 1), (2, .int 0), (0, .int 1), (1, .int 0)]) hx hb dX0_holderOf_40 hl (k := 1) rfl rfl (by decide) rfl (fun ls hl => ?_)
  refine lv_goto (tgt := 4) hx hb dX0_holderOf_43 (by decide) ?_
  refine lv_iload_n hx hb dX0_holderOf_4 rfl (lv_at hl 0 rfl) ?_
  refine lv_bipush (v := 7) hx hb dX0_holderOf_5 (by decide) ?_
  refine lv_icmp_ge (tgt := 46) hx hb dX0_holderOf_7 (by decide) (fun q => absurd q (by decide)) (fun _ => ?_)
  refine lv_iload_n hx hb dX0_holderOf_10 rfl (lv_at hl 1 rfl) ?_
  refine lv_if_le (tgt := 46) hx hb dX0_holderOf_11 (by decide) (fun _ => ?_) (fun q => absurd q (by decide))
  refine lv_iconst (v := 0) hx hb dX0_holderOf_46 (by decide) ?_
  exact g_iret X h dX0_holderOf_47 ⟨rfl, rfl⟩

set_option maxRecDepth 100000 in
set_option maxHeartbeats 1000000 in
theorem c_X0_holderOf_11 (gl : Launch) (Z : PL) (v : VV) (w : WV) : CT gl yX0_holderOf cX0_holderOf 4 (some .int) 0 0 Z [.int 1, .int 1] v w (Qi Z (fun r u => r = 1 ∧ (v, w) = u)) := by
  refine g_met (by decide) (Nat.le_of_ble_eq_true rfl) ?_
  intro gp ge gs gm ga gb gh gc X h ls hl
  have hx := X.1
  have hb := X.2.1
  have hl : lv_has ls 4 [(0, .int 1), (1, .int 1)] := hl
  refine lv_iload_n hx hb dX0_holderOf_0 rfl (lv_at hl 0 rfl) ?_
  refine lv_istore_n (lv' := [(2, .int 1), (0, .int 1), (1, .int 1)]) hx hb dX0_holderOf_1 rfl hl (by decide) rfl (fun ls hl => ?_)
  refine lv_iconst (v := 0) hx hb dX0_holderOf_2 (by decide) ?_
  refine lv_istore_n (lv' := [(3, .int 0), (2, .int 1), (0, .int 1), (1, .int 1)]) hx hb dX0_holderOf_3 rfl hl (by decide) rfl (fun ls hl => ?_)
  refine lv_iload_n hx hb dX0_holderOf_4 rfl (lv_at hl 0 rfl) ?_
  refine lv_bipush (v := 7) hx hb dX0_holderOf_5 (by decide) ?_
  refine lv_icmp_ge (tgt := 46) hx hb dX0_holderOf_7 (by decide) (fun q => absurd q (by decide)) (fun _ => ?_)
  refine lv_iload_n hx hb dX0_holderOf_10 rfl (lv_at hl 1 rfl) ?_
  refine lv_if_le (tgt := 46) hx hb dX0_holderOf_11 (by decide) (fun q => absurd q (by decide)) (fun _ => ?_)
  refine lv_iload_n hx hb dX0_holderOf_14 rfl (lv_at hl 1 rfl) ?_
  refine lv_bipush (v := 7) hx hb dX0_holderOf_15 (by decide) ?_
  refine lv_icmp_ge (tgt := 46) hx hb dX0_holderOf_17 (by decide) (fun q => absurd q (by decide)) (fun _ => ?_)
  refine g_st_BODY X h dX0_holderOf_20 ?_
  refine lv_iload_n hx hb dX0_holderOf_23 rfl (lv_at hl 1 rfl) ?_
  refine lv_iconst (v := 3) hx hb dX0_holderOf_24 (by decide) ?_
  refine lv_imul hx hb dX0_holderOf_25 ?_
  refine g_tr (y := 3) (by decide) ?_
  refine lv_iload_n hx hb dX0_holderOf_26 rfl (lv_at hl 3 rfl) ?_
  refine lv_iadd hx hb dX0_holderOf_27 ?_
  refine g_tr (y := 4) (by decide) ?_
  refine g_tab1 X h (k := 4) rfl (by decide) dX0_holderOf_28 ?_
  refine g_tr (y := 20) rfl ?_
  refine lv_if_eq (tgt := 34) hx hb dX0_holderOf_29 (by decide) (fun q => absurd q (by decide)) (fun _ => ?_)
  refine lv_iload_n hx hb dX0_holderOf_32 rfl (lv_at hl 1 rfl) ?_
  exact g_iret X h dX0_holderOf_33 ⟨rfl, rfl⟩

set_option maxRecDepth 100000 in
set_option maxHeartbeats 1000000 in
theorem c_X0_holderOf_12 (gl : Launch) (Z : PL) (v : VV) (w : WV) : CT gl yX0_holderOf cX0_holderOf 4 (some .int) 0 0 Z [.int 1, .int 2] v w (Qi Z (fun r u => r = 0 ∧ (v, w) = u)) := by
  refine g_met (by decide) (Nat.le_of_ble_eq_true rfl) ?_
  intro gp ge gs gm ga gb gh gc X h ls hl
  have hx := X.1
  have hb := X.2.1
  have hl : lv_has ls 4 [(0, .int 1), (1, .int 2)] := hl
  refine lv_iload_n hx hb dX0_holderOf_0 rfl (lv_at hl 0 rfl) ?_
  refine lv_istore_n (lv' := [(2, .int 1), (0, .int 1), (1, .int 2)]) hx hb dX0_holderOf_1 rfl hl (by decide) rfl (fun ls hl => ?_)
  refine lv_iconst (v := 0) hx hb dX0_holderOf_2 (by decide) ?_
  refine lv_istore_n (lv' := [(3, .int 0), (2, .int 1), (0, .int 1), (1, .int 2)]) hx hb dX0_holderOf_3 rfl hl (by decide) rfl (fun ls hl => ?_)
  refine lv_iload_n hx hb dX0_holderOf_4 rfl (lv_at hl 0 rfl) ?_
  refine lv_bipush (v := 7) hx hb dX0_holderOf_5 (by decide) ?_
  refine lv_icmp_ge (tgt := 46) hx hb dX0_holderOf_7 (by decide) (fun q => absurd q (by decide)) (fun _ => ?_)
  refine lv_iload_n hx hb dX0_holderOf_10 rfl (lv_at hl 1 rfl) ?_
  refine lv_if_le (tgt := 46) hx hb dX0_holderOf_11 (by decide) (fun q => absurd q (by decide)) (fun _ => ?_)
  refine lv_iload_n hx hb dX0_holderOf_14 rfl (lv_at hl 1 rfl) ?_
  refine lv_bipush (v := 7) hx hb dX0_holderOf_15 (by decide) ?_
  refine lv_icmp_ge (tgt := 46) hx hb dX0_holderOf_17 (by decide) (fun q => absurd q (by decide)) (fun _ => ?_)
  refine g_st_BODY X h dX0_holderOf_20 ?_
  refine lv_iload_n hx hb dX0_holderOf_23 rfl (lv_at hl 1 rfl) ?_
  refine lv_iconst (v := 3) hx hb dX0_holderOf_24 (by decide) ?_
  refine lv_imul hx hb dX0_holderOf_25 ?_
  refine g_tr (y := 3) (by decide) ?_
  refine lv_iload_n hx hb dX0_holderOf_26 rfl (lv_at hl 3 rfl) ?_
  refine lv_iadd hx hb dX0_holderOf_27 ?_
  refine g_tr (y := 5) (by decide) ?_
  refine g_tab1 X h (k := 5) rfl (by decide) dX0_holderOf_28 ?_
  refine g_tr (y := 0) rfl ?_
  refine lv_if_eq (tgt := 34) hx hb dX0_holderOf_29 (by decide) (fun _ => ?_) (fun q => absurd q (by decide))
  refine g_st_ABOVEN X h dX0_holderOf_34 ?_
  refine lv_iload_n hx hb dX0_holderOf_37 rfl (lv_at hl 1 rfl) ?_
  refine g_tab0 X h (k := 1) rfl (by decide) dX0_holderOf_38 ?_
  refine g_tr (y := 0) rfl ?_
  refine lv_istore_n (lv' := [(2, .int 0), (3, .int 0), (0, .int 1), (1, .int 2)]) hx hb dX0_holderOf_39 rfl hl (by decide) rfl (fun ls hl => ?_)
  refine lv_iinc (v := 1) (lv' := [(3, .int 1), (2, .int 0), (0, .int 1), (1, .int 2)]) hx hb dX0_holderOf_40 hl (k := 1) rfl rfl (by decide) rfl (fun ls hl => ?_)
  refine lv_goto (tgt := 4) hx hb dX0_holderOf_43 (by decide) ?_
  refine lv_iload_n hx hb dX0_holderOf_4 rfl (lv_at hl 0 rfl) ?_
  refine lv_bipush (v := 7) hx hb dX0_holderOf_5 (by decide) ?_
  refine lv_icmp_ge (tgt := 46) hx hb dX0_holderOf_7 (by decide) (fun q => absurd q (by decide)) (fun _ => ?_)
  refine lv_iload_n hx hb dX0_holderOf_10 rfl (lv_at hl 1 rfl) ?_
  refine lv_if_le (tgt := 46) hx hb dX0_holderOf_11 (by decide) (fun _ => ?_) (fun q => absurd q (by decide))
  refine lv_iconst (v := 0) hx hb dX0_holderOf_46 (by decide) ?_
  exact g_iret X h dX0_holderOf_47 ⟨rfl, rfl⟩

set_option maxRecDepth 100000 in
set_option maxHeartbeats 1000000 in
theorem c_X0_holderOf_20 (gl : Launch) (Z : PL) (v : VV) (w : WV) : CT gl yX0_holderOf cX0_holderOf 4 (some .int) 0 0 Z [.int 2, .int 0] v w (Qi Z (fun r u => r = 2 ∧ (v, w) = u)) := by
  refine g_met (by decide) (Nat.le_of_ble_eq_true rfl) ?_
  intro gp ge gs gm ga gb gh gc X h ls hl
  have hx := X.1
  have hb := X.2.1
  have hl : lv_has ls 4 [(0, .int 2), (1, .int 0)] := hl
  refine lv_iload_n hx hb dX0_holderOf_0 rfl (lv_at hl 0 rfl) ?_
  refine lv_istore_n (lv' := [(2, .int 2), (0, .int 2), (1, .int 0)]) hx hb dX0_holderOf_1 rfl hl (by decide) rfl (fun ls hl => ?_)
  refine lv_iconst (v := 0) hx hb dX0_holderOf_2 (by decide) ?_
  refine lv_istore_n (lv' := [(3, .int 0), (2, .int 2), (0, .int 2), (1, .int 0)]) hx hb dX0_holderOf_3 rfl hl (by decide) rfl (fun ls hl => ?_)
  refine lv_iload_n hx hb dX0_holderOf_4 rfl (lv_at hl 0 rfl) ?_
  refine lv_bipush (v := 7) hx hb dX0_holderOf_5 (by decide) ?_
  refine lv_icmp_ge (tgt := 46) hx hb dX0_holderOf_7 (by decide) (fun q => absurd q (by decide)) (fun _ => ?_)
  refine lv_iload_n hx hb dX0_holderOf_10 rfl (lv_at hl 1 rfl) ?_
  refine lv_if_le (tgt := 46) hx hb dX0_holderOf_11 (by decide) (fun q => absurd q (by decide)) (fun _ => ?_)
  refine lv_iload_n hx hb dX0_holderOf_14 rfl (lv_at hl 1 rfl) ?_
  refine lv_bipush (v := 7) hx hb dX0_holderOf_15 (by decide) ?_
  refine lv_icmp_ge (tgt := 46) hx hb dX0_holderOf_17 (by decide) (fun q => absurd q (by decide)) (fun _ => ?_)
  refine g_st_BODY X h dX0_holderOf_20 ?_
  refine lv_iload_n hx hb dX0_holderOf_23 rfl (lv_at hl 1 rfl) ?_
  refine lv_iconst (v := 3) hx hb dX0_holderOf_24 (by decide) ?_
  refine lv_imul hx hb dX0_holderOf_25 ?_
  refine g_tr (y := 6) (by decide) ?_
  refine lv_iload_n hx hb dX0_holderOf_26 rfl (lv_at hl 3 rfl) ?_
  refine lv_iadd hx hb dX0_holderOf_27 ?_
  refine g_tr (y := 6) (by decide) ?_
  refine g_tab1 X h (k := 6) rfl (by decide) dX0_holderOf_28 ?_
  refine g_tr (y := 30) rfl ?_
  refine lv_if_eq (tgt := 34) hx hb dX0_holderOf_29 (by decide) (fun q => absurd q (by decide)) (fun _ => ?_)
  refine lv_iload_n hx hb dX0_holderOf_32 rfl (lv_at hl 1 rfl) ?_
  exact g_iret X h dX0_holderOf_33 ⟨rfl, rfl⟩

set_option maxRecDepth 100000 in
set_option maxHeartbeats 1000000 in
theorem c_X0_holderOf_21 (gl : Launch) (Z : PL) (v : VV) (w : WV) : CT gl yX0_holderOf cX0_holderOf 4 (some .int) 0 0 Z [.int 2, .int 1] v w (Qi Z (fun r u => r = 0 ∧ (v, w) = u)) := by
  refine g_met (by decide) (Nat.le_of_ble_eq_true rfl) ?_
  intro gp ge gs gm ga gb gh gc X h ls hl
  have hx := X.1
  have hb := X.2.1
  have hl : lv_has ls 4 [(0, .int 2), (1, .int 1)] := hl
  refine lv_iload_n hx hb dX0_holderOf_0 rfl (lv_at hl 0 rfl) ?_
  refine lv_istore_n (lv' := [(2, .int 2), (0, .int 2), (1, .int 1)]) hx hb dX0_holderOf_1 rfl hl (by decide) rfl (fun ls hl => ?_)
  refine lv_iconst (v := 0) hx hb dX0_holderOf_2 (by decide) ?_
  refine lv_istore_n (lv' := [(3, .int 0), (2, .int 2), (0, .int 2), (1, .int 1)]) hx hb dX0_holderOf_3 rfl hl (by decide) rfl (fun ls hl => ?_)
  refine lv_iload_n hx hb dX0_holderOf_4 rfl (lv_at hl 0 rfl) ?_
  refine lv_bipush (v := 7) hx hb dX0_holderOf_5 (by decide) ?_
  refine lv_icmp_ge (tgt := 46) hx hb dX0_holderOf_7 (by decide) (fun q => absurd q (by decide)) (fun _ => ?_)
  refine lv_iload_n hx hb dX0_holderOf_10 rfl (lv_at hl 1 rfl) ?_
  refine lv_if_le (tgt := 46) hx hb dX0_holderOf_11 (by decide) (fun q => absurd q (by decide)) (fun _ => ?_)
  refine lv_iload_n hx hb dX0_holderOf_14 rfl (lv_at hl 1 rfl) ?_
  refine lv_bipush (v := 7) hx hb dX0_holderOf_15 (by decide) ?_
  refine lv_icmp_ge (tgt := 46) hx hb dX0_holderOf_17 (by decide) (fun q => absurd q (by decide)) (fun _ => ?_)
  refine g_st_BODY X h dX0_holderOf_20 ?_
  refine lv_iload_n hx hb dX0_holderOf_23 rfl (lv_at hl 1 rfl) ?_
  refine lv_iconst (v := 3) hx hb dX0_holderOf_24 (by decide) ?_
  refine lv_imul hx hb dX0_holderOf_25 ?_
  refine g_tr (y := 6) (by decide) ?_
  refine lv_iload_n hx hb dX0_holderOf_26 rfl (lv_at hl 3 rfl) ?_
  refine lv_iadd hx hb dX0_holderOf_27 ?_
  refine g_tr (y := 7) (by decide) ?_
  refine g_tab1 X h (k := 7) rfl (by decide) dX0_holderOf_28 ?_
  refine g_tr (y := 0) rfl ?_
  refine lv_if_eq (tgt := 34) hx hb dX0_holderOf_29 (by decide) (fun _ => ?_) (fun q => absurd q (by decide))
  refine g_st_ABOVEN X h dX0_holderOf_34 ?_
  refine lv_iload_n hx hb dX0_holderOf_37 rfl (lv_at hl 1 rfl) ?_
  refine g_tab0 X h (k := 2) rfl (by decide) dX0_holderOf_38 ?_
  refine g_tr (y := 0) rfl ?_
  refine lv_istore_n (lv' := [(2, .int 0), (3, .int 0), (0, .int 2), (1, .int 1)]) hx hb dX0_holderOf_39 rfl hl (by decide) rfl (fun ls hl => ?_)
  refine lv_iinc (v := 1) (lv' := [(3, .int 1), (2, .int 0), (0, .int 2), (1, .int 1)]) hx hb dX0_holderOf_40 hl (k := 1) rfl rfl (by decide) rfl (fun ls hl => ?_)
  refine lv_goto (tgt := 4) hx hb dX0_holderOf_43 (by decide) ?_
  refine lv_iload_n hx hb dX0_holderOf_4 rfl (lv_at hl 0 rfl) ?_
  refine lv_bipush (v := 7) hx hb dX0_holderOf_5 (by decide) ?_
  refine lv_icmp_ge (tgt := 46) hx hb dX0_holderOf_7 (by decide) (fun q => absurd q (by decide)) (fun _ => ?_)
  refine lv_iload_n hx hb dX0_holderOf_10 rfl (lv_at hl 1 rfl) ?_
  refine lv_if_le (tgt := 46) hx hb dX0_holderOf_11 (by decide) (fun _ => ?_) (fun q => absurd q (by decide))
  refine lv_iconst (v := 0) hx hb dX0_holderOf_46 (by decide) ?_
  exact g_iret X h dX0_holderOf_47 ⟨rfl, rfl⟩

set_option maxRecDepth 100000 in
set_option maxHeartbeats 1000000 in
theorem c_X0_holderOf_22 (gl : Launch) (Z : PL) (v : VV) (w : WV) : CT gl yX0_holderOf cX0_holderOf 4 (some .int) 0 0 Z [.int 2, .int 2] v w (Qi Z (fun r u => r = 0 ∧ (v, w) = u)) := by
  refine g_met (by decide) (Nat.le_of_ble_eq_true rfl) ?_
  intro gp ge gs gm ga gb gh gc X h ls hl
  have hx := X.1
  have hb := X.2.1
  have hl : lv_has ls 4 [(0, .int 2), (1, .int 2)] := hl
  refine lv_iload_n hx hb dX0_holderOf_0 rfl (lv_at hl 0 rfl) ?_
  refine lv_istore_n (lv' := [(2, .int 2), (0, .int 2), (1, .int 2)]) hx hb dX0_holderOf_1 rfl hl (by decide) rfl (fun ls hl => ?_)
  refine lv_iconst (v := 0) hx hb dX0_holderOf_2 (by decide) ?_
  refine lv_istore_n (lv' := [(3, .int 0), (2, .int 2), (0, .int 2), (1, .int 2)]) hx hb dX0_holderOf_3 rfl hl (by decide) rfl (fun ls hl => ?_)
  refine lv_iload_n hx hb dX0_holderOf_4 rfl (lv_at hl 0 rfl) ?_
  refine lv_bipush (v := 7) hx hb dX0_holderOf_5 (by decide) ?_
  refine lv_icmp_ge (tgt := 46) hx hb dX0_holderOf_7 (by decide) (fun q => absurd q (by decide)) (fun _ => ?_)
  refine lv_iload_n hx hb dX0_holderOf_10 rfl (lv_at hl 1 rfl) ?_
  refine lv_if_le (tgt := 46) hx hb dX0_holderOf_11 (by decide) (fun q => absurd q (by decide)) (fun _ => ?_)
  refine lv_iload_n hx hb dX0_holderOf_14 rfl (lv_at hl 1 rfl) ?_
  refine lv_bipush (v := 7) hx hb dX0_holderOf_15 (by decide) ?_
  refine lv_icmp_ge (tgt := 46) hx hb dX0_holderOf_17 (by decide) (fun q => absurd q (by decide)) (fun _ => ?_)
  refine g_st_BODY X h dX0_holderOf_20 ?_
  refine lv_iload_n hx hb dX0_holderOf_23 rfl (lv_at hl 1 rfl) ?_
  refine lv_iconst (v := 3) hx hb dX0_holderOf_24 (by decide) ?_
  refine lv_imul hx hb dX0_holderOf_25 ?_
  refine g_tr (y := 6) (by decide) ?_
  refine lv_iload_n hx hb dX0_holderOf_26 rfl (lv_at hl 3 rfl) ?_
  refine lv_iadd hx hb dX0_holderOf_27 ?_
  refine g_tr (y := 8) (by decide) ?_
  refine g_tab1 X h (k := 8) rfl (by decide) dX0_holderOf_28 ?_
  refine g_tr (y := 0) rfl ?_
  refine lv_if_eq (tgt := 34) hx hb dX0_holderOf_29 (by decide) (fun _ => ?_) (fun q => absurd q (by decide))
  refine g_st_ABOVEN X h dX0_holderOf_34 ?_
  refine lv_iload_n hx hb dX0_holderOf_37 rfl (lv_at hl 1 rfl) ?_
  refine g_tab0 X h (k := 2) rfl (by decide) dX0_holderOf_38 ?_
  refine g_tr (y := 0) rfl ?_
  refine lv_istore_n (lv' := [(2, .int 0), (3, .int 0), (0, .int 2), (1, .int 2)]) hx hb dX0_holderOf_39 rfl hl (by decide) rfl (fun ls hl => ?_)
  refine lv_iinc (v := 1) (lv' := [(3, .int 1), (2, .int 0), (0, .int 2), (1, .int 2)]) hx hb dX0_holderOf_40 hl (k := 1) rfl rfl (by decide) rfl (fun ls hl => ?_)
  refine lv_goto (tgt := 4) hx hb dX0_holderOf_43 (by decide) ?_
  refine lv_iload_n hx hb dX0_holderOf_4 rfl (lv_at hl 0 rfl) ?_
  refine lv_bipush (v := 7) hx hb dX0_holderOf_5 (by decide) ?_
  refine lv_icmp_ge (tgt := 46) hx hb dX0_holderOf_7 (by decide) (fun q => absurd q (by decide)) (fun _ => ?_)
  refine lv_iload_n hx hb dX0_holderOf_10 rfl (lv_at hl 1 rfl) ?_
  refine lv_if_le (tgt := 46) hx hb dX0_holderOf_11 (by decide) (fun _ => ?_) (fun q => absurd q (by decide))
  refine lv_iconst (v := 0) hx hb dX0_holderOf_46 (by decide) ?_
  exact g_iret X h dX0_holderOf_47 ⟨rfl, rfl⟩

set_option maxRecDepth 100000 in
set_option maxHeartbeats 1000000 in
theorem c_X0_holderOf_30 (gl : Launch) (Z : PL) (v : VV) (w : WV) : CT gl yX0_holderOf cX0_holderOf 4 (some .int) 0 0 Z [.int 3, .int 0] v w (Qi Z (fun r u => r = 0 ∧ (v, w) = u)) := by
  refine g_met (by decide) (Nat.le_of_ble_eq_true rfl) ?_
  intro gp ge gs gm ga gb gh gc X h ls hl
  have hx := X.1
  have hb := X.2.1
  have hl : lv_has ls 4 [(0, .int 3), (1, .int 0)] := hl
  refine lv_iload_n hx hb dX0_holderOf_0 rfl (lv_at hl 0 rfl) ?_
  refine lv_istore_n (lv' := [(2, .int 3), (0, .int 3), (1, .int 0)]) hx hb dX0_holderOf_1 rfl hl (by decide) rfl (fun ls hl => ?_)
  refine lv_iconst (v := 0) hx hb dX0_holderOf_2 (by decide) ?_
  refine lv_istore_n (lv' := [(3, .int 0), (2, .int 3), (0, .int 3), (1, .int 0)]) hx hb dX0_holderOf_3 rfl hl (by decide) rfl (fun ls hl => ?_)
  refine lv_iload_n hx hb dX0_holderOf_4 rfl (lv_at hl 0 rfl) ?_
  refine lv_bipush (v := 7) hx hb dX0_holderOf_5 (by decide) ?_
  refine lv_icmp_ge (tgt := 46) hx hb dX0_holderOf_7 (by decide) (fun q => absurd q (by decide)) (fun _ => ?_)
  refine lv_iload_n hx hb dX0_holderOf_10 rfl (lv_at hl 1 rfl) ?_
  refine lv_if_le (tgt := 46) hx hb dX0_holderOf_11 (by decide) (fun q => absurd q (by decide)) (fun _ => ?_)
  refine lv_iload_n hx hb dX0_holderOf_14 rfl (lv_at hl 1 rfl) ?_
  refine lv_bipush (v := 7) hx hb dX0_holderOf_15 (by decide) ?_
  refine lv_icmp_ge (tgt := 46) hx hb dX0_holderOf_17 (by decide) (fun q => absurd q (by decide)) (fun _ => ?_)
  refine g_st_BODY X h dX0_holderOf_20 ?_
  refine lv_iload_n hx hb dX0_holderOf_23 rfl (lv_at hl 1 rfl) ?_
  refine lv_iconst (v := 3) hx hb dX0_holderOf_24 (by decide) ?_
  refine lv_imul hx hb dX0_holderOf_25 ?_
  refine g_tr (y := 9) (by decide) ?_
  refine lv_iload_n hx hb dX0_holderOf_26 rfl (lv_at hl 3 rfl) ?_
  refine lv_iadd hx hb dX0_holderOf_27 ?_
  refine g_tr (y := 9) (by decide) ?_
  refine g_tab1 X h (k := 9) rfl (by decide) dX0_holderOf_28 ?_
  refine g_tr (y := 0) rfl ?_
  refine lv_if_eq (tgt := 34) hx hb dX0_holderOf_29 (by decide) (fun _ => ?_) (fun q => absurd q (by decide))
  refine g_st_ABOVEN X h dX0_holderOf_34 ?_
  refine lv_iload_n hx hb dX0_holderOf_37 rfl (lv_at hl 1 rfl) ?_
  refine g_tab0 X h (k := 3) rfl (by decide) dX0_holderOf_38 ?_
  refine g_tr (y := 0) rfl ?_
  refine lv_istore_n (lv' := [(2, .int 0), (3, .int 0), (0, .int 3), (1, .int 0)]) hx hb dX0_holderOf_39 rfl hl (by decide) rfl (fun ls hl => ?_)
  refine lv_iinc (v := 1) (lv' := [(3, .int 1), (2, .int 0), (0, .int 3), (1, .int 0)]) hx hb dX0_holderOf_40 hl (k := 1) rfl rfl (by decide) rfl (fun ls hl => ?_)
  refine lv_goto (tgt := 4) hx hb dX0_holderOf_43 (by decide) ?_
  refine lv_iload_n hx hb dX0_holderOf_4 rfl (lv_at hl 0 rfl) ?_
  refine lv_bipush (v := 7) hx hb dX0_holderOf_5 (by decide) ?_
  refine lv_icmp_ge (tgt := 46) hx hb dX0_holderOf_7 (by decide) (fun q => absurd q (by decide)) (fun _ => ?_)
  refine lv_iload_n hx hb dX0_holderOf_10 rfl (lv_at hl 1 rfl) ?_
  refine lv_if_le (tgt := 46) hx hb dX0_holderOf_11 (by decide) (fun _ => ?_) (fun q => absurd q (by decide))
  refine lv_iconst (v := 0) hx hb dX0_holderOf_46 (by decide) ?_
  exact g_iret X h dX0_holderOf_47 ⟨rfl, rfl⟩

set_option maxRecDepth 100000 in
set_option maxHeartbeats 1000000 in
theorem c_X0_holderOf_31 (gl : Launch) (Z : PL) (v : VV) (w : WV) : CT gl yX0_holderOf cX0_holderOf 4 (some .int) 0 0 Z [.int 3, .int 1] v w (Qi Z (fun r u => r = 0 ∧ (v, w) = u)) := by
  refine g_met (by decide) (Nat.le_of_ble_eq_true rfl) ?_
  intro gp ge gs gm ga gb gh gc X h ls hl
  have hx := X.1
  have hb := X.2.1
  have hl : lv_has ls 4 [(0, .int 3), (1, .int 1)] := hl
  refine lv_iload_n hx hb dX0_holderOf_0 rfl (lv_at hl 0 rfl) ?_
  refine lv_istore_n (lv' := [(2, .int 3), (0, .int 3), (1, .int 1)]) hx hb dX0_holderOf_1 rfl hl (by decide) rfl (fun ls hl => ?_)
  refine lv_iconst (v := 0) hx hb dX0_holderOf_2 (by decide) ?_
  refine lv_istore_n (lv' := [(3, .int 0), (2, .int 3), (0, .int 3), (1, .int 1)]) hx hb dX0_holderOf_3 rfl hl (by decide) rfl (fun ls hl => ?_)
  refine lv_iload_n hx hb dX0_holderOf_4 rfl (lv_at hl 0 rfl) ?_
  refine lv_bipush (v := 7) hx hb dX0_holderOf_5 (by decide) ?_
  refine lv_icmp_ge (tgt := 46) hx hb dX0_holderOf_7 (by decide) (fun q => absurd q (by decide)) (fun _ => ?_)
  refine lv_iload_n hx hb dX0_holderOf_10 rfl (lv_at hl 1 rfl) ?_
  refine lv_if_le (tgt := 46) hx hb dX0_holderOf_11 (by decide) (fun q => absurd q (by decide)) (fun _ => ?_)
  refine lv_iload_n hx hb dX0_holderOf_14 rfl (lv_at hl 1 rfl) ?_
  refine lv_bipush (v := 7) hx hb dX0_holderOf_15 (by decide) ?_
  refine lv_icmp_ge (tgt := 46) hx hb dX0_holderOf_17 (by decide) (fun q => absurd q (by decide)) (fun _ => ?_)
  refine g_st_BODY X h dX0_holderOf_20 ?_
  refine lv_iload_n hx hb dX0_holderOf_23 rfl (lv_at hl 1 rfl) ?_
  refine lv_iconst (v := 3) hx hb dX0_holderOf_24 (by decide) ?_
  refine lv_imul hx hb dX0_holderOf_25 ?_
  refine g_tr (y := 9) (by decide) ?_
  refine lv_iload_n hx hb dX0_holderOf_26 rfl (lv_at hl 3 rfl) ?_
  refine lv_iadd hx hb dX0_holderOf_27 ?_
  refine g_tr (y := 10) (by decide) ?_
  refine g_tab1 X h (k := 10) rfl (by decide) dX0_holderOf_28 ?_
  refine g_tr (y := 0) rfl ?_
  refine lv_if_eq (tgt := 34) hx hb dX0_holderOf_29 (by decide) (fun _ => ?_) (fun q => absurd q (by decide))
  refine g_st_ABOVEN X h dX0_holderOf_34 ?_
  refine lv_iload_n hx hb dX0_holderOf_37 rfl (lv_at hl 1 rfl) ?_
  refine g_tab0 X h (k := 3) rfl (by decide) dX0_holderOf_38 ?_
  refine g_tr (y := 0) rfl ?_
  refine lv_istore_n (lv' := [(2, .int 0), (3, .int 0), (0, .int 3), (1, .int 1)]) hx hb dX0_holderOf_39 rfl hl (by decide) rfl (fun ls hl => ?_)
  refine lv_iinc (v := 1) (lv' := [(3, .int 1), (2, .int 0), (0, .int 3), (1, .int 1)]) hx hb dX0_holderOf_40 hl (k := 1) rfl rfl (by decide) rfl (fun ls hl => ?_)
  refine lv_goto (tgt := 4) hx hb dX0_holderOf_43 (by decide) ?_
  refine lv_iload_n hx hb dX0_holderOf_4 rfl (lv_at hl 0 rfl) ?_
  refine lv_bipush (v := 7) hx hb dX0_holderOf_5 (by decide) ?_
  refine lv_icmp_ge (tgt := 46) hx hb dX0_holderOf_7 (by decide) (fun q => absurd q (by decide)) (fun _ => ?_)
  refine lv_iload_n hx hb dX0_holderOf_10 rfl (lv_at hl 1 rfl) ?_
  refine lv_if_le (tgt := 46) hx hb dX0_holderOf_11 (by decide) (fun _ => ?_) (fun q => absurd q (by decide))
  refine lv_iconst (v := 0) hx hb dX0_holderOf_46 (by decide) ?_
  exact g_iret X h dX0_holderOf_47 ⟨rfl, rfl⟩

set_option maxRecDepth 100000 in
set_option maxHeartbeats 1000000 in
theorem c_X0_holderOf_32 (gl : Launch) (Z : PL) (v : VV) (w : WV) : CT gl yX0_holderOf cX0_holderOf 4 (some .int) 0 0 Z [.int 3, .int 2] v w (Qi Z (fun r u => r = 3 ∧ (v, w) = u)) := by
  refine g_met (by decide) (Nat.le_of_ble_eq_true rfl) ?_
  intro gp ge gs gm ga gb gh gc X h ls hl
  have hx := X.1
  have hb := X.2.1
  have hl : lv_has ls 4 [(0, .int 3), (1, .int 2)] := hl
  refine lv_iload_n hx hb dX0_holderOf_0 rfl (lv_at hl 0 rfl) ?_
  refine lv_istore_n (lv' := [(2, .int 3), (0, .int 3), (1, .int 2)]) hx hb dX0_holderOf_1 rfl hl (by decide) rfl (fun ls hl => ?_)
  refine lv_iconst (v := 0) hx hb dX0_holderOf_2 (by decide) ?_
  refine lv_istore_n (lv' := [(3, .int 0), (2, .int 3), (0, .int 3), (1, .int 2)]) hx hb dX0_holderOf_3 rfl hl (by decide) rfl (fun ls hl => ?_)
  refine lv_iload_n hx hb dX0_holderOf_4 rfl (lv_at hl 0 rfl) ?_
  refine lv_bipush (v := 7) hx hb dX0_holderOf_5 (by decide) ?_
  refine lv_icmp_ge (tgt := 46) hx hb dX0_holderOf_7 (by decide) (fun q => absurd q (by decide)) (fun _ => ?_)
  refine lv_iload_n hx hb dX0_holderOf_10 rfl (lv_at hl 1 rfl) ?_
  refine lv_if_le (tgt := 46) hx hb dX0_holderOf_11 (by decide) (fun q => absurd q (by decide)) (fun _ => ?_)
  refine lv_iload_n hx hb dX0_holderOf_14 rfl (lv_at hl 1 rfl) ?_
  refine lv_bipush (v := 7) hx hb dX0_holderOf_15 (by decide) ?_
  refine lv_icmp_ge (tgt := 46) hx hb dX0_holderOf_17 (by decide) (fun q => absurd q (by decide)) (fun _ => ?_)
  refine g_st_BODY X h dX0_holderOf_20 ?_
  refine lv_iload_n hx hb dX0_holderOf_23 rfl (lv_at hl 1 rfl) ?_
  refine lv_iconst (v := 3) hx hb dX0_holderOf_24 (by decide) ?_
  refine lv_imul hx hb dX0_holderOf_25 ?_
  refine g_tr (y := 9) (by decide) ?_
  refine lv_iload_n hx hb dX0_holderOf_26 rfl (lv_at hl 3 rfl) ?_
  refine lv_iadd hx hb dX0_holderOf_27 ?_
  refine g_tr (y := 11) (by decide) ?_
  refine g_tab1 X h (k := 11) rfl (by decide) dX0_holderOf_28 ?_
  refine g_tr (y := 40) rfl ?_
  refine lv_if_eq (tgt := 34) hx hb dX0_holderOf_29 (by decide) (fun q => absurd q (by decide)) (fun _ => ?_)
  refine lv_iload_n hx hb dX0_holderOf_32 rfl (lv_at hl 1 rfl) ?_
  exact g_iret X h dX0_holderOf_33 ⟨rfl, rfl⟩

set_option maxRecDepth 100000 in
set_option maxHeartbeats 1000000 in
theorem c_X0_holderOf_40 (gl : Launch) (Z : PL) (v : VV) (w : WV) : CT gl yX0_holderOf cX0_holderOf 4 (some .int) 0 0 Z [.int 4, .int 0] v w (Qi Z (fun r u => r = 4 ∧ (v, w) = u)) := by
  refine g_met (by decide) (Nat.le_of_ble_eq_true rfl) ?_
  intro gp ge gs gm ga gb gh gc X h ls hl
  have hx := X.1
  have hb := X.2.1
  have hl : lv_has ls 4 [(0, .int 4), (1, .int 0)] := hl
  refine lv_iload_n hx hb dX0_holderOf_0 rfl (lv_at hl 0 rfl) ?_
  refine lv_istore_n (lv' := [(2, .int 4), (0, .int 4), (1, .int 0)]) hx hb dX0_holderOf_1 rfl hl (by decide) rfl (fun ls hl => ?_)
  refine lv_iconst (v := 0) hx hb dX0_holderOf_2 (by decide) ?_
  refine lv_istore_n (lv' := [(3, .int 0), (2, .int 4), (0, .int 4), (1, .int 0)]) hx hb dX0_holderOf_3 rfl hl (by decide) rfl (fun ls hl => ?_)
  refine lv_iload_n hx hb dX0_holderOf_4 rfl (lv_at hl 0 rfl) ?_
  refine lv_bipush (v := 7) hx hb dX0_holderOf_5 (by decide) ?_
  refine lv_icmp_ge (tgt := 46) hx hb dX0_holderOf_7 (by decide) (fun q => absurd q (by decide)) (fun _ => ?_)
  refine lv_iload_n hx hb dX0_holderOf_10 rfl (lv_at hl 1 rfl) ?_
  refine lv_if_le (tgt := 46) hx hb dX0_holderOf_11 (by decide) (fun q => absurd q (by decide)) (fun _ => ?_)
  refine lv_iload_n hx hb dX0_holderOf_14 rfl (lv_at hl 1 rfl) ?_
  refine lv_bipush (v := 7) hx hb dX0_holderOf_15 (by decide) ?_
  refine lv_icmp_ge (tgt := 46) hx hb dX0_holderOf_17 (by decide) (fun q => absurd q (by decide)) (fun _ => ?_)
  refine g_st_BODY X h dX0_holderOf_20 ?_
  refine lv_iload_n hx hb dX0_holderOf_23 rfl (lv_at hl 1 rfl) ?_
  refine lv_iconst (v := 3) hx hb dX0_holderOf_24 (by decide) ?_
  refine lv_imul hx hb dX0_holderOf_25 ?_
  refine g_tr (y := 12) (by decide) ?_
  refine lv_iload_n hx hb dX0_holderOf_26 rfl (lv_at hl 3 rfl) ?_
  refine lv_iadd hx hb dX0_holderOf_27 ?_
  refine g_tr (y := 12) (by decide) ?_
  refine g_tab1 X h (k := 12) rfl (by decide) dX0_holderOf_28 ?_
  refine g_tr (y := 50) rfl ?_
  refine lv_if_eq (tgt := 34) hx hb dX0_holderOf_29 (by decide) (fun q => absurd q (by decide)) (fun _ => ?_)
  refine lv_iload_n hx hb dX0_holderOf_32 rfl (lv_at hl 1 rfl) ?_
  exact g_iret X h dX0_holderOf_33 ⟨rfl, rfl⟩

set_option maxRecDepth 100000 in
set_option maxHeartbeats 1000000 in
theorem c_X0_holderOf_41 (gl : Launch) (Z : PL) (v : VV) (w : WV) : CT gl yX0_holderOf cX0_holderOf 4 (some .int) 0 0 Z [.int 4, .int 1] v w (Qi Z (fun r u => r = 4 ∧ (v, w) = u)) := by
  refine g_met (by decide) (Nat.le_of_ble_eq_true rfl) ?_
  intro gp ge gs gm ga gb gh gc X h ls hl
  have hx := X.1
  have hb := X.2.1
  have hl : lv_has ls 4 [(0, .int 4), (1, .int 1)] := hl
  refine lv_iload_n hx hb dX0_holderOf_0 rfl (lv_at hl 0 rfl) ?_
  refine lv_istore_n (lv' := [(2, .int 4), (0, .int 4), (1, .int 1)]) hx hb dX0_holderOf_1 rfl hl (by decide) rfl (fun ls hl => ?_)
  refine lv_iconst (v := 0) hx hb dX0_holderOf_2 (by decide) ?_
  refine lv_istore_n (lv' := [(3, .int 0), (2, .int 4), (0, .int 4), (1, .int 1)]) hx hb dX0_holderOf_3 rfl hl (by decide) rfl (fun ls hl => ?_)
  refine lv_iload_n hx hb dX0_holderOf_4 rfl (lv_at hl 0 rfl) ?_
  refine lv_bipush (v := 7) hx hb dX0_holderOf_5 (by decide) ?_
  refine lv_icmp_ge (tgt := 46) hx hb dX0_holderOf_7 (by decide) (fun q => absurd q (by decide)) (fun _ => ?_)
  refine lv_iload_n hx hb dX0_holderOf_10 rfl (lv_at hl 1 rfl) ?_
  refine lv_if_le (tgt := 46) hx hb dX0_holderOf_11 (by decide) (fun q => absurd q (by decide)) (fun _ => ?_)
  refine lv_iload_n hx hb dX0_holderOf_14 rfl (lv_at hl 1 rfl) ?_
  refine lv_bipush (v := 7) hx hb dX0_holderOf_15 (by decide) ?_
  refine lv_icmp_ge (tgt := 46) hx hb dX0_holderOf_17 (by decide) (fun q => absurd q (by decide)) (fun _ => ?_)
  refine g_st_BODY X h dX0_holderOf_20 ?_
  refine lv_iload_n hx hb dX0_holderOf_23 rfl (lv_at hl 1 rfl) ?_
  refine lv_iconst (v := 3) hx hb dX0_holderOf_24 (by decide) ?_
  refine lv_imul hx hb dX0_holderOf_25 ?_
  refine g_tr (y := 12) (by decide) ?_
  refine lv_iload_n hx hb dX0_holderOf_26 rfl (lv_at hl 3 rfl) ?_
  refine lv_iadd hx hb dX0_holderOf_27 ?_
  refine g_tr (y := 13) (by decide) ?_
  refine g_tab1 X h (k := 13) rfl (by decide) dX0_holderOf_28 ?_
  refine g_tr (y := 51) rfl ?_
  refine lv_if_eq (tgt := 34) hx hb dX0_holderOf_29 (by decide) (fun q => absurd q (by decide)) (fun _ => ?_)
  refine lv_iload_n hx hb dX0_holderOf_32 rfl (lv_at hl 1 rfl) ?_
  exact g_iret X h dX0_holderOf_33 ⟨rfl, rfl⟩

set_option maxRecDepth 100000 in
set_option maxHeartbeats 1000000 in
theorem c_X0_holderOf_42 (gl : Launch) (Z : PL) (v : VV) (w : WV) : CT gl yX0_holderOf cX0_holderOf 4 (some .int) 0 0 Z [.int 4, .int 2] v w (Qi Z (fun r u => r = 0 ∧ (v, w) = u)) := by
  refine g_met (by decide) (Nat.le_of_ble_eq_true rfl) ?_
  intro gp ge gs gm ga gb gh gc X h ls hl
  have hx := X.1
  have hb := X.2.1
  have hl : lv_has ls 4 [(0, .int 4), (1, .int 2)] := hl
  refine lv_iload_n hx hb dX0_holderOf_0 rfl (lv_at hl 0 rfl) ?_
  refine lv_istore_n (lv' := [(2, .int 4), (0, .int 4), (1, .int 2)]) hx hb dX0_holderOf_1 rfl hl (by decide) rfl (fun ls hl => ?_)
  refine lv_iconst (v := 0) hx hb dX0_holderOf_2 (by decide) ?_
  refine lv_istore_n (lv' := [(3, .int 0), (2, .int 4), (0, .int 4), (1, .int 2)]) hx hb dX0_holderOf_3 rfl hl (by decide) rfl (fun ls hl => ?_)
  refine lv_iload_n hx hb dX0_holderOf_4 rfl (lv_at hl 0 rfl) ?_
  refine lv_bipush (v := 7) hx hb dX0_holderOf_5 (by decide) ?_
  refine lv_icmp_ge (tgt := 46) hx hb dX0_holderOf_7 (by decide) (fun q => absurd q (by decide)) (fun _ => ?_)
  refine lv_iload_n hx hb dX0_holderOf_10 rfl (lv_at hl 1 rfl) ?_
  refine lv_if_le (tgt := 46) hx hb dX0_holderOf_11 (by decide) (fun q => absurd q (by decide)) (fun _ => ?_)
  refine lv_iload_n hx hb dX0_holderOf_14 rfl (lv_at hl 1 rfl) ?_
  refine lv_bipush (v := 7) hx hb dX0_holderOf_15 (by decide) ?_
  refine lv_icmp_ge (tgt := 46) hx hb dX0_holderOf_17 (by decide) (fun q => absurd q (by decide)) (fun _ => ?_)
  refine g_st_BODY X h dX0_holderOf_20 ?_
  refine lv_iload_n hx hb dX0_holderOf_23 rfl (lv_at hl 1 rfl) ?_
  refine lv_iconst (v := 3) hx hb dX0_holderOf_24 (by decide) ?_
  refine lv_imul hx hb dX0_holderOf_25 ?_
  refine g_tr (y := 12) (by decide) ?_
  refine lv_iload_n hx hb dX0_holderOf_26 rfl (lv_at hl 3 rfl) ?_
  refine lv_iadd hx hb dX0_holderOf_27 ?_
  refine g_tr (y := 14) (by decide) ?_
  refine g_tab1 X h (k := 14) rfl (by decide) dX0_holderOf_28 ?_
  refine g_tr (y := 0) rfl ?_
  refine lv_if_eq (tgt := 34) hx hb dX0_holderOf_29 (by decide) (fun _ => ?_) (fun q => absurd q (by decide))
  refine g_st_ABOVEN X h dX0_holderOf_34 ?_
  refine lv_iload_n hx hb dX0_holderOf_37 rfl (lv_at hl 1 rfl) ?_
  refine g_tab0 X h (k := 4) rfl (by decide) dX0_holderOf_38 ?_
  refine g_tr (y := 1) rfl ?_
  refine lv_istore_n (lv' := [(2, .int 1), (3, .int 0), (0, .int 4), (1, .int 2)]) hx hb dX0_holderOf_39 rfl hl (by decide) rfl (fun ls hl => ?_)
  refine lv_iinc (v := 1) (lv' := [(3, .int 1), (2, .int 1), (0, .int 4), (1, .int 2)]) hx hb dX0_holderOf_40 hl (k := 1) rfl rfl (by decide) rfl (fun ls hl => ?_)
  refine lv_goto (tgt := 4) hx hb dX0_holderOf_43 (by decide) ?_
  refine lv_iload_n hx hb dX0_holderOf_4 rfl (lv_at hl 0 rfl) ?_
  refine lv_bipush (v := 7) hx hb dX0_holderOf_5 (by decide) ?_
  refine lv_icmp_ge (tgt := 46) hx hb dX0_holderOf_7 (by decide) (fun q => absurd q (by decide)) (fun _ => ?_)
  refine lv_iload_n hx hb dX0_holderOf_10 rfl (lv_at hl 1 rfl) ?_
  refine lv_if_le (tgt := 46) hx hb dX0_holderOf_11 (by decide) (fun q => absurd q (by decide)) (fun _ => ?_)
  refine lv_iload_n hx hb dX0_holderOf_14 rfl (lv_at hl 1 rfl) ?_
  refine lv_bipush (v := 7) hx hb dX0_holderOf_15 (by decide) ?_
  refine lv_icmp_ge (tgt := 46) hx hb dX0_holderOf_17 (by decide) (fun q => absurd q (by decide)) (fun _ => ?_)
  refine g_st_BODY X h dX0_holderOf_20 ?_
  refine lv_iload_n hx hb dX0_holderOf_23 rfl (lv_at hl 1 rfl) ?_
  refine lv_iconst (v := 3) hx hb dX0_holderOf_24 (by decide) ?_
  refine lv_imul hx hb dX0_holderOf_25 ?_
  refine g_tr (y := 3) (by decide) ?_
  refine lv_iload_n hx hb dX0_holderOf_26 rfl (lv_at hl 3 rfl) ?_
  refine lv_iadd hx hb dX0_holderOf_27 ?_
  refine g_tr (y := 5) (by decide) ?_
  refine g_tab1 X h (k := 5) rfl (by decide) dX0_holderOf_28 ?_
  refine g_tr (y := 0) rfl ?_
  refine lv_if_eq (tgt := 34) hx hb dX0_holderOf_29 (by decide) (fun _ => ?_) (fun q => absurd q (by decide))
  refine g_st_ABOVEN X h dX0_holderOf_34 ?_
  refine lv_iload_n hx hb dX0_holderOf_37 rfl (lv_at hl 1 rfl) ?_
  refine g_tab0 X h (k := 1) rfl (by decide) dX0_holderOf_38 ?_
  refine g_tr (y := 0) rfl ?_
  refine lv_istore_n (lv' := [(2, .int 0), (3, .int 1), (0, .int 4), (1, .int 2)]) hx hb dX0_holderOf_39 rfl hl (by decide) rfl (fun ls hl => ?_)
  refine lv_iinc (v := 2) (lv' := [(3, .int 2), (2, .int 0), (0, .int 4), (1, .int 2)]) hx hb dX0_holderOf_40 hl (k := 1) rfl rfl (by decide) rfl (fun ls hl => ?_)
  refine lv_goto (tgt := 4) hx hb dX0_holderOf_43 (by decide) ?_
  refine lv_iload_n hx hb dX0_holderOf_4 rfl (lv_at hl 0 rfl) ?_
  refine lv_bipush (v := 7) hx hb dX0_holderOf_5 (by decide) ?_
  refine lv_icmp_ge (tgt := 46) hx hb dX0_holderOf_7 (by decide) (fun q => absurd q (by decide)) (fun _ => ?_)
  refine lv_iload_n hx hb dX0_holderOf_10 rfl (lv_at hl 1 rfl) ?_
  refine lv_if_le (tgt := 46) hx hb dX0_holderOf_11 (by decide) (fun _ => ?_) (fun q => absurd q (by decide))
  refine lv_iconst (v := 0) hx hb dX0_holderOf_46 (by decide) ?_
  exact g_iret X h dX0_holderOf_47 ⟨rfl, rfl⟩

set_option maxRecDepth 100000 in
set_option maxHeartbeats 1000000 in
theorem c_X0_holderOf_50 (gl : Launch) (Z : PL) (v : VV) (w : WV) : CT gl yX0_holderOf cX0_holderOf 4 (some .int) 0 0 Z [.int 5, .int 0] v w (Qi Z (fun r u => r = 2 ∧ (v, w) = u)) := by
  refine g_met (by decide) (Nat.le_of_ble_eq_true rfl) ?_
  intro gp ge gs gm ga gb gh gc X h ls hl
  have hx := X.1
  have hb := X.2.1
  have hl : lv_has ls 4 [(0, .int 5), (1, .int 0)] := hl
  refine lv_iload_n hx hb dX0_holderOf_0 rfl (lv_at hl 0 rfl) ?_
  refine lv_istore_n (lv' := [(2, .int 5), (0, .int 5), (1, .int 0)]) hx hb dX0_holderOf_1 rfl hl (by decide) rfl (fun ls hl => ?_)
  refine lv_iconst (v := 0) hx hb dX0_holderOf_2 (by decide) ?_
  refine lv_istore_n (lv' := [(3, .int 0), (2, .int 5), (0, .int 5), (1, .int 0)]) hx hb dX0_holderOf_3 rfl hl (by decide) rfl (fun ls hl => ?_)
  refine lv_iload_n hx hb dX0_holderOf_4 rfl (lv_at hl 0 rfl) ?_
  refine lv_bipush (v := 7) hx hb dX0_holderOf_5 (by decide) ?_
  refine lv_icmp_ge (tgt := 46) hx hb dX0_holderOf_7 (by decide) (fun q => absurd q (by decide)) (fun _ => ?_)
  refine lv_iload_n hx hb dX0_holderOf_10 rfl (lv_at hl 1 rfl) ?_
  refine lv_if_le (tgt := 46) hx hb dX0_holderOf_11 (by decide) (fun q => absurd q (by decide)) (fun _ => ?_)
  refine lv_iload_n hx hb dX0_holderOf_14 rfl (lv_at hl 1 rfl) ?_
  refine lv_bipush (v := 7) hx hb dX0_holderOf_15 (by decide) ?_
  refine lv_icmp_ge (tgt := 46) hx hb dX0_holderOf_17 (by decide) (fun q => absurd q (by decide)) (fun _ => ?_)
  refine g_st_BODY X h dX0_holderOf_20 ?_
  refine lv_iload_n hx hb dX0_holderOf_23 rfl (lv_at hl 1 rfl) ?_
  refine lv_iconst (v := 3) hx hb dX0_holderOf_24 (by decide) ?_
  refine lv_imul hx hb dX0_holderOf_25 ?_
  refine g_tr (y := 15) (by decide) ?_
  refine lv_iload_n hx hb dX0_holderOf_26 rfl (lv_at hl 3 rfl) ?_
  refine lv_iadd hx hb dX0_holderOf_27 ?_
  refine g_tr (y := 15) (by decide) ?_
  refine g_tab1 X h (k := 15) rfl (by decide) dX0_holderOf_28 ?_
  refine g_tr (y := 0) rfl ?_
  refine lv_if_eq (tgt := 34) hx hb dX0_holderOf_29 (by decide) (fun _ => ?_) (fun q => absurd q (by decide))
  refine g_st_ABOVEN X h dX0_holderOf_34 ?_
  refine lv_iload_n hx hb dX0_holderOf_37 rfl (lv_at hl 1 rfl) ?_
  refine g_tab0 X h (k := 5) rfl (by decide) dX0_holderOf_38 ?_
  refine g_tr (y := 2) rfl ?_
  refine lv_istore_n (lv' := [(2, .int 2), (3, .int 0), (0, .int 5), (1, .int 0)]) hx hb dX0_holderOf_39 rfl hl (by decide) rfl (fun ls hl => ?_)
  refine lv_iinc (v := 1) (lv' := [(3, .int 1), (2, .int 2), (0, .int 5), (1, .int 0)]) hx hb dX0_holderOf_40 hl (k := 1) rfl rfl (by decide) rfl (fun ls hl => ?_)
  refine lv_goto (tgt := 4) hx hb dX0_holderOf_43 (by decide) ?_
  refine lv_iload_n hx hb dX0_holderOf_4 rfl (lv_at hl 0 rfl) ?_
  refine lv_bipush (v := 7) hx hb dX0_holderOf_5 (by decide) ?_
  refine lv_icmp_ge (tgt := 46) hx hb dX0_holderOf_7 (by decide) (fun q => absurd q (by decide)) (fun _ => ?_)
  refine lv_iload_n hx hb dX0_holderOf_10 rfl (lv_at hl 1 rfl) ?_
  refine lv_if_le (tgt := 46) hx hb dX0_holderOf_11 (by decide) (fun q => absurd q (by decide)) (fun _ => ?_)
  refine lv_iload_n hx hb dX0_holderOf_14 rfl (lv_at hl 1 rfl) ?_
  refine lv_bipush (v := 7) hx hb dX0_holderOf_15 (by decide) ?_
  refine lv_icmp_ge (tgt := 46) hx hb dX0_holderOf_17 (by decide) (fun q => absurd q (by decide)) (fun _ => ?_)
  refine g_st_BODY X h dX0_holderOf_20 ?_
  refine lv_iload_n hx hb dX0_holderOf_23 rfl (lv_at hl 1 rfl) ?_
  refine lv_iconst (v := 3) hx hb dX0_holderOf_24 (by decide) ?_
  refine lv_imul hx hb dX0_holderOf_25 ?_
  refine g_tr (y := 6) (by decide) ?_
  refine lv_iload_n hx hb dX0_holderOf_26 rfl (lv_at hl 3 rfl) ?_
  refine lv_iadd hx hb dX0_holderOf_27 ?_
  refine g_tr (y := 6) (by decide) ?_
  refine g_tab1 X h (k := 6) rfl (by decide) dX0_holderOf_28 ?_
  refine g_tr (y := 30) rfl ?_
  refine lv_if_eq (tgt := 34) hx hb dX0_holderOf_29 (by decide) (fun q => absurd q (by decide)) (fun _ => ?_)
  refine lv_iload_n hx hb dX0_holderOf_32 rfl (lv_at hl 1 rfl) ?_
  exact g_iret X h dX0_holderOf_33 ⟨rfl, rfl⟩

set_option maxRecDepth 100000 in
set_option maxHeartbeats 1000000 in
theorem c_X0_holderOf_51 (gl : Launch) (Z : PL) (v : VV) (w : WV) : CT gl yX0_holderOf cX0_holderOf 4 (some .int) 0 0 Z [.int 5, .int 1] v w (Qi Z (fun r u => r = 0 ∧ (v, w) = u)) := by
  refine g_met (by decide) (Nat.le_of_ble_eq_true rfl) ?_
  intro gp ge gs gm ga gb gh gc X h ls hl
  have hx := X.1
  have hb := X.2.1
  have hl : lv_has ls 4 [(0, .int 5), (1, .int 1)] := hl
  refine lv_iload_n hx hb dX0_holderOf_0 rfl (lv_at hl 0 rfl) ?_
  refine lv_istore_n (lv' := [(2, .int 5), (0, .int 5), (1, .int 1)]) hx hb dX0_holderOf_1 rfl hl (by decide) rfl (fun ls hl => ?_)
  refine lv_iconst (v := 0) hx hb dX0_holderOf_2 (by decide) ?_
  refine lv_istore_n (lv' := [(3, .int 0), (2, .int 5), (0, .int 5), (1, .int 1)]) hx hb dX0_holderOf_3 rfl hl (by decide) rfl (fun ls hl => ?_)
  refine lv_iload_n hx hb dX0_holderOf_4 rfl (lv_at hl 0 rfl) ?_
  refine lv_bipush (v := 7) hx hb dX0_holderOf_5 (by decide) ?_
  refine lv_icmp_ge (tgt := 46) hx hb dX0_holderOf_7 (by decide) (fun q => absurd q (by decide)) (fun _ => ?_)
  refine lv_iload_n hx hb dX0_holderOf_10 rfl (lv_at hl 1 rfl) ?_
  refine lv_if_le (tgt := 46) hx hb dX0_holderOf_11 (by decide) (fun q => absurd q (by decide)) (fun _ => ?_)
  refine lv_iload_n hx hb dX0_holderOf_14 rfl (lv_at hl 1 rfl) ?_
  refine lv_bipush (v := 7) hx hb dX0_holderOf_15 (by decide) ?_
  refine lv_icmp_ge (tgt := 46) hx hb dX0_holderOf_17 (by decide) (fun q => absurd q (by decide)) (fun _ => ?_)
  refine g_st_BODY X h dX0_holderOf_20 ?_
  refine lv_iload_n hx hb dX0_holderOf_23 rfl (lv_at hl 1 rfl) ?_
  refine lv_iconst (v := 3) hx hb dX0_holderOf_24 (by decide) ?_
  refine lv_imul hx hb dX0_holderOf_25 ?_
  refine g_tr (y := 15) (by decide) ?_
  refine lv_iload_n hx hb dX0_holderOf_26 rfl (lv_at hl 3 rfl) ?_
  refine lv_iadd hx hb dX0_holderOf_27 ?_
  refine g_tr (y := 16) (by decide) ?_
  refine g_tab1 X h (k := 16) rfl (by decide) dX0_holderOf_28 ?_
  refine g_tr (y := 0) rfl ?_
  refine lv_if_eq (tgt := 34) hx hb dX0_holderOf_29 (by decide) (fun _ => ?_) (fun q => absurd q (by decide))
  refine g_st_ABOVEN X h dX0_holderOf_34 ?_
  refine lv_iload_n hx hb dX0_holderOf_37 rfl (lv_at hl 1 rfl) ?_
  refine g_tab0 X h (k := 5) rfl (by decide) dX0_holderOf_38 ?_
  refine g_tr (y := 2) rfl ?_
  refine lv_istore_n (lv' := [(2, .int 2), (3, .int 0), (0, .int 5), (1, .int 1)]) hx hb dX0_holderOf_39 rfl hl (by decide) rfl (fun ls hl => ?_)
  refine lv_iinc (v := 1) (lv' := [(3, .int 1), (2, .int 2), (0, .int 5), (1, .int 1)]) hx hb dX0_holderOf_40 hl (k := 1) rfl rfl (by decide) rfl (fun ls hl => ?_)
  refine lv_goto (tgt := 4) hx hb dX0_holderOf_43 (by decide) ?_
  refine lv_iload_n hx hb dX0_holderOf_4 rfl (lv_at hl 0 rfl) ?_
  refine lv_bipush (v := 7) hx hb dX0_holderOf_5 (by decide) ?_
  refine lv_icmp_ge (tgt := 46) hx hb dX0_holderOf_7 (by decide) (fun q => absurd q (by decide)) (fun _ => ?_)
  refine lv_iload_n hx hb dX0_holderOf_10 rfl (lv_at hl 1 rfl) ?_
  refine lv_if_le (tgt := 46) hx hb dX0_holderOf_11 (by decide) (fun q => absurd q (by decide)) (fun _ => ?_)
  refine lv_iload_n hx hb dX0_holderOf_14 rfl (lv_at hl 1 rfl) ?_
  refine lv_bipush (v := 7) hx hb dX0_holderOf_15 (by decide) ?_
  refine lv_icmp_ge (tgt := 46) hx hb dX0_holderOf_17 (by decide) (fun q => absurd q (by decide)) (fun _ => ?_)
  refine g_st_BODY X h dX0_holderOf_20 ?_
  refine lv_iload_n hx hb dX0_holderOf_23 rfl (lv_at hl 1 rfl) ?_
  refine lv_iconst (v := 3) hx hb dX0_holderOf_24 (by decide) ?_
  refine lv_imul hx hb dX0_holderOf_25 ?_
  refine g_tr (y := 6) (by decide) ?_
  refine lv_iload_n hx hb dX0_holderOf_26 rfl (lv_at hl 3 rfl) ?_
  refine lv_iadd hx hb dX0_holderOf_27 ?_
  refine g_tr (y := 7) (by decide) ?_
  refine g_tab1 X h (k := 7) rfl (by decide) dX0_holderOf_28 ?_
  refine g_tr (y := 0) rfl ?_
  refine lv_if_eq (tgt := 34) hx hb dX0_holderOf_29 (by decide) (fun _ => ?_) (fun q => absurd q (by decide))
  refine g_st_ABOVEN X h dX0_holderOf_34 ?_
  refine lv_iload_n hx hb dX0_holderOf_37 rfl (lv_at hl 1 rfl) ?_
  refine g_tab0 X h (k := 2) rfl (by decide) dX0_holderOf_38 ?_
  refine g_tr (y := 0) rfl ?_
  refine lv_istore_n (lv' := [(2, .int 0), (3, .int 1), (0, .int 5), (1, .int 1)]) hx hb dX0_holderOf_39 rfl hl (by decide) rfl (fun ls hl => ?_)
  refine lv_iinc (v := 2) (lv' := [(3, .int 2), (2, .int 0), (0, .int 5), (1, .int 1)]) hx hb dX0_holderOf_40 hl (k := 1) rfl rfl (by decide) rfl (fun ls hl => ?_)
  refine lv_goto (tgt := 4) hx hb dX0_holderOf_43 (by decide) ?_
  refine lv_iload_n hx hb dX0_holderOf_4 rfl (lv_at hl 0 rfl) ?_
  refine lv_bipush (v := 7) hx hb dX0_holderOf_5 (by decide) ?_
  refine lv_icmp_ge (tgt := 46) hx hb dX0_holderOf_7 (by decide) (fun q => absurd q (by decide)) (fun _ => ?_)
  refine lv_iload_n hx hb dX0_holderOf_10 rfl (lv_at hl 1 rfl) ?_
  refine lv_if_le (tgt := 46) hx hb dX0_holderOf_11 (by decide) (fun _ => ?_) (fun q => absurd q (by decide))
  refine lv_iconst (v := 0) hx hb dX0_holderOf_46 (by decide) ?_
  exact g_iret X h dX0_holderOf_47 ⟨rfl, rfl⟩

set_option maxRecDepth 100000 in
set_option maxHeartbeats 1000000 in
theorem c_X0_holderOf_52 (gl : Launch) (Z : PL) (v : VV) (w : WV) : CT gl yX0_holderOf cX0_holderOf 4 (some .int) 0 0 Z [.int 5, .int 2] v w (Qi Z (fun r u => r = 5 ∧ (v, w) = u)) := by
  refine g_met (by decide) (Nat.le_of_ble_eq_true rfl) ?_
  intro gp ge gs gm ga gb gh gc X h ls hl
  have hx := X.1
  have hb := X.2.1
  have hl : lv_has ls 4 [(0, .int 5), (1, .int 2)] := hl
  refine lv_iload_n hx hb dX0_holderOf_0 rfl (lv_at hl 0 rfl) ?_
  refine lv_istore_n (lv' := [(2, .int 5), (0, .int 5), (1, .int 2)]) hx hb dX0_holderOf_1 rfl hl (by decide) rfl (fun ls hl => ?_)
  refine lv_iconst (v := 0) hx hb dX0_holderOf_2 (by decide) ?_
  refine lv_istore_n (lv' := [(3, .int 0), (2, .int 5), (0, .int 5), (1, .int 2)]) hx hb dX0_holderOf_3 rfl hl (by decide) rfl (fun ls hl => ?_)
  refine lv_iload_n hx hb dX0_holderOf_4 rfl (lv_at hl 0 rfl) ?_
  refine lv_bipush (v := 7) hx hb dX0_holderOf_5 (by decide) ?_
  refine lv_icmp_ge (tgt := 46) hx hb dX0_holderOf_7 (by decide) (fun q => absurd q (by decide)) (fun _ => ?_)
  refine lv_iload_n hx hb dX0_holderOf_10 rfl (lv_at hl 1 rfl) ?_
  refine lv_if_le (tgt := 46) hx hb dX0_holderOf_11 (by decide) (fun q => absurd q (by decide)) (fun _ => ?_)
  refine lv_iload_n hx hb dX0_holderOf_14 rfl (lv_at hl 1 rfl) ?_
  refine lv_bipush (v := 7) hx hb dX0_holderOf_15 (by decide) ?_
  refine lv_icmp_ge (tgt := 46) hx hb dX0_holderOf_17 (by decide) (fun q => absurd q (by decide)) (fun _ => ?_)
  refine g_st_BODY X h dX0_holderOf_20 ?_
  refine lv_iload_n hx hb dX0_holderOf_23 rfl (lv_at hl 1 rfl) ?_
  refine lv_iconst (v := 3) hx hb dX0_holderOf_24 (by decide) ?_
  refine lv_imul hx hb dX0_holderOf_25 ?_
  refine g_tr (y := 15) (by decide) ?_
  refine lv_iload_n hx hb dX0_holderOf_26 rfl (lv_at hl 3 rfl) ?_
  refine lv_iadd hx hb dX0_holderOf_27 ?_
  refine g_tr (y := 17) (by decide) ?_
  refine g_tab1 X h (k := 17) rfl (by decide) dX0_holderOf_28 ?_
  refine g_tr (y := 60) rfl ?_
  refine lv_if_eq (tgt := 34) hx hb dX0_holderOf_29 (by decide) (fun q => absurd q (by decide)) (fun _ => ?_)
  refine lv_iload_n hx hb dX0_holderOf_32 rfl (lv_at hl 1 rfl) ?_
  exact g_iret X h dX0_holderOf_33 ⟨rfl, rfl⟩

set_option maxRecDepth 100000 in
set_option maxHeartbeats 1000000 in
theorem c_X0_holderOf_60 (gl : Launch) (Z : PL) (v : VV) (w : WV) : CT gl yX0_holderOf cX0_holderOf 4 (some .int) 0 0 Z [.int 6, .int 0] v w (Qi Z (fun r u => r = 6 ∧ (v, w) = u)) := by
  refine g_met (by decide) (Nat.le_of_ble_eq_true rfl) ?_
  intro gp ge gs gm ga gb gh gc X h ls hl
  have hx := X.1
  have hb := X.2.1
  have hl : lv_has ls 4 [(0, .int 6), (1, .int 0)] := hl
  refine lv_iload_n hx hb dX0_holderOf_0 rfl (lv_at hl 0 rfl) ?_
  refine lv_istore_n (lv' := [(2, .int 6), (0, .int 6), (1, .int 0)]) hx hb dX0_holderOf_1 rfl hl (by decide) rfl (fun ls hl => ?_)
  refine lv_iconst (v := 0) hx hb dX0_holderOf_2 (by decide) ?_
  refine lv_istore_n (lv' := [(3, .int 0), (2, .int 6), (0, .int 6), (1, .int 0)]) hx hb dX0_holderOf_3 rfl hl (by decide) rfl (fun ls hl => ?_)
  refine lv_iload_n hx hb dX0_holderOf_4 rfl (lv_at hl 0 rfl) ?_
  refine lv_bipush (v := 7) hx hb dX0_holderOf_5 (by decide) ?_
  refine lv_icmp_ge (tgt := 46) hx hb dX0_holderOf_7 (by decide) (fun q => absurd q (by decide)) (fun _ => ?_)
  refine lv_iload_n hx hb dX0_holderOf_10 rfl (lv_at hl 1 rfl) ?_
  refine lv_if_le (tgt := 46) hx hb dX0_holderOf_11 (by decide) (fun q => absurd q (by decide)) (fun _ => ?_)
  refine lv_iload_n hx hb dX0_holderOf_14 rfl (lv_at hl 1 rfl) ?_
  refine lv_bipush (v := 7) hx hb dX0_holderOf_15 (by decide) ?_
  refine lv_icmp_ge (tgt := 46) hx hb dX0_holderOf_17 (by decide) (fun q => absurd q (by decide)) (fun _ => ?_)
  refine g_st_BODY X h dX0_holderOf_20 ?_
  refine lv_iload_n hx hb dX0_holderOf_23 rfl (lv_at hl 1 rfl) ?_
  refine lv_iconst (v := 3) hx hb dX0_holderOf_24 (by decide) ?_
  refine lv_imul hx hb dX0_holderOf_25 ?_
  refine g_tr (y := 18) (by decide) ?_
  refine lv_iload_n hx hb dX0_holderOf_26 rfl (lv_at hl 3 rfl) ?_
  refine lv_iadd hx hb dX0_holderOf_27 ?_
  refine g_tr (y := 18) (by decide) ?_
  refine g_tab1 X h (k := 18) rfl (by decide) dX0_holderOf_28 ?_
  refine g_tr (y := 71) rfl ?_
  refine lv_if_eq (tgt := 34) hx hb dX0_holderOf_29 (by decide) (fun q => absurd q (by decide)) (fun _ => ?_)
  refine lv_iload_n hx hb dX0_holderOf_32 rfl (lv_at hl 1 rfl) ?_
  exact g_iret X h dX0_holderOf_33 ⟨rfl, rfl⟩

set_option maxRecDepth 100000 in
set_option maxHeartbeats 1000000 in
theorem c_X0_holderOf_61 (gl : Launch) (Z : PL) (v : VV) (w : WV) : CT gl yX0_holderOf cX0_holderOf 4 (some .int) 0 0 Z [.int 6, .int 1] v w (Qi Z (fun r u => r = 6 ∧ (v, w) = u)) := by
  refine g_met (by decide) (Nat.le_of_ble_eq_true rfl) ?_
  intro gp ge gs gm ga gb gh gc X h ls hl
  have hx := X.1
  have hb := X.2.1
  have hl : lv_has ls 4 [(0, .int 6), (1, .int 1)] := hl
  refine lv_iload_n hx hb dX0_holderOf_0 rfl (lv_at hl 0 rfl) ?_
  refine lv_istore_n (lv' := [(2, .int 6), (0, .int 6), (1, .int 1)]) hx hb dX0_holderOf_1 rfl hl (by decide) rfl (fun ls hl => ?_)
  refine lv_iconst (v := 0) hx hb dX0_holderOf_2 (by decide) ?_
  refine lv_istore_n (lv' := [(3, .int 0), (2, .int 6), (0, .int 6), (1, .int 1)]) hx hb dX0_holderOf_3 rfl hl (by decide) rfl (fun ls hl => ?_)
  refine lv_iload_n hx hb dX0_holderOf_4 rfl (lv_at hl 0 rfl) ?_
  refine lv_bipush (v := 7) hx hb dX0_holderOf_5 (by decide) ?_
  refine lv_icmp_ge (tgt := 46) hx hb dX0_holderOf_7 (by decide) (fun q => absurd q (by decide)) (fun _ => ?_)
  refine lv_iload_n hx hb dX0_holderOf_10 rfl (lv_at hl 1 rfl) ?_
  refine lv_if_le (tgt := 46) hx hb dX0_holderOf_11 (by decide) (fun q => absurd q (by decide)) (fun _ => ?_)
  refine lv_iload_n hx hb dX0_holderOf_14 rfl (lv_at hl 1 rfl) ?_
  refine lv_bipush (v := 7) hx hb dX0_holderOf_15 (by decide) ?_
  refine lv_icmp_ge (tgt := 46) hx hb dX0_holderOf_17 (by decide) (fun q => absurd q (by decide)) (fun _ => ?_)
  refine g_st_BODY X h dX0_holderOf_20 ?_
  refine lv_iload_n hx hb dX0_holderOf_23 rfl (lv_at hl 1 rfl) ?_
  refine lv_iconst (v := 3) hx hb dX0_holderOf_24 (by decide) ?_
  refine lv_imul hx hb dX0_holderOf_25 ?_
  refine g_tr (y := 18) (by decide) ?_
  refine lv_iload_n hx hb dX0_holderOf_26 rfl (lv_at hl 3 rfl) ?_
  refine lv_iadd hx hb dX0_holderOf_27 ?_
  refine g_tr (y := 19) (by decide) ?_
  refine g_tab1 X h (k := 19) rfl (by decide) dX0_holderOf_28 ?_
  refine g_tr (y := 70) rfl ?_
  refine lv_if_eq (tgt := 34) hx hb dX0_holderOf_29 (by decide) (fun q => absurd q (by decide)) (fun _ => ?_)
  refine lv_iload_n hx hb dX0_holderOf_32 rfl (lv_at hl 1 rfl) ?_
  exact g_iret X h dX0_holderOf_33 ⟨rfl, rfl⟩

set_option maxRecDepth 100000 in
set_option maxHeartbeats 1000000 in
theorem c_X0_holderOf_62 (gl : Launch) (Z : PL) (v : VV) (w : WV) : CT gl yX0_holderOf cX0_holderOf 4 (some .int) 0 0 Z [.int 6, .int 2] v w (Qi Z (fun r u => r = 3 ∧ (v, w) = u)) := by
  refine g_met (by decide) (Nat.le_of_ble_eq_true rfl) ?_
  intro gp ge gs gm ga gb gh gc X h ls hl
  have hx := X.1
  have hb := X.2.1
  have hl : lv_has ls 4 [(0, .int 6), (1, .int 2)] := hl
  refine lv_iload_n hx hb dX0_holderOf_0 rfl (lv_at hl 0 rfl) ?_
  refine lv_istore_n (lv' := [(2, .int 6), (0, .int 6), (1, .int 2)]) hx hb dX0_holderOf_1 rfl hl (by decide) rfl (fun ls hl => ?_)
  refine lv_iconst (v := 0) hx hb dX0_holderOf_2 (by decide) ?_
  refine lv_istore_n (lv' := [(3, .int 0), (2, .int 6), (0, .int 6), (1, .int 2)]) hx hb dX0_holderOf_3 rfl hl (by decide) rfl (fun ls hl => ?_)
  refine lv_iload_n hx hb dX0_holderOf_4 rfl (lv_at hl 0 rfl) ?_
  refine lv_bipush (v := 7) hx hb dX0_holderOf_5 (by decide) ?_
  refine lv_icmp_ge (tgt := 46) hx hb dX0_holderOf_7 (by decide) (fun q => absurd q (by decide)) (fun _ => ?_)
  refine lv_iload_n hx hb dX0_holderOf_10 rfl (lv_at hl 1 rfl) ?_
  refine lv_if_le (tgt := 46) hx hb dX0_holderOf_11 (by decide) (fun q => absurd q (by decide)) (fun _ => ?_)
  refine lv_iload_n hx hb dX0_holderOf_14 rfl (lv_at hl 1 rfl) ?_
  refine lv_bipush (v := 7) hx hb dX0_holderOf_15 (by decide) ?_
  refine lv_icmp_ge (tgt := 46) hx hb dX0_holderOf_17 (by decide) (fun q => absurd q (by decide)) (fun _ => ?_)
  refine g_st_BODY X h dX0_holderOf_20 ?_
  refine lv_iload_n hx hb dX0_holderOf_23 rfl (lv_at hl 1 rfl) ?_
  refine lv_iconst (v := 3) hx hb dX0_holderOf_24 (by decide) ?_
  refine lv_imul hx hb dX0_holderOf_25 ?_
  refine g_tr (y := 18) (by decide) ?_
  refine lv_iload_n hx hb dX0_holderOf_26 rfl (lv_at hl 3 rfl) ?_
  refine lv_iadd hx hb dX0_holderOf_27 ?_
  refine g_tr (y := 20) (by decide) ?_
  refine g_tab1 X h (k := 20) rfl (by decide) dX0_holderOf_28 ?_
  refine g_tr (y := 0) rfl ?_
  refine lv_if_eq (tgt := 34) hx hb dX0_holderOf_29 (by decide) (fun _ => ?_) (fun q => absurd q (by decide))
  refine g_st_ABOVEN X h dX0_holderOf_34 ?_
  refine lv_iload_n hx hb dX0_holderOf_37 rfl (lv_at hl 1 rfl) ?_
  refine g_tab0 X h (k := 6) rfl (by decide) dX0_holderOf_38 ?_
  refine g_tr (y := 3) rfl ?_
  refine lv_istore_n (lv' := [(2, .int 3), (3, .int 0), (0, .int 6), (1, .int 2)]) hx hb dX0_holderOf_39 rfl hl (by decide) rfl (fun ls hl => ?_)
  refine lv_iinc (v := 1) (lv' := [(3, .int 1), (2, .int 3), (0, .int 6), (1, .int 2)]) hx hb dX0_holderOf_40 hl (k := 1) rfl rfl (by decide) rfl (fun ls hl => ?_)
  refine lv_goto (tgt := 4) hx hb dX0_holderOf_43 (by decide) ?_
  refine lv_iload_n hx hb dX0_holderOf_4 rfl (lv_at hl 0 rfl) ?_
  refine lv_bipush (v := 7) hx hb dX0_holderOf_5 (by decide) ?_
  refine lv_icmp_ge (tgt := 46) hx hb dX0_holderOf_7 (by decide) (fun q => absurd q (by decide)) (fun _ => ?_)
  refine lv_iload_n hx hb dX0_holderOf_10 rfl (lv_at hl 1 rfl) ?_
  refine lv_if_le (tgt := 46) hx hb dX0_holderOf_11 (by decide) (fun q => absurd q (by decide)) (fun _ => ?_)
  refine lv_iload_n hx hb dX0_holderOf_14 rfl (lv_at hl 1 rfl) ?_
  refine lv_bipush (v := 7) hx hb dX0_holderOf_15 (by decide) ?_
  refine lv_icmp_ge (tgt := 46) hx hb dX0_holderOf_17 (by decide) (fun q => absurd q (by decide)) (fun _ => ?_)
  refine g_st_BODY X h dX0_holderOf_20 ?_
  refine lv_iload_n hx hb dX0_holderOf_23 rfl (lv_at hl 1 rfl) ?_
  refine lv_iconst (v := 3) hx hb dX0_holderOf_24 (by decide) ?_
  refine lv_imul hx hb dX0_holderOf_25 ?_
  refine g_tr (y := 9) (by decide) ?_
  refine lv_iload_n hx hb dX0_holderOf_26 rfl (lv_at hl 3 rfl) ?_
  refine lv_iadd hx hb dX0_holderOf_27 ?_
  refine g_tr (y := 11) (by decide) ?_
  refine g_tab1 X h (k := 11) rfl (by decide) dX0_holderOf_28 ?_
  refine g_tr (y := 40) rfl ?_
  refine lv_if_eq (tgt := 34) hx hb dX0_holderOf_29 (by decide) (fun q => absurd q (by decide)) (fun _ => ?_)
  refine lv_iload_n hx hb dX0_holderOf_32 rfl (lv_at hl 1 rfl) ?_
  exact g_iret X h dX0_holderOf_33 ⟨rfl, rfl⟩

set_option maxRecDepth 100000 in
set_option maxHeartbeats 1000000 in
theorem c_X0_go_00 (gl : Launch) (Z : PL) (v : VV) (w : WV) (x2 : Int32) (x3 : Int32) (d : Nat) (hd : x3 = nI d) (own : Nat) (ho6 : own ≤ 6) (t : Nat) (hkd : v 110 3 = nI own) (htr : v 110 1 = nI t) (hdm : d ≤ 40) (ht9 : t < 950) : CT gl yX0_go cX0_go 9 (some .int) 1 23 Z [.ref (zg Z 110), .int 0, .int 0, .int x2, .int x3] v w (Qi Z (fun r u => r = opV 0 (v 110 2) (v 110 4) x2 ∧ (ranCL v t (opL 0), w) = u)) := by
  refine g_met (by decide) (Nat.le_of_ble_eq_true rfl) ?_
  intro gp ge gs gm ga gb gh gc X h ls hl
  have hx := X.1
  have hb := X.2.1
  have hl : lv_has ls 9 [(0, .ref (zg Z 110)), (1, .int 0), (2, .int 0), (3, .int x2), (4, .int x3)] := hl
  refine lv_iload hx hb dX0_go_0 (lv_at hl 4 rfl) ?_
  refine lv_bipush (v := 40) hx hb dX0_go_2 (by decide) ?_
  refine lv_icmp_le (tgt := 9) hx hb dX0_go_4 (by decide) (fun c_4 => ?_) (fun c_4 => ?_)
  · skip
    refine lv_iload_n hx hb dX0_go_9 rfl (lv_at hl 1 rfl) ?_
    refine lv_iload_n hx hb dX0_go_10 rfl (lv_at hl 2 rfl) ?_
    refine g_ki h (g_runS X h (As := [.int 0, .int 0]) (rest := []) (c_X0_holderOf_00 gl Z v w) ms_X0_holderOf ml_RX0_51 ⟨Nat.le_of_ble_eq_true rfl, Nat.le_of_ble_eq_true rfl⟩ rfl hl.1 rfl (Nat.le_of_ble_eq_true rfl) dX0_go_11) (fun r11 v11 w11 H locs hp11 h => ?_)
    obtain ⟨hr11, hu11⟩ := hp11; obtain ⟨rfl, rfl⟩ := Prod.mk.inj hu11
    refine g_tr (y := 0) hr11 ?_
    refine lv_istore (lv' := [(5, .int 0), (0, .ref (zg Z 110)), (1, .int 0), (2, .int 0), (3, .int x2), (4, .int x3)]) hx hb dX0_go_14 hl (by decide) rfl (fun ls hl => ?_)
    refine g_st_ABOVEN X h dX0_go_16 ?_
    refine lv_iload hx hb dX0_go_19 (lv_at hl 0 rfl) ?_
    refine g_tab0 X h (k := 0) rfl (by decide) dX0_go_21 ?_
    refine g_tr (y := (-1)) rfl ?_
    refine lv_istore (lv' := [(6, .int (-1)), (5, .int 0), (0, .ref (zg Z 110)), (1, .int 0), (2, .int 0), (3, .int x2), (4, .int x3)]) hx hb dX0_go_22 hl (by decide) rfl (fun ls hl => ?_)
    refine g_st_BODY X h dX0_go_24 ?_
    refine lv_iload hx hb dX0_go_27 (lv_at hl 1 rfl) ?_
    refine lv_iconst (v := 3) hx hb dX0_go_29 (by decide) ?_
    refine lv_imul hx hb dX0_go_30 ?_
    refine g_tr (y := 0) (by decide) ?_
    refine lv_iload_n hx hb dX0_go_31 rfl (lv_at hl 4 rfl) ?_
    refine lv_iadd hx hb dX0_go_32 ?_
    refine g_tr (y := 0) (by decide) ?_
    refine g_tab1 X h (k := 0) rfl (by decide) dX0_go_33 ?_
    refine g_tr (y := 10) rfl ?_
    refine lv_istore (lv' := [(7, .int 10), (6, .int (-1)), (5, .int 0), (0, .ref (zg Z 110)), (1, .int 0), (2, .int 0), (3, .int x2), (4, .int x3)]) hx hb dX0_go_34 hl (by decide) rfl (fun ls hl => ?_)
    refine lv_iload hx hb dX0_go_36 (lv_at hl 7 rfl) ?_
    refine lv_iconst (v := 1) hx hb dX0_go_38 (by decide) ?_
    refine lv_iadd hx hb dX0_go_39 ?_
    refine lv_topi (fun x8_40 ex8_40 => ?_)
    refine lv_istore (lv' := [(8, .int x8_40), (7, .int 10), (6, .int (-1)), (5, .int 0), (0, .ref (zg Z 110)), (1, .int 0), (2, .int 0), (3, .int x2), (4, .int x3)]) hx hb dX0_go_40 hl (by decide) rfl (fun ls hl => ?_)
    refine lv_aload_n hx hb dX0_go_42 rfl (lv_at hl 4 rfl) ?_
    refine lv_iload hx hb dX0_go_43 (lv_at hl 1 rfl) ?_
    refine g_kv h (g_runV X h (As := [.int 10]) (rest := []) (c_X0_note gl Z v w 10 t htr (by omega)) mi_X0_note ml_RX0_54 (cc_110) (by decide) kl0 rfl ⟨Nat.le_of_ble_eq_true rfl, Nat.le_of_ble_eq_true rfl⟩ rfl hl.1 rfl (Nat.le_of_ble_eq_true rfl) dX0_go_45) (fun v45 w45 H locs hp45 h => ?_)
    obtain ⟨ev45, rfl⟩ := Prod.mk.inj hp45
    replace ev45 := ev45.symm
    refine lv_iload hx hb dX0_go_48 (lv_at hl 1 rfl) ?_
    refine lv_lookup (off := 98) (tgt := 148) hx hb dX0_go_50 (by decide) (by decide) (by decide) ?_
    refine lv_iload_n hx hb dX0_go_148 rfl (lv_at hl 7 rfl) ?_
    refine lv_aload_n hx hb dX0_go_149 rfl (lv_at hl 4 rfl) ?_
    refine g_geti X h (k := 2) (cc_110) fr_RX0_25 rfl (by decide) dX0_go_150 ?_
    refine g_tr (y := (v 110 2)) (by rw [ev45, ranC_k (by decide)]) ?_
    refine lv_iadd hx hb dX0_go_153 ?_
    exact g_iret X h dX0_go_154 ⟨rfl, (by rw [ev45]; rfl)⟩
  · exact absurd (nI_le (b := 40) (show d ≤ 40 by omega) (by omega)) (by rw [hd] at c_4; exact c_4)

set_option maxRecDepth 100000 in
set_option maxHeartbeats 1000000 in
theorem c_X0_go_10 (gl : Launch) (Z : PL) (v : VV) (w : WV) (x2 : Int32) (x3 : Int32) (d : Nat) (hd : x3 = nI d) (own : Nat) (ho6 : own ≤ 6) (t : Nat) (hkd : v 110 3 = nI own) (htr : v 110 1 = nI t) (hdm : d ≤ 40) (ht9 : t < 950) : CT gl yX0_go cX0_go 9 (some .int) 1 23 Z [.ref (zg Z 110), .int 1, .int 0, .int x2, .int x3] v w (Qi Z (fun r u => r = opV 1 (v 110 2) (v 110 4) x2 ∧ (ranCL v t (opL 1), w) = u)) := by
  refine g_met (by decide) (Nat.le_of_ble_eq_true rfl) ?_
  intro gp ge gs gm ga gb gh gc X h ls hl
  have hx := X.1
  have hb := X.2.1
  have hl : lv_has ls 9 [(0, .ref (zg Z 110)), (1, .int 1), (2, .int 0), (3, .int x2), (4, .int x3)] := hl
  refine lv_iload hx hb dX0_go_0 (lv_at hl 4 rfl) ?_
  refine lv_bipush (v := 40) hx hb dX0_go_2 (by decide) ?_
  refine lv_icmp_le (tgt := 9) hx hb dX0_go_4 (by decide) (fun c_4 => ?_) (fun c_4 => ?_)
  · skip
    refine lv_iload_n hx hb dX0_go_9 rfl (lv_at hl 1 rfl) ?_
    refine lv_iload_n hx hb dX0_go_10 rfl (lv_at hl 2 rfl) ?_
    refine g_ki h (g_runS X h (As := [.int 1, .int 0]) (rest := []) (c_X0_holderOf_10 gl Z v w) ms_X0_holderOf ml_RX0_51 ⟨Nat.le_of_ble_eq_true rfl, Nat.le_of_ble_eq_true rfl⟩ rfl hl.1 rfl (Nat.le_of_ble_eq_true rfl) dX0_go_11) (fun r11 v11 w11 H locs hp11 h => ?_)
    obtain ⟨hr11, hu11⟩ := hp11; obtain ⟨rfl, rfl⟩ := Prod.mk.inj hu11
    refine g_tr (y := 0) hr11 ?_
    refine lv_istore (lv' := [(5, .int 0), (0, .ref (zg Z 110)), (1, .int 1), (2, .int 0), (3, .int x2), (4, .int x3)]) hx hb dX0_go_14 hl (by decide) rfl (fun ls hl => ?_)
    refine g_st_ABOVEN X h dX0_go_16 ?_
    refine lv_iload hx hb dX0_go_19 (lv_at hl 0 rfl) ?_
    refine g_tab0 X h (k := 0) rfl (by decide) dX0_go_21 ?_
    refine g_tr (y := (-1)) rfl ?_
    refine lv_istore (lv' := [(6, .int (-1)), (5, .int 0), (0, .ref (zg Z 110)), (1, .int 1), (2, .int 0), (3, .int x2), (4, .int x3)]) hx hb dX0_go_22 hl (by decide) rfl (fun ls hl => ?_)
    refine g_st_BODY X h dX0_go_24 ?_
    refine lv_iload hx hb dX0_go_27 (lv_at hl 1 rfl) ?_
    refine lv_iconst (v := 3) hx hb dX0_go_29 (by decide) ?_
    refine lv_imul hx hb dX0_go_30 ?_
    refine g_tr (y := 0) (by decide) ?_
    refine lv_iload_n hx hb dX0_go_31 rfl (lv_at hl 4 rfl) ?_
    refine lv_iadd hx hb dX0_go_32 ?_
    refine g_tr (y := 0) (by decide) ?_
    refine g_tab1 X h (k := 0) rfl (by decide) dX0_go_33 ?_
    refine g_tr (y := 10) rfl ?_
    refine lv_istore (lv' := [(7, .int 10), (6, .int (-1)), (5, .int 0), (0, .ref (zg Z 110)), (1, .int 1), (2, .int 0), (3, .int x2), (4, .int x3)]) hx hb dX0_go_34 hl (by decide) rfl (fun ls hl => ?_)
    refine lv_iload hx hb dX0_go_36 (lv_at hl 7 rfl) ?_
    refine lv_iconst (v := 1) hx hb dX0_go_38 (by decide) ?_
    refine lv_iadd hx hb dX0_go_39 ?_
    refine lv_topi (fun x8_40 ex8_40 => ?_)
    refine lv_istore (lv' := [(8, .int x8_40), (7, .int 10), (6, .int (-1)), (5, .int 0), (0, .ref (zg Z 110)), (1, .int 1), (2, .int 0), (3, .int x2), (4, .int x3)]) hx hb dX0_go_40 hl (by decide) rfl (fun ls hl => ?_)
    refine lv_aload_n hx hb dX0_go_42 rfl (lv_at hl 4 rfl) ?_
    refine lv_iload hx hb dX0_go_43 (lv_at hl 1 rfl) ?_
    refine g_kv h (g_runV X h (As := [.int 10]) (rest := []) (c_X0_note gl Z v w 10 t htr (by omega)) mi_X0_note ml_RX0_54 (cc_110) (by decide) kl0 rfl ⟨Nat.le_of_ble_eq_true rfl, Nat.le_of_ble_eq_true rfl⟩ rfl hl.1 rfl (Nat.le_of_ble_eq_true rfl) dX0_go_45) (fun v45 w45 H locs hp45 h => ?_)
    obtain ⟨ev45, rfl⟩ := Prod.mk.inj hp45
    replace ev45 := ev45.symm
    refine lv_iload hx hb dX0_go_48 (lv_at hl 1 rfl) ?_
    refine lv_lookup (off := 98) (tgt := 148) hx hb dX0_go_50 (by decide) (by decide) (by decide) ?_
    refine lv_iload_n hx hb dX0_go_148 rfl (lv_at hl 7 rfl) ?_
    refine lv_aload_n hx hb dX0_go_149 rfl (lv_at hl 4 rfl) ?_
    refine g_geti X h (k := 2) (cc_110) fr_RX0_25 rfl (by decide) dX0_go_150 ?_
    refine g_tr (y := (v 110 2)) (by rw [ev45, ranC_k (by decide)]) ?_
    refine lv_iadd hx hb dX0_go_153 ?_
    exact g_iret X h dX0_go_154 ⟨rfl, (by rw [ev45]; rfl)⟩
  · exact absurd (nI_le (b := 40) (show d ≤ 40 by omega) (by omega)) (by rw [hd] at c_4; exact c_4)

set_option maxRecDepth 100000 in
set_option maxHeartbeats 1000000 in
theorem c_X0_go_30 (gl : Launch) (Z : PL) (v : VV) (w : WV) (x2 : Int32) (x3 : Int32) (d : Nat) (hd : x3 = nI d) (own : Nat) (ho6 : own ≤ 6) (t : Nat) (hkd : v 110 3 = nI own) (htr : v 110 1 = nI t) (hdm : d ≤ 40) (ht9 : t < 950) : CT gl yX0_go cX0_go 9 (some .int) 1 23 Z [.ref (zg Z 110), .int 3, .int 0, .int x2, .int x3] v w (Qi Z (fun r u => r = opV 3 (v 110 2) (v 110 4) x2 ∧ (ranCL v t (opL 3), w) = u)) := by
  refine g_met (by decide) (Nat.le_of_ble_eq_true rfl) ?_
  intro gp ge gs gm ga gb gh gc X h ls hl
  have hx := X.1
  have hb := X.2.1
  have hl : lv_has ls 9 [(0, .ref (zg Z 110)), (1, .int 3), (2, .int 0), (3, .int x2), (4, .int x3)] := hl
  refine lv_iload hx hb dX0_go_0 (lv_at hl 4 rfl) ?_
  refine lv_bipush (v := 40) hx hb dX0_go_2 (by decide) ?_
  refine lv_icmp_le (tgt := 9) hx hb dX0_go_4 (by decide) (fun c_4 => ?_) (fun c_4 => ?_)
  · skip
    refine lv_iload_n hx hb dX0_go_9 rfl (lv_at hl 1 rfl) ?_
    refine lv_iload_n hx hb dX0_go_10 rfl (lv_at hl 2 rfl) ?_
    refine g_ki h (g_runS X h (As := [.int 3, .int 0]) (rest := []) (c_X0_holderOf_30 gl Z v w) ms_X0_holderOf ml_RX0_51 ⟨Nat.le_of_ble_eq_true rfl, Nat.le_of_ble_eq_true rfl⟩ rfl hl.1 rfl (Nat.le_of_ble_eq_true rfl) dX0_go_11) (fun r11 v11 w11 H locs hp11 h => ?_)
    obtain ⟨hr11, hu11⟩ := hp11; obtain ⟨rfl, rfl⟩ := Prod.mk.inj hu11
    refine g_tr (y := 0) hr11 ?_
    refine lv_istore (lv' := [(5, .int 0), (0, .ref (zg Z 110)), (1, .int 3), (2, .int 0), (3, .int x2), (4, .int x3)]) hx hb dX0_go_14 hl (by decide) rfl (fun ls hl => ?_)
    refine g_st_ABOVEN X h dX0_go_16 ?_
    refine lv_iload hx hb dX0_go_19 (lv_at hl 0 rfl) ?_
    refine g_tab0 X h (k := 0) rfl (by decide) dX0_go_21 ?_
    refine g_tr (y := (-1)) rfl ?_
    refine lv_istore (lv' := [(6, .int (-1)), (5, .int 0), (0, .ref (zg Z 110)), (1, .int 3), (2, .int 0), (3, .int x2), (4, .int x3)]) hx hb dX0_go_22 hl (by decide) rfl (fun ls hl => ?_)
    refine g_st_BODY X h dX0_go_24 ?_
    refine lv_iload hx hb dX0_go_27 (lv_at hl 1 rfl) ?_
    refine lv_iconst (v := 3) hx hb dX0_go_29 (by decide) ?_
    refine lv_imul hx hb dX0_go_30 ?_
    refine g_tr (y := 0) (by decide) ?_
    refine lv_iload_n hx hb dX0_go_31 rfl (lv_at hl 4 rfl) ?_
    refine lv_iadd hx hb dX0_go_32 ?_
    refine g_tr (y := 0) (by decide) ?_
    refine g_tab1 X h (k := 0) rfl (by decide) dX0_go_33 ?_
    refine g_tr (y := 10) rfl ?_
    refine lv_istore (lv' := [(7, .int 10), (6, .int (-1)), (5, .int 0), (0, .ref (zg Z 110)), (1, .int 3), (2, .int 0), (3, .int x2), (4, .int x3)]) hx hb dX0_go_34 hl (by decide) rfl (fun ls hl => ?_)
    refine lv_iload hx hb dX0_go_36 (lv_at hl 7 rfl) ?_
    refine lv_iconst (v := 1) hx hb dX0_go_38 (by decide) ?_
    refine lv_iadd hx hb dX0_go_39 ?_
    refine lv_topi (fun x8_40 ex8_40 => ?_)
    refine lv_istore (lv' := [(8, .int x8_40), (7, .int 10), (6, .int (-1)), (5, .int 0), (0, .ref (zg Z 110)), (1, .int 3), (2, .int 0), (3, .int x2), (4, .int x3)]) hx hb dX0_go_40 hl (by decide) rfl (fun ls hl => ?_)
    refine lv_aload_n hx hb dX0_go_42 rfl (lv_at hl 4 rfl) ?_
    refine lv_iload hx hb dX0_go_43 (lv_at hl 1 rfl) ?_
    refine g_kv h (g_runV X h (As := [.int 10]) (rest := []) (c_X0_note gl Z v w 10 t htr (by omega)) mi_X0_note ml_RX0_54 (cc_110) (by decide) kl0 rfl ⟨Nat.le_of_ble_eq_true rfl, Nat.le_of_ble_eq_true rfl⟩ rfl hl.1 rfl (Nat.le_of_ble_eq_true rfl) dX0_go_45) (fun v45 w45 H locs hp45 h => ?_)
    obtain ⟨ev45, rfl⟩ := Prod.mk.inj hp45
    replace ev45 := ev45.symm
    refine lv_iload hx hb dX0_go_48 (lv_at hl 1 rfl) ?_
    refine lv_lookup (off := 98) (tgt := 148) hx hb dX0_go_50 (by decide) (by decide) (by decide) ?_
    refine lv_iload_n hx hb dX0_go_148 rfl (lv_at hl 7 rfl) ?_
    refine lv_aload_n hx hb dX0_go_149 rfl (lv_at hl 4 rfl) ?_
    refine g_geti X h (k := 2) (cc_110) fr_RX0_25 rfl (by decide) dX0_go_150 ?_
    refine g_tr (y := (v 110 2)) (by rw [ev45, ranC_k (by decide)]) ?_
    refine lv_iadd hx hb dX0_go_153 ?_
    exact g_iret X h dX0_go_154 ⟨rfl, (by rw [ev45]; rfl)⟩
  · exact absurd (nI_le (b := 40) (show d ≤ 40 by omega) (by omega)) (by rw [hd] at c_4; exact c_4)

set_option maxRecDepth 100000 in
set_option maxHeartbeats 1000000 in
theorem c_X0_go_20 (gl : Launch) (Z : PL) (v : VV) (w : WV) (x2 : Int32) (x3 : Int32) (d : Nat) (hd : x3 = nI d) (own : Nat) (ho6 : own ≤ 6) (t : Nat) (hkd : v 110 3 = nI own) (htr : v 110 1 = nI t) (hdm : d ≤ 39) (ht9 : t < 940) : CT gl yX0_go cX0_go 9 (some .int) 2 51 Z [.ref (zg Z 110), .int 2, .int 0, .int x2, .int x3] v w (Qi Z (fun r u => r = opV 2 (v 110 2) (v 110 4) x2 ∧ (ranCL v t (opL 2), w) = u)) := by
  refine g_met (by decide) (Nat.le_of_ble_eq_true rfl) ?_
  intro gp ge gs gm ga gb gh gc X h ls hl
  have hx := X.1
  have hb := X.2.1
  have hl : lv_has ls 9 [(0, .ref (zg Z 110)), (1, .int 2), (2, .int 0), (3, .int x2), (4, .int x3)] := hl
  refine lv_iload hx hb dX0_go_0 (lv_at hl 4 rfl) ?_
  refine lv_bipush (v := 40) hx hb dX0_go_2 (by decide) ?_
  refine lv_icmp_le (tgt := 9) hx hb dX0_go_4 (by decide) (fun c_4 => ?_) (fun c_4 => ?_)
  · skip
    refine lv_iload_n hx hb dX0_go_9 rfl (lv_at hl 1 rfl) ?_
    refine lv_iload_n hx hb dX0_go_10 rfl (lv_at hl 2 rfl) ?_
    refine g_ki h (g_runS X h (As := [.int 2, .int 0]) (rest := []) (c_X0_holderOf_20 gl Z v w) ms_X0_holderOf ml_RX0_51 ⟨Nat.le_of_ble_eq_true rfl, Nat.le_of_ble_eq_true rfl⟩ rfl hl.1 rfl (Nat.le_of_ble_eq_true rfl) dX0_go_11) (fun r11 v11 w11 H locs hp11 h => ?_)
    obtain ⟨hr11, hu11⟩ := hp11; obtain ⟨rfl, rfl⟩ := Prod.mk.inj hu11
    refine g_tr (y := 2) hr11 ?_
    refine lv_istore (lv' := [(5, .int 2), (0, .ref (zg Z 110)), (1, .int 2), (2, .int 0), (3, .int x2), (4, .int x3)]) hx hb dX0_go_14 hl (by decide) rfl (fun ls hl => ?_)
    refine g_st_ABOVEN X h dX0_go_16 ?_
    refine lv_iload hx hb dX0_go_19 (lv_at hl 0 rfl) ?_
    refine g_tab0 X h (k := 2) rfl (by decide) dX0_go_21 ?_
    refine g_tr (y := 0) rfl ?_
    refine lv_istore (lv' := [(6, .int 0), (5, .int 2), (0, .ref (zg Z 110)), (1, .int 2), (2, .int 0), (3, .int x2), (4, .int x3)]) hx hb dX0_go_22 hl (by decide) rfl (fun ls hl => ?_)
    refine g_st_BODY X h dX0_go_24 ?_
    refine lv_iload hx hb dX0_go_27 (lv_at hl 1 rfl) ?_
    refine lv_iconst (v := 3) hx hb dX0_go_29 (by decide) ?_
    refine lv_imul hx hb dX0_go_30 ?_
    refine g_tr (y := 6) (by decide) ?_
    refine lv_iload_n hx hb dX0_go_31 rfl (lv_at hl 4 rfl) ?_
    refine lv_iadd hx hb dX0_go_32 ?_
    refine g_tr (y := 6) (by decide) ?_
    refine g_tab1 X h (k := 6) rfl (by decide) dX0_go_33 ?_
    refine g_tr (y := 30) rfl ?_
    refine lv_istore (lv' := [(7, .int 30), (6, .int 0), (5, .int 2), (0, .ref (zg Z 110)), (1, .int 2), (2, .int 0), (3, .int x2), (4, .int x3)]) hx hb dX0_go_34 hl (by decide) rfl (fun ls hl => ?_)
    refine lv_iload hx hb dX0_go_36 (lv_at hl 7 rfl) ?_
    refine lv_iconst (v := 1) hx hb dX0_go_38 (by decide) ?_
    refine lv_iadd hx hb dX0_go_39 ?_
    refine lv_topi (fun x8_40 ex8_40 => ?_)
    refine lv_istore (lv' := [(8, .int x8_40), (7, .int 30), (6, .int 0), (5, .int 2), (0, .ref (zg Z 110)), (1, .int 2), (2, .int 0), (3, .int x2), (4, .int x3)]) hx hb dX0_go_40 hl (by decide) rfl (fun ls hl => ?_)
    refine lv_aload_n hx hb dX0_go_42 rfl (lv_at hl 4 rfl) ?_
    refine lv_iload hx hb dX0_go_43 (lv_at hl 1 rfl) ?_
    refine g_kv h (g_runV X h (As := [.int 30]) (rest := []) (c_X0_note gl Z v w 30 t htr (by omega)) mi_X0_note ml_RX0_54 (cc_110) (by decide) kl0 rfl ⟨Nat.le_of_ble_eq_true rfl, Nat.le_of_ble_eq_true rfl⟩ rfl hl.1 rfl (Nat.le_of_ble_eq_true rfl) dX0_go_45) (fun v45 w45 H locs hp45 h => ?_)
    obtain ⟨ev45, rfl⟩ := Prod.mk.inj hp45
    replace ev45 := ev45.symm
    refine lv_iload hx hb dX0_go_48 (lv_at hl 1 rfl) ?_
    refine lv_lookup (off := 152) (tgt := 202) hx hb dX0_go_50 (by decide) (by decide) (by decide) ?_
    refine lv_aload_n hx hb dX0_go_202 rfl (lv_at hl 4 rfl) ?_
    refine lv_iload hx hb dX0_go_203 (lv_at hl 2 rfl) ?_
    refine lv_iconst (v := 0) hx hb dX0_go_205 (by decide) ?_
    refine lv_iload_n hx hb dX0_go_206 rfl (lv_at hl 7 rfl) ?_
    refine lv_iconst (v := 3) hx hb dX0_go_207 (by decide) ?_
    refine lv_imul hx hb dX0_go_208 ?_
    refine lv_iload hx hb dX0_go_209 (lv_at hl 0 rfl) ?_
    refine g_ki h (g_runV X h (As := [.int 0, .int 0, .int (x2 * 3), .int x8_40]) (rest := []) (c_X0_go_00 gl Z v45 w (x2 * 3) x8_40 (d + 1) (ex8_40.trans (by rw [show (x3) = nI d from hd, show (1) = nI 1 from rfl, nI_add])) own ho6 (t + 1) (by rw [ev45, ranC_k (by decide)]; exact hkd) (by rw [ev45]; exact ranC_1) (by omega) (by omega)) mi_X0_go ml_RX0_41 (cc_110) (by decide) kl0 rfl ⟨Nat.le_of_ble_eq_true rfl, Nat.le_of_ble_eq_true rfl⟩ rfl hl.1 rfl (Nat.le_of_ble_eq_true rfl) dX0_go_211) (fun r211 v211 w211 H locs hp211 h => ?_)
    obtain ⟨hr211, hw211⟩ := hp211
    obtain ⟨ev211, rfl⟩ := Prod.mk.inj hw211
    replace ev211 := ev211.symm
    exact g_iret X h dX0_go_214 ⟨(by rw [hr211, ev45, ranC_k (by decide), ranC_k (by decide)]; rfl), (by rw [ev211, ev45]; rfl)⟩
  · exact absurd (nI_le (b := 40) (show d ≤ 40 by omega) (by omega)) (by rw [hd] at c_4; exact c_4)

set_option maxRecDepth 100000 in
set_option maxHeartbeats 1000000 in
theorem c_X0_go_50 (gl : Launch) (Z : PL) (v : VV) (w : WV) (x2 : Int32) (x3 : Int32) (d : Nat) (hd : x3 = nI d) (own : Nat) (ho6 : own ≤ 6) (t : Nat) (hkd : v 110 3 = nI own) (htr : v 110 1 = nI t) (hdm : d ≤ 39) (ht9 : t < 940) : CT gl yX0_go cX0_go 9 (some .int) 2 51 Z [.ref (zg Z 110), .int 5, .int 0, .int x2, .int x3] v w (Qi Z (fun r u => r = opV 5 (v 110 2) (v 110 4) x2 ∧ (ranCL v t (opL 5), w) = u)) := by
  refine g_met (by decide) (Nat.le_of_ble_eq_true rfl) ?_
  intro gp ge gs gm ga gb gh gc X h ls hl
  have hx := X.1
  have hb := X.2.1
  have hl : lv_has ls 9 [(0, .ref (zg Z 110)), (1, .int 5), (2, .int 0), (3, .int x2), (4, .int x3)] := hl
  refine lv_iload hx hb dX0_go_0 (lv_at hl 4 rfl) ?_
  refine lv_bipush (v := 40) hx hb dX0_go_2 (by decide) ?_
  refine lv_icmp_le (tgt := 9) hx hb dX0_go_4 (by decide) (fun c_4 => ?_) (fun c_4 => ?_)
  · skip
    refine lv_iload_n hx hb dX0_go_9 rfl (lv_at hl 1 rfl) ?_
    refine lv_iload_n hx hb dX0_go_10 rfl (lv_at hl 2 rfl) ?_
    refine g_ki h (g_runS X h (As := [.int 5, .int 0]) (rest := []) (c_X0_holderOf_50 gl Z v w) ms_X0_holderOf ml_RX0_51 ⟨Nat.le_of_ble_eq_true rfl, Nat.le_of_ble_eq_true rfl⟩ rfl hl.1 rfl (Nat.le_of_ble_eq_true rfl) dX0_go_11) (fun r11 v11 w11 H locs hp11 h => ?_)
    obtain ⟨hr11, hu11⟩ := hp11; obtain ⟨rfl, rfl⟩ := Prod.mk.inj hu11
    refine g_tr (y := 2) hr11 ?_
    refine lv_istore (lv' := [(5, .int 2), (0, .ref (zg Z 110)), (1, .int 5), (2, .int 0), (3, .int x2), (4, .int x3)]) hx hb dX0_go_14 hl (by decide) rfl (fun ls hl => ?_)
    refine g_st_ABOVEN X h dX0_go_16 ?_
    refine lv_iload hx hb dX0_go_19 (lv_at hl 0 rfl) ?_
    refine g_tab0 X h (k := 2) rfl (by decide) dX0_go_21 ?_
    refine g_tr (y := 0) rfl ?_
    refine lv_istore (lv' := [(6, .int 0), (5, .int 2), (0, .ref (zg Z 110)), (1, .int 5), (2, .int 0), (3, .int x2), (4, .int x3)]) hx hb dX0_go_22 hl (by decide) rfl (fun ls hl => ?_)
    refine g_st_BODY X h dX0_go_24 ?_
    refine lv_iload hx hb dX0_go_27 (lv_at hl 1 rfl) ?_
    refine lv_iconst (v := 3) hx hb dX0_go_29 (by decide) ?_
    refine lv_imul hx hb dX0_go_30 ?_
    refine g_tr (y := 6) (by decide) ?_
    refine lv_iload_n hx hb dX0_go_31 rfl (lv_at hl 4 rfl) ?_
    refine lv_iadd hx hb dX0_go_32 ?_
    refine g_tr (y := 6) (by decide) ?_
    refine g_tab1 X h (k := 6) rfl (by decide) dX0_go_33 ?_
    refine g_tr (y := 30) rfl ?_
    refine lv_istore (lv' := [(7, .int 30), (6, .int 0), (5, .int 2), (0, .ref (zg Z 110)), (1, .int 5), (2, .int 0), (3, .int x2), (4, .int x3)]) hx hb dX0_go_34 hl (by decide) rfl (fun ls hl => ?_)
    refine lv_iload hx hb dX0_go_36 (lv_at hl 7 rfl) ?_
    refine lv_iconst (v := 1) hx hb dX0_go_38 (by decide) ?_
    refine lv_iadd hx hb dX0_go_39 ?_
    refine lv_topi (fun x8_40 ex8_40 => ?_)
    refine lv_istore (lv' := [(8, .int x8_40), (7, .int 30), (6, .int 0), (5, .int 2), (0, .ref (zg Z 110)), (1, .int 5), (2, .int 0), (3, .int x2), (4, .int x3)]) hx hb dX0_go_40 hl (by decide) rfl (fun ls hl => ?_)
    refine lv_aload_n hx hb dX0_go_42 rfl (lv_at hl 4 rfl) ?_
    refine lv_iload hx hb dX0_go_43 (lv_at hl 1 rfl) ?_
    refine g_kv h (g_runV X h (As := [.int 30]) (rest := []) (c_X0_note gl Z v w 30 t htr (by omega)) mi_X0_note ml_RX0_54 (cc_110) (by decide) kl0 rfl ⟨Nat.le_of_ble_eq_true rfl, Nat.le_of_ble_eq_true rfl⟩ rfl hl.1 rfl (Nat.le_of_ble_eq_true rfl) dX0_go_45) (fun v45 w45 H locs hp45 h => ?_)
    obtain ⟨ev45, rfl⟩ := Prod.mk.inj hp45
    replace ev45 := ev45.symm
    refine lv_iload hx hb dX0_go_48 (lv_at hl 1 rfl) ?_
    refine lv_lookup (off := 152) (tgt := 202) hx hb dX0_go_50 (by decide) (by decide) (by decide) ?_
    refine lv_aload_n hx hb dX0_go_202 rfl (lv_at hl 4 rfl) ?_
    refine lv_iload hx hb dX0_go_203 (lv_at hl 2 rfl) ?_
    refine lv_iconst (v := 0) hx hb dX0_go_205 (by decide) ?_
    refine lv_iload_n hx hb dX0_go_206 rfl (lv_at hl 7 rfl) ?_
    refine lv_iconst (v := 3) hx hb dX0_go_207 (by decide) ?_
    refine lv_imul hx hb dX0_go_208 ?_
    refine lv_iload hx hb dX0_go_209 (lv_at hl 0 rfl) ?_
    refine g_ki h (g_runV X h (As := [.int 0, .int 0, .int (x2 * 3), .int x8_40]) (rest := []) (c_X0_go_00 gl Z v45 w (x2 * 3) x8_40 (d + 1) (ex8_40.trans (by rw [show (x3) = nI d from hd, show (1) = nI 1 from rfl, nI_add])) own ho6 (t + 1) (by rw [ev45, ranC_k (by decide)]; exact hkd) (by rw [ev45]; exact ranC_1) (by omega) (by omega)) mi_X0_go ml_RX0_41 (cc_110) (by decide) kl0 rfl ⟨Nat.le_of_ble_eq_true rfl, Nat.le_of_ble_eq_true rfl⟩ rfl hl.1 rfl (Nat.le_of_ble_eq_true rfl) dX0_go_211) (fun r211 v211 w211 H locs hp211 h => ?_)
    obtain ⟨hr211, hw211⟩ := hp211
    obtain ⟨ev211, rfl⟩ := Prod.mk.inj hw211
    replace ev211 := ev211.symm
    exact g_iret X h dX0_go_214 ⟨(by rw [hr211, ev45, ranC_k (by decide), ranC_k (by decide)]; rfl), (by rw [ev211, ev45]; rfl)⟩
  · exact absurd (nI_le (b := 40) (show d ≤ 40 by omega) (by omega)) (by rw [hd] at c_4; exact c_4)

set_option maxRecDepth 100000 in
set_option maxHeartbeats 1000000 in
theorem c_X0_go_40 (gl : Launch) (Z : PL) (v : VV) (w : WV) (x2 : Int32) (x3 : Int32) (d : Nat) (hd : x3 = nI d) (own : Nat) (ho6 : own ≤ 6) (t : Nat) (hkd : v 110 3 = nI own) (htr : v 110 1 = nI t) (hdm : d ≤ 39) (ht9 : t < 940) : CT gl yX0_go cX0_go 9 (some .int) 2 51 Z [.ref (zg Z 110), .int 4, .int 0, .int x2, .int x3] v w (Qi Z (fun r u => r = opV 4 (v 110 2) (v 110 4) x2 ∧ (ranCL v t (opL 4), w) = u)) := by
  refine g_met (by decide) (Nat.le_of_ble_eq_true rfl) ?_
  intro gp ge gs gm ga gb gh gc X h ls hl
  have hx := X.1
  have hb := X.2.1
  have hl : lv_has ls 9 [(0, .ref (zg Z 110)), (1, .int 4), (2, .int 0), (3, .int x2), (4, .int x3)] := hl
  refine lv_iload hx hb dX0_go_0 (lv_at hl 4 rfl) ?_
  refine lv_bipush (v := 40) hx hb dX0_go_2 (by decide) ?_
  refine lv_icmp_le (tgt := 9) hx hb dX0_go_4 (by decide) (fun c_4 => ?_) (fun c_4 => ?_)
  · skip
    refine lv_iload_n hx hb dX0_go_9 rfl (lv_at hl 1 rfl) ?_
    refine lv_iload_n hx hb dX0_go_10 rfl (lv_at hl 2 rfl) ?_
    refine g_ki h (g_runS X h (As := [.int 4, .int 0]) (rest := []) (c_X0_holderOf_40 gl Z v w) ms_X0_holderOf ml_RX0_51 ⟨Nat.le_of_ble_eq_true rfl, Nat.le_of_ble_eq_true rfl⟩ rfl hl.1 rfl (Nat.le_of_ble_eq_true rfl) dX0_go_11) (fun r11 v11 w11 H locs hp11 h => ?_)
    obtain ⟨hr11, hu11⟩ := hp11; obtain ⟨rfl, rfl⟩ := Prod.mk.inj hu11
    refine g_tr (y := 4) hr11 ?_
    refine lv_istore (lv' := [(5, .int 4), (0, .ref (zg Z 110)), (1, .int 4), (2, .int 0), (3, .int x2), (4, .int x3)]) hx hb dX0_go_14 hl (by decide) rfl (fun ls hl => ?_)
    refine g_st_ABOVEN X h dX0_go_16 ?_
    refine lv_iload hx hb dX0_go_19 (lv_at hl 0 rfl) ?_
    refine g_tab0 X h (k := 4) rfl (by decide) dX0_go_21 ?_
    refine g_tr (y := 1) rfl ?_
    refine lv_istore (lv' := [(6, .int 1), (5, .int 4), (0, .ref (zg Z 110)), (1, .int 4), (2, .int 0), (3, .int x2), (4, .int x3)]) hx hb dX0_go_22 hl (by decide) rfl (fun ls hl => ?_)
    refine g_st_BODY X h dX0_go_24 ?_
    refine lv_iload hx hb dX0_go_27 (lv_at hl 1 rfl) ?_
    refine lv_iconst (v := 3) hx hb dX0_go_29 (by decide) ?_
    refine lv_imul hx hb dX0_go_30 ?_
    refine g_tr (y := 12) (by decide) ?_
    refine lv_iload_n hx hb dX0_go_31 rfl (lv_at hl 4 rfl) ?_
    refine lv_iadd hx hb dX0_go_32 ?_
    refine g_tr (y := 12) (by decide) ?_
    refine g_tab1 X h (k := 12) rfl (by decide) dX0_go_33 ?_
    refine g_tr (y := 50) rfl ?_
    refine lv_istore (lv' := [(7, .int 50), (6, .int 1), (5, .int 4), (0, .ref (zg Z 110)), (1, .int 4), (2, .int 0), (3, .int x2), (4, .int x3)]) hx hb dX0_go_34 hl (by decide) rfl (fun ls hl => ?_)
    refine lv_iload hx hb dX0_go_36 (lv_at hl 7 rfl) ?_
    refine lv_iconst (v := 1) hx hb dX0_go_38 (by decide) ?_
    refine lv_iadd hx hb dX0_go_39 ?_
    refine lv_topi (fun x8_40 ex8_40 => ?_)
    refine lv_istore (lv' := [(8, .int x8_40), (7, .int 50), (6, .int 1), (5, .int 4), (0, .ref (zg Z 110)), (1, .int 4), (2, .int 0), (3, .int x2), (4, .int x3)]) hx hb dX0_go_40 hl (by decide) rfl (fun ls hl => ?_)
    refine lv_aload_n hx hb dX0_go_42 rfl (lv_at hl 4 rfl) ?_
    refine lv_iload hx hb dX0_go_43 (lv_at hl 1 rfl) ?_
    refine g_kv h (g_runV X h (As := [.int 50]) (rest := []) (c_X0_note gl Z v w 50 t htr (by omega)) mi_X0_note ml_RX0_54 (cc_110) (by decide) kl0 rfl ⟨Nat.le_of_ble_eq_true rfl, Nat.le_of_ble_eq_true rfl⟩ rfl hl.1 rfl (Nat.le_of_ble_eq_true rfl) dX0_go_45) (fun v45 w45 H locs hp45 h => ?_)
    obtain ⟨ev45, rfl⟩ := Prod.mk.inj hp45
    replace ev45 := ev45.symm
    refine lv_iload hx hb dX0_go_48 (lv_at hl 1 rfl) ?_
    refine lv_lookup (off := 189) (tgt := 239) hx hb dX0_go_50 (by decide) (by decide) (by decide) ?_
    refine lv_aload_n hx hb dX0_go_239 rfl (lv_at hl 4 rfl) ?_
    refine lv_iload hx hb dX0_go_240 (lv_at hl 2 rfl) ?_
    refine lv_iconst (v := 0) hx hb dX0_go_242 (by decide) ?_
    refine lv_iload_n hx hb dX0_go_243 rfl (lv_at hl 7 rfl) ?_
    refine lv_iload hx hb dX0_go_244 (lv_at hl 0 rfl) ?_
    refine g_ki h (g_runV X h (As := [.int 1, .int 0, .int x2, .int x8_40]) (rest := []) (c_X0_go_10 gl Z v45 w x2 x8_40 (d + 1) (ex8_40.trans (by rw [show (x3) = nI d from hd, show (1) = nI 1 from rfl, nI_add])) own ho6 (t + 1) (by rw [ev45, ranC_k (by decide)]; exact hkd) (by rw [ev45]; exact ranC_1) (by omega) (by omega)) mi_X0_go ml_RX0_41 (cc_110) (by decide) kl0 rfl ⟨Nat.le_of_ble_eq_true rfl, Nat.le_of_ble_eq_true rfl⟩ rfl hl.1 rfl (Nat.le_of_ble_eq_true rfl) dX0_go_246) (fun r246 v246 w246 H locs hp246 h => ?_)
    obtain ⟨hr246, hw246⟩ := hp246
    obtain ⟨ev246, rfl⟩ := Prod.mk.inj hw246
    replace ev246 := ev246.symm
    refine lv_ineg hx hb dX0_go_249 ?_
    exact g_iret X h dX0_go_250 ⟨(by rw [hr246, ev45, ranC_k (by decide), ranC_k (by decide)]; rfl), (by rw [ev246, ev45]; rfl)⟩
  · exact absurd (nI_le (b := 40) (show d ≤ 40 by omega) (by omega)) (by rw [hd] at c_4; exact c_4)

set_option maxRecDepth 100000 in
set_option maxHeartbeats 1000000 in
theorem c_X0_go_60 (gl : Launch) (Z : PL) (v : VV) (w : WV) (x2 : Int32) (x3 : Int32) (d : Nat) (hd : x3 = nI d) (own : Nat) (ho6 : own ≤ 6) (t : Nat) (hkd : v 110 3 = nI own) (htr : v 110 1 = nI t) (hdm : d ≤ 39) (ht9 : t < 940) : CT gl yX0_go cX0_go 9 (some .int) 2 51 Z [.ref (zg Z 110), .int 6, .int 0, .int x2, .int x3] v w (Qi Z (fun r u => r = opV 6 (v 110 2) (v 110 4) x2 ∧ (ranCL v t (opL 6), w) = u)) := by
  refine g_met (by decide) (Nat.le_of_ble_eq_true rfl) ?_
  intro gp ge gs gm ga gb gh gc X h ls hl
  have hx := X.1
  have hb := X.2.1
  have hl : lv_has ls 9 [(0, .ref (zg Z 110)), (1, .int 6), (2, .int 0), (3, .int x2), (4, .int x3)] := hl
  refine lv_iload hx hb dX0_go_0 (lv_at hl 4 rfl) ?_
  refine lv_bipush (v := 40) hx hb dX0_go_2 (by decide) ?_
  refine lv_icmp_le (tgt := 9) hx hb dX0_go_4 (by decide) (fun c_4 => ?_) (fun c_4 => ?_)
  · skip
    refine lv_iload_n hx hb dX0_go_9 rfl (lv_at hl 1 rfl) ?_
    refine lv_iload_n hx hb dX0_go_10 rfl (lv_at hl 2 rfl) ?_
    refine g_ki h (g_runS X h (As := [.int 6, .int 0]) (rest := []) (c_X0_holderOf_60 gl Z v w) ms_X0_holderOf ml_RX0_51 ⟨Nat.le_of_ble_eq_true rfl, Nat.le_of_ble_eq_true rfl⟩ rfl hl.1 rfl (Nat.le_of_ble_eq_true rfl) dX0_go_11) (fun r11 v11 w11 H locs hp11 h => ?_)
    obtain ⟨hr11, hu11⟩ := hp11; obtain ⟨rfl, rfl⟩ := Prod.mk.inj hu11
    refine g_tr (y := 6) hr11 ?_
    refine lv_istore (lv' := [(5, .int 6), (0, .ref (zg Z 110)), (1, .int 6), (2, .int 0), (3, .int x2), (4, .int x3)]) hx hb dX0_go_14 hl (by decide) rfl (fun ls hl => ?_)
    refine g_st_ABOVEN X h dX0_go_16 ?_
    refine lv_iload hx hb dX0_go_19 (lv_at hl 0 rfl) ?_
    refine g_tab0 X h (k := 6) rfl (by decide) dX0_go_21 ?_
    refine g_tr (y := 3) rfl ?_
    refine lv_istore (lv' := [(6, .int 3), (5, .int 6), (0, .ref (zg Z 110)), (1, .int 6), (2, .int 0), (3, .int x2), (4, .int x3)]) hx hb dX0_go_22 hl (by decide) rfl (fun ls hl => ?_)
    refine g_st_BODY X h dX0_go_24 ?_
    refine lv_iload hx hb dX0_go_27 (lv_at hl 1 rfl) ?_
    refine lv_iconst (v := 3) hx hb dX0_go_29 (by decide) ?_
    refine lv_imul hx hb dX0_go_30 ?_
    refine g_tr (y := 18) (by decide) ?_
    refine lv_iload_n hx hb dX0_go_31 rfl (lv_at hl 4 rfl) ?_
    refine lv_iadd hx hb dX0_go_32 ?_
    refine g_tr (y := 18) (by decide) ?_
    refine g_tab1 X h (k := 18) rfl (by decide) dX0_go_33 ?_
    refine g_tr (y := 71) rfl ?_
    refine lv_istore (lv' := [(7, .int 71), (6, .int 3), (5, .int 6), (0, .ref (zg Z 110)), (1, .int 6), (2, .int 0), (3, .int x2), (4, .int x3)]) hx hb dX0_go_34 hl (by decide) rfl (fun ls hl => ?_)
    refine lv_iload hx hb dX0_go_36 (lv_at hl 7 rfl) ?_
    refine lv_iconst (v := 1) hx hb dX0_go_38 (by decide) ?_
    refine lv_iadd hx hb dX0_go_39 ?_
    refine lv_topi (fun x8_40 ex8_40 => ?_)
    refine lv_istore (lv' := [(8, .int x8_40), (7, .int 71), (6, .int 3), (5, .int 6), (0, .ref (zg Z 110)), (1, .int 6), (2, .int 0), (3, .int x2), (4, .int x3)]) hx hb dX0_go_40 hl (by decide) rfl (fun ls hl => ?_)
    refine lv_aload_n hx hb dX0_go_42 rfl (lv_at hl 4 rfl) ?_
    refine lv_iload hx hb dX0_go_43 (lv_at hl 1 rfl) ?_
    refine g_kv h (g_runV X h (As := [.int 71]) (rest := []) (c_X0_note gl Z v w 71 t htr (by omega)) mi_X0_note ml_RX0_54 (cc_110) (by decide) kl0 rfl ⟨Nat.le_of_ble_eq_true rfl, Nat.le_of_ble_eq_true rfl⟩ rfl hl.1 rfl (Nat.le_of_ble_eq_true rfl) dX0_go_45) (fun v45 w45 H locs hp45 h => ?_)
    obtain ⟨ev45, rfl⟩ := Prod.mk.inj hp45
    replace ev45 := ev45.symm
    refine lv_iload hx hb dX0_go_48 (lv_at hl 1 rfl) ?_
    refine lv_lookup (off := 252) (tgt := 302) hx hb dX0_go_50 (by decide) (by decide) (by decide) ?_
    refine lv_aload_n hx hb dX0_go_302 rfl (lv_at hl 4 rfl) ?_
    refine lv_iload hx hb dX0_go_303 (lv_at hl 2 rfl) ?_
    refine lv_iconst (v := 0) hx hb dX0_go_305 (by decide) ?_
    refine lv_iload_n hx hb dX0_go_306 rfl (lv_at hl 7 rfl) ?_
    refine lv_iload hx hb dX0_go_307 (lv_at hl 0 rfl) ?_
    refine g_ki h (g_runV X h (As := [.int 3, .int 0, .int x2, .int x8_40]) (rest := []) (c_X0_go_30 gl Z v45 w x2 x8_40 (d + 1) (ex8_40.trans (by rw [show (x3) = nI d from hd, show (1) = nI 1 from rfl, nI_add])) own ho6 (t + 1) (by rw [ev45, ranC_k (by decide)]; exact hkd) (by rw [ev45]; exact ranC_1) (by omega) (by omega)) mi_X0_go ml_RX0_41 (cc_110) (by decide) kl0 rfl ⟨Nat.le_of_ble_eq_true rfl, Nat.le_of_ble_eq_true rfl⟩ rfl hl.1 rfl (Nat.le_of_ble_eq_true rfl) dX0_go_309) (fun r309 v309 w309 H locs hp309 h => ?_)
    obtain ⟨hr309, hw309⟩ := hp309
    obtain ⟨ev309, rfl⟩ := Prod.mk.inj hw309
    replace ev309 := ev309.symm
    refine lv_aload_n hx hb dX0_go_312 rfl (lv_at hl 4 rfl) ?_
    refine g_geti X h (k := 4) (cc_110) fr_RX0_39 rfl (by decide) dX0_go_313 ?_
    refine g_tr (y := (v 110 4)) (by rw [ev309, ranCL_k (by decide), ev45, ranC_k (by decide)]) ?_
    refine lv_ixor hx hb dX0_go_316 ?_
    exact g_iret X h dX0_go_317 ⟨(by rw [hr309, ev45, ranC_k (by decide), ranC_k (by decide)]; rfl), (by rw [ev309, ev45]; rfl)⟩
  · exact absurd (nI_le (b := 40) (show d ≤ 40 by omega) (by omega)) (by rw [hd] at c_4; exact c_4)

set_option maxRecDepth 100000 in
set_option maxHeartbeats 1000000 in
theorem c_X0_go_01 (gl : Launch) (Z : PL) (v : VV) (w : WV) (x2 : Int32) (x3 : Int32) (d : Nat) (hd : x3 = nI d) (own : Nat) (ho6 : own ≤ 6) (t : Nat) (hkd : v 110 3 = nI own) (htr : v 110 1 = nI t) (hdm : d ≤ 33) (ht9 : t < 900) : CT gl yX0_go cX0_go 9 (some .int) 3 79 Z [.ref (zg Z 110), .int 0, .int 1, .int x2, .int x3] v w (Qi Z (fun r u => r = prV own 0 (v 110 2) (v 110 4) x2 ∧ (ranCL v t (prL own 0), w) = u)) := by
  refine g_met (by decide) (Nat.le_of_ble_eq_true rfl) ?_
  intro gp ge gs gm ga gb gh gc X h ls hl
  have hx := X.1
  have hb := X.2.1
  have hl : lv_has ls 9 [(0, .ref (zg Z 110)), (1, .int 0), (2, .int 1), (3, .int x2), (4, .int x3)] := hl
  refine lv_iload hx hb dX0_go_0 (lv_at hl 4 rfl) ?_
  refine lv_bipush (v := 40) hx hb dX0_go_2 (by decide) ?_
  refine lv_icmp_le (tgt := 9) hx hb dX0_go_4 (by decide) (fun c_4 => ?_) (fun c_4 => ?_)
  · skip
    refine lv_iload_n hx hb dX0_go_9 rfl (lv_at hl 1 rfl) ?_
    refine lv_iload_n hx hb dX0_go_10 rfl (lv_at hl 2 rfl) ?_
    refine g_ki h (g_runS X h (As := [.int 0, .int 1]) (rest := []) (c_X0_holderOf_01 gl Z v w) ms_X0_holderOf ml_RX0_51 ⟨Nat.le_of_ble_eq_true rfl, Nat.le_of_ble_eq_true rfl⟩ rfl hl.1 rfl (Nat.le_of_ble_eq_true rfl) dX0_go_11) (fun r11 v11 w11 H locs hp11 h => ?_)
    obtain ⟨hr11, hu11⟩ := hp11; obtain ⟨rfl, rfl⟩ := Prod.mk.inj hu11
    refine g_tr (y := 0) hr11 ?_
    refine lv_istore (lv' := [(5, .int 0), (0, .ref (zg Z 110)), (1, .int 0), (2, .int 1), (3, .int x2), (4, .int x3)]) hx hb dX0_go_14 hl (by decide) rfl (fun ls hl => ?_)
    refine g_st_ABOVEN X h dX0_go_16 ?_
    refine lv_iload hx hb dX0_go_19 (lv_at hl 0 rfl) ?_
    refine g_tab0 X h (k := 0) rfl (by decide) dX0_go_21 ?_
    refine g_tr (y := (-1)) rfl ?_
    refine lv_istore (lv' := [(6, .int (-1)), (5, .int 0), (0, .ref (zg Z 110)), (1, .int 0), (2, .int 1), (3, .int x2), (4, .int x3)]) hx hb dX0_go_22 hl (by decide) rfl (fun ls hl => ?_)
    refine g_st_BODY X h dX0_go_24 ?_
    refine lv_iload hx hb dX0_go_27 (lv_at hl 1 rfl) ?_
    refine lv_iconst (v := 3) hx hb dX0_go_29 (by decide) ?_
    refine lv_imul hx hb dX0_go_30 ?_
    refine g_tr (y := 0) (by decide) ?_
    refine lv_iload_n hx hb dX0_go_31 rfl (lv_at hl 4 rfl) ?_
    refine lv_iadd hx hb dX0_go_32 ?_
    refine g_tr (y := 1) (by decide) ?_
    refine g_tab1 X h (k := 1) rfl (by decide) dX0_go_33 ?_
    refine g_tr (y := 11) rfl ?_
    refine lv_istore (lv' := [(7, .int 11), (6, .int (-1)), (5, .int 0), (0, .ref (zg Z 110)), (1, .int 0), (2, .int 1), (3, .int x2), (4, .int x3)]) hx hb dX0_go_34 hl (by decide) rfl (fun ls hl => ?_)
    refine lv_iload hx hb dX0_go_36 (lv_at hl 7 rfl) ?_
    refine lv_iconst (v := 1) hx hb dX0_go_38 (by decide) ?_
    refine lv_iadd hx hb dX0_go_39 ?_
    refine lv_topi (fun x8_40 ex8_40 => ?_)
    refine lv_istore (lv' := [(8, .int x8_40), (7, .int 11), (6, .int (-1)), (5, .int 0), (0, .ref (zg Z 110)), (1, .int 0), (2, .int 1), (3, .int x2), (4, .int x3)]) hx hb dX0_go_40 hl (by decide) rfl (fun ls hl => ?_)
    refine lv_aload_n hx hb dX0_go_42 rfl (lv_at hl 4 rfl) ?_
    refine lv_iload hx hb dX0_go_43 (lv_at hl 1 rfl) ?_
    refine g_kv h (g_runV X h (As := [.int 11]) (rest := []) (c_X0_note gl Z v w 11 t htr (by omega)) mi_X0_note ml_RX0_54 (cc_110) (by decide) kl0 rfl ⟨Nat.le_of_ble_eq_true rfl, Nat.le_of_ble_eq_true rfl⟩ rfl hl.1 rfl (Nat.le_of_ble_eq_true rfl) dX0_go_45) (fun v45 w45 H locs hp45 h => ?_)
    obtain ⟨ev45, rfl⟩ := Prod.mk.inj hp45
    replace ev45 := ev45.symm
    refine lv_iload hx hb dX0_go_48 (lv_at hl 1 rfl) ?_
    refine lv_lookup (off := 105) (tgt := 155) hx hb dX0_go_50 (by decide) (by decide) (by decide) ?_
    refine lv_aload_n hx hb dX0_go_155 rfl (lv_at hl 4 rfl) ?_
    refine lv_aload_n hx hb dX0_go_156 rfl (lv_at hl 4 rfl) ?_
    refine g_geti X h (k := 3) (cc_110) fr_RX0_33 rfl (by decide) dX0_go_157 ?_
    refine g_tr (y := (v 110 3)) (by rw [ev45, ranC_k (by decide)]) ?_
    rcases kind7 hkd ho6 with hk7 | hk7 | hk7 | hk7 | hk7 | hk7 | hk7
    · skip
      obtain rfl : own = 0 := nI_eq1 (b := 0) hkd rfl (by omega) (by omega) hk7
      refine g_tr (y := 0) hk7 ?_
      refine lv_iconst (v := 0) hx hb dX0_go_160 (by decide) ?_
      refine lv_iload_n hx hb dX0_go_161 rfl (lv_at hl 7 rfl) ?_
      refine lv_iload hx hb dX0_go_162 (lv_at hl 0 rfl) ?_
      refine g_ki h (g_runV X h (As := [.int 0, .int 0, .int x2, .int x8_40]) (rest := []) (c_X0_go_00 gl Z v45 w x2 x8_40 (d + 1) (ex8_40.trans (by rw [show (x3) = nI d from hd, show (1) = nI 1 from rfl, nI_add])) 0 (by omega) (t + 1) (by rw [ev45, ranC_k (by decide)]; exact hkd) (by rw [ev45]; exact ranC_1) (by omega) (by omega)) mi_X0_go ml_RX0_41 (cc_110) (by decide) kl0 rfl ⟨Nat.le_of_ble_eq_true rfl, Nat.le_of_ble_eq_true rfl⟩ rfl hl.1 rfl (Nat.le_of_ble_eq_true rfl) dX0_go_164) (fun r164 v164 w164 H locs hp164 h => ?_)
      obtain ⟨hr164, hw164⟩ := hp164
      obtain ⟨ev164, rfl⟩ := Prod.mk.inj hw164
      replace ev164 := ev164.symm
      refine lv_aload_n hx hb dX0_go_167 rfl (lv_at hl 4 rfl) ?_
      refine g_geti X h (k := 4) (cc_110) fr_RX0_39 rfl (by decide) dX0_go_168 ?_
      refine g_tr (y := (v 110 4)) (by rw [ev164, ranCL_k (by decide), ev45, ranC_k (by decide)]) ?_
      refine lv_isub hx hb dX0_go_171 ?_
      exact g_iret X h dX0_go_172 ⟨(by rw [hr164, ev45, ranC_k (by decide), ranC_k (by decide)]; rfl), (by rw [ev164, ev45]; rfl)⟩
    · skip
      obtain rfl : own = 1 := nI_eq1 (b := 1) hkd rfl (by omega) (by omega) hk7
      refine g_tr (y := 1) hk7 ?_
      refine lv_iconst (v := 0) hx hb dX0_go_160 (by decide) ?_
      refine lv_iload_n hx hb dX0_go_161 rfl (lv_at hl 7 rfl) ?_
      refine lv_iload hx hb dX0_go_162 (lv_at hl 0 rfl) ?_
      refine g_ki h (g_runV X h (As := [.int 1, .int 0, .int x2, .int x8_40]) (rest := []) (c_X0_go_10 gl Z v45 w x2 x8_40 (d + 1) (ex8_40.trans (by rw [show (x3) = nI d from hd, show (1) = nI 1 from rfl, nI_add])) 1 (by omega) (t + 1) (by rw [ev45, ranC_k (by decide)]; exact hkd) (by rw [ev45]; exact ranC_1) (by omega) (by omega)) mi_X0_go ml_RX0_41 (cc_110) (by decide) kl0 rfl ⟨Nat.le_of_ble_eq_true rfl, Nat.le_of_ble_eq_true rfl⟩ rfl hl.1 rfl (Nat.le_of_ble_eq_true rfl) dX0_go_164) (fun r164 v164 w164 H locs hp164 h => ?_)
      obtain ⟨hr164, hw164⟩ := hp164
      obtain ⟨ev164, rfl⟩ := Prod.mk.inj hw164
      replace ev164 := ev164.symm
      refine lv_aload_n hx hb dX0_go_167 rfl (lv_at hl 4 rfl) ?_
      refine g_geti X h (k := 4) (cc_110) fr_RX0_39 rfl (by decide) dX0_go_168 ?_
      refine g_tr (y := (v 110 4)) (by rw [ev164, ranCL_k (by decide), ev45, ranC_k (by decide)]) ?_
      refine lv_isub hx hb dX0_go_171 ?_
      exact g_iret X h dX0_go_172 ⟨(by rw [hr164, ev45, ranC_k (by decide), ranC_k (by decide)]; rfl), (by rw [ev164, ev45]; rfl)⟩
    · skip
      obtain rfl : own = 2 := nI_eq1 (b := 2) hkd rfl (by omega) (by omega) hk7
      refine g_tr (y := 2) hk7 ?_
      refine lv_iconst (v := 0) hx hb dX0_go_160 (by decide) ?_
      refine lv_iload_n hx hb dX0_go_161 rfl (lv_at hl 7 rfl) ?_
      refine lv_iload hx hb dX0_go_162 (lv_at hl 0 rfl) ?_
      refine g_ki h (g_runV X h (As := [.int 2, .int 0, .int x2, .int x8_40]) (rest := []) (c_X0_go_20 gl Z v45 w x2 x8_40 (d + 1) (ex8_40.trans (by rw [show (x3) = nI d from hd, show (1) = nI 1 from rfl, nI_add])) 2 (by omega) (t + 1) (by rw [ev45, ranC_k (by decide)]; exact hkd) (by rw [ev45]; exact ranC_1) (by omega) (by omega)) mi_X0_go ml_RX0_41 (cc_110) (by decide) kl0 rfl ⟨Nat.le_of_ble_eq_true rfl, Nat.le_of_ble_eq_true rfl⟩ rfl hl.1 rfl (Nat.le_of_ble_eq_true rfl) dX0_go_164) (fun r164 v164 w164 H locs hp164 h => ?_)
      obtain ⟨hr164, hw164⟩ := hp164
      obtain ⟨ev164, rfl⟩ := Prod.mk.inj hw164
      replace ev164 := ev164.symm
      refine lv_aload_n hx hb dX0_go_167 rfl (lv_at hl 4 rfl) ?_
      refine g_geti X h (k := 4) (cc_110) fr_RX0_39 rfl (by decide) dX0_go_168 ?_
      refine g_tr (y := (v 110 4)) (by rw [ev164, ranCL_k (by decide), ev45, ranC_k (by decide)]) ?_
      refine lv_isub hx hb dX0_go_171 ?_
      exact g_iret X h dX0_go_172 ⟨(by rw [hr164, ev45, ranC_k (by decide), ranC_k (by decide)]; rfl), (by rw [ev164, ev45]; rfl)⟩
    · skip
      obtain rfl : own = 3 := nI_eq1 (b := 3) hkd rfl (by omega) (by omega) hk7
      refine g_tr (y := 3) hk7 ?_
      refine lv_iconst (v := 0) hx hb dX0_go_160 (by decide) ?_
      refine lv_iload_n hx hb dX0_go_161 rfl (lv_at hl 7 rfl) ?_
      refine lv_iload hx hb dX0_go_162 (lv_at hl 0 rfl) ?_
      refine g_ki h (g_runV X h (As := [.int 3, .int 0, .int x2, .int x8_40]) (rest := []) (c_X0_go_30 gl Z v45 w x2 x8_40 (d + 1) (ex8_40.trans (by rw [show (x3) = nI d from hd, show (1) = nI 1 from rfl, nI_add])) 3 (by omega) (t + 1) (by rw [ev45, ranC_k (by decide)]; exact hkd) (by rw [ev45]; exact ranC_1) (by omega) (by omega)) mi_X0_go ml_RX0_41 (cc_110) (by decide) kl0 rfl ⟨Nat.le_of_ble_eq_true rfl, Nat.le_of_ble_eq_true rfl⟩ rfl hl.1 rfl (Nat.le_of_ble_eq_true rfl) dX0_go_164) (fun r164 v164 w164 H locs hp164 h => ?_)
      obtain ⟨hr164, hw164⟩ := hp164
      obtain ⟨ev164, rfl⟩ := Prod.mk.inj hw164
      replace ev164 := ev164.symm
      refine lv_aload_n hx hb dX0_go_167 rfl (lv_at hl 4 rfl) ?_
      refine g_geti X h (k := 4) (cc_110) fr_RX0_39 rfl (by decide) dX0_go_168 ?_
      refine g_tr (y := (v 110 4)) (by rw [ev164, ranCL_k (by decide), ev45, ranC_k (by decide)]) ?_
      refine lv_isub hx hb dX0_go_171 ?_
      exact g_iret X h dX0_go_172 ⟨(by rw [hr164, ev45, ranC_k (by decide), ranC_k (by decide)]; rfl), (by rw [ev164, ev45]; rfl)⟩
    · skip
      obtain rfl : own = 4 := nI_eq1 (b := 4) hkd rfl (by omega) (by omega) hk7
      refine g_tr (y := 4) hk7 ?_
      refine lv_iconst (v := 0) hx hb dX0_go_160 (by decide) ?_
      refine lv_iload_n hx hb dX0_go_161 rfl (lv_at hl 7 rfl) ?_
      refine lv_iload hx hb dX0_go_162 (lv_at hl 0 rfl) ?_
      refine g_ki h (g_runV X h (As := [.int 4, .int 0, .int x2, .int x8_40]) (rest := []) (c_X0_go_40 gl Z v45 w x2 x8_40 (d + 1) (ex8_40.trans (by rw [show (x3) = nI d from hd, show (1) = nI 1 from rfl, nI_add])) 4 (by omega) (t + 1) (by rw [ev45, ranC_k (by decide)]; exact hkd) (by rw [ev45]; exact ranC_1) (by omega) (by omega)) mi_X0_go ml_RX0_41 (cc_110) (by decide) kl0 rfl ⟨Nat.le_of_ble_eq_true rfl, Nat.le_of_ble_eq_true rfl⟩ rfl hl.1 rfl (Nat.le_of_ble_eq_true rfl) dX0_go_164) (fun r164 v164 w164 H locs hp164 h => ?_)
      obtain ⟨hr164, hw164⟩ := hp164
      obtain ⟨ev164, rfl⟩ := Prod.mk.inj hw164
      replace ev164 := ev164.symm
      refine lv_aload_n hx hb dX0_go_167 rfl (lv_at hl 4 rfl) ?_
      refine g_geti X h (k := 4) (cc_110) fr_RX0_39 rfl (by decide) dX0_go_168 ?_
      refine g_tr (y := (v 110 4)) (by rw [ev164, ranCL_k (by decide), ev45, ranC_k (by decide)]) ?_
      refine lv_isub hx hb dX0_go_171 ?_
      exact g_iret X h dX0_go_172 ⟨(by rw [hr164, ev45, ranC_k (by decide), ranC_k (by decide)]; rfl), (by rw [ev164, ev45]; rfl)⟩
    · skip
      obtain rfl : own = 5 := nI_eq1 (b := 5) hkd rfl (by omega) (by omega) hk7
      refine g_tr (y := 5) hk7 ?_
      refine lv_iconst (v := 0) hx hb dX0_go_160 (by decide) ?_
      refine lv_iload_n hx hb dX0_go_161 rfl (lv_at hl 7 rfl) ?_
      refine lv_iload hx hb dX0_go_162 (lv_at hl 0 rfl) ?_
      refine g_ki h (g_runV X h (As := [.int 5, .int 0, .int x2, .int x8_40]) (rest := []) (c_X0_go_50 gl Z v45 w x2 x8_40 (d + 1) (ex8_40.trans (by rw [show (x3) = nI d from hd, show (1) = nI 1 from rfl, nI_add])) 5 (by omega) (t + 1) (by rw [ev45, ranC_k (by decide)]; exact hkd) (by rw [ev45]; exact ranC_1) (by omega) (by omega)) mi_X0_go ml_RX0_41 (cc_110) (by decide) kl0 rfl ⟨Nat.le_of_ble_eq_true rfl, Nat.le_of_ble_eq_true rfl⟩ rfl hl.1 rfl (Nat.le_of_ble_eq_true rfl) dX0_go_164) (fun r164 v164 w164 H locs hp164 h => ?_)
      obtain ⟨hr164, hw164⟩ := hp164
      obtain ⟨ev164, rfl⟩ := Prod.mk.inj hw164
      replace ev164 := ev164.symm
      refine lv_aload_n hx hb dX0_go_167 rfl (lv_at hl 4 rfl) ?_
      refine g_geti X h (k := 4) (cc_110) fr_RX0_39 rfl (by decide) dX0_go_168 ?_
      refine g_tr (y := (v 110 4)) (by rw [ev164, ranCL_k (by decide), ev45, ranC_k (by decide)]) ?_
      refine lv_isub hx hb dX0_go_171 ?_
      exact g_iret X h dX0_go_172 ⟨(by rw [hr164, ev45, ranC_k (by decide), ranC_k (by decide)]; rfl), (by rw [ev164, ev45]; rfl)⟩
    · skip
      obtain rfl : own = 6 := nI_eq1 (b := 6) hkd rfl (by omega) (by omega) hk7
      refine g_tr (y := 6) hk7 ?_
      refine lv_iconst (v := 0) hx hb dX0_go_160 (by decide) ?_
      refine lv_iload_n hx hb dX0_go_161 rfl (lv_at hl 7 rfl) ?_
      refine lv_iload hx hb dX0_go_162 (lv_at hl 0 rfl) ?_
      refine g_ki h (g_runV X h (As := [.int 6, .int 0, .int x2, .int x8_40]) (rest := []) (c_X0_go_60 gl Z v45 w x2 x8_40 (d + 1) (ex8_40.trans (by rw [show (x3) = nI d from hd, show (1) = nI 1 from rfl, nI_add])) 6 (by omega) (t + 1) (by rw [ev45, ranC_k (by decide)]; exact hkd) (by rw [ev45]; exact ranC_1) (by omega) (by omega)) mi_X0_go ml_RX0_41 (cc_110) (by decide) kl0 rfl ⟨Nat.le_of_ble_eq_true rfl, Nat.le_of_ble_eq_true rfl⟩ rfl hl.1 rfl (Nat.le_of_ble_eq_true rfl) dX0_go_164) (fun r164 v164 w164 H locs hp164 h => ?_)
      obtain ⟨hr164, hw164⟩ := hp164
      obtain ⟨ev164, rfl⟩ := Prod.mk.inj hw164
      replace ev164 := ev164.symm
      refine lv_aload_n hx hb dX0_go_167 rfl (lv_at hl 4 rfl) ?_
      refine g_geti X h (k := 4) (cc_110) fr_RX0_39 rfl (by decide) dX0_go_168 ?_
      refine g_tr (y := (v 110 4)) (by rw [ev164, ranCL_k (by decide), ev45, ranC_k (by decide)]) ?_
      refine lv_isub hx hb dX0_go_171 ?_
      exact g_iret X h dX0_go_172 ⟨(by rw [hr164, ev45, ranC_k (by decide), ranC_k (by decide)]; rfl), (by rw [ev164, ev45]; rfl)⟩
  · exact absurd (nI_le (b := 40) (show d ≤ 40 by omega) (by omega)) (by rw [hd] at c_4; exact c_4)

set_option maxRecDepth 100000 in
set_option maxHeartbeats 1000000 in
theorem c_X0_go_21 (gl : Launch) (Z : PL) (v : VV) (w : WV) (x2 : Int32) (x3 : Int32) (d : Nat) (hd : x3 = nI d) (own : Nat) (ho6 : own ≤ 6) (t : Nat) (hkd : v 110 3 = nI own) (htr : v 110 1 = nI t) (hdm : d ≤ 33) (ht9 : t < 900) : CT gl yX0_go cX0_go 9 (some .int) 3 79 Z [.ref (zg Z 110), .int 2, .int 1, .int x2, .int x3] v w (Qi Z (fun r u => r = prV own 2 (v 110 2) (v 110 4) x2 ∧ (ranCL v t (prL own 2), w) = u)) := by
  refine g_met (by decide) (Nat.le_of_ble_eq_true rfl) ?_
  intro gp ge gs gm ga gb gh gc X h ls hl
  have hx := X.1
  have hb := X.2.1
  have hl : lv_has ls 9 [(0, .ref (zg Z 110)), (1, .int 2), (2, .int 1), (3, .int x2), (4, .int x3)] := hl
  refine lv_iload hx hb dX0_go_0 (lv_at hl 4 rfl) ?_
  refine lv_bipush (v := 40) hx hb dX0_go_2 (by decide) ?_
  refine lv_icmp_le (tgt := 9) hx hb dX0_go_4 (by decide) (fun c_4 => ?_) (fun c_4 => ?_)
  · skip
    refine lv_iload_n hx hb dX0_go_9 rfl (lv_at hl 1 rfl) ?_
    refine lv_iload_n hx hb dX0_go_10 rfl (lv_at hl 2 rfl) ?_
    refine g_ki h (g_runS X h (As := [.int 2, .int 1]) (rest := []) (c_X0_holderOf_21 gl Z v w) ms_X0_holderOf ml_RX0_51 ⟨Nat.le_of_ble_eq_true rfl, Nat.le_of_ble_eq_true rfl⟩ rfl hl.1 rfl (Nat.le_of_ble_eq_true rfl) dX0_go_11) (fun r11 v11 w11 H locs hp11 h => ?_)
    obtain ⟨hr11, hu11⟩ := hp11; obtain ⟨rfl, rfl⟩ := Prod.mk.inj hu11
    refine g_tr (y := 0) hr11 ?_
    refine lv_istore (lv' := [(5, .int 0), (0, .ref (zg Z 110)), (1, .int 2), (2, .int 1), (3, .int x2), (4, .int x3)]) hx hb dX0_go_14 hl (by decide) rfl (fun ls hl => ?_)
    refine g_st_ABOVEN X h dX0_go_16 ?_
    refine lv_iload hx hb dX0_go_19 (lv_at hl 0 rfl) ?_
    refine g_tab0 X h (k := 0) rfl (by decide) dX0_go_21 ?_
    refine g_tr (y := (-1)) rfl ?_
    refine lv_istore (lv' := [(6, .int (-1)), (5, .int 0), (0, .ref (zg Z 110)), (1, .int 2), (2, .int 1), (3, .int x2), (4, .int x3)]) hx hb dX0_go_22 hl (by decide) rfl (fun ls hl => ?_)
    refine g_st_BODY X h dX0_go_24 ?_
    refine lv_iload hx hb dX0_go_27 (lv_at hl 1 rfl) ?_
    refine lv_iconst (v := 3) hx hb dX0_go_29 (by decide) ?_
    refine lv_imul hx hb dX0_go_30 ?_
    refine g_tr (y := 0) (by decide) ?_
    refine lv_iload_n hx hb dX0_go_31 rfl (lv_at hl 4 rfl) ?_
    refine lv_iadd hx hb dX0_go_32 ?_
    refine g_tr (y := 1) (by decide) ?_
    refine g_tab1 X h (k := 1) rfl (by decide) dX0_go_33 ?_
    refine g_tr (y := 11) rfl ?_
    refine lv_istore (lv' := [(7, .int 11), (6, .int (-1)), (5, .int 0), (0, .ref (zg Z 110)), (1, .int 2), (2, .int 1), (3, .int x2), (4, .int x3)]) hx hb dX0_go_34 hl (by decide) rfl (fun ls hl => ?_)
    refine lv_iload hx hb dX0_go_36 (lv_at hl 7 rfl) ?_
    refine lv_iconst (v := 1) hx hb dX0_go_38 (by decide) ?_
    refine lv_iadd hx hb dX0_go_39 ?_
    refine lv_topi (fun x8_40 ex8_40 => ?_)
    refine lv_istore (lv' := [(8, .int x8_40), (7, .int 11), (6, .int (-1)), (5, .int 0), (0, .ref (zg Z 110)), (1, .int 2), (2, .int 1), (3, .int x2), (4, .int x3)]) hx hb dX0_go_40 hl (by decide) rfl (fun ls hl => ?_)
    refine lv_aload_n hx hb dX0_go_42 rfl (lv_at hl 4 rfl) ?_
    refine lv_iload hx hb dX0_go_43 (lv_at hl 1 rfl) ?_
    refine g_kv h (g_runV X h (As := [.int 11]) (rest := []) (c_X0_note gl Z v w 11 t htr (by omega)) mi_X0_note ml_RX0_54 (cc_110) (by decide) kl0 rfl ⟨Nat.le_of_ble_eq_true rfl, Nat.le_of_ble_eq_true rfl⟩ rfl hl.1 rfl (Nat.le_of_ble_eq_true rfl) dX0_go_45) (fun v45 w45 H locs hp45 h => ?_)
    obtain ⟨ev45, rfl⟩ := Prod.mk.inj hp45
    replace ev45 := ev45.symm
    refine lv_iload hx hb dX0_go_48 (lv_at hl 1 rfl) ?_
    refine lv_lookup (off := 105) (tgt := 155) hx hb dX0_go_50 (by decide) (by decide) (by decide) ?_
    refine lv_aload_n hx hb dX0_go_155 rfl (lv_at hl 4 rfl) ?_
    refine lv_aload_n hx hb dX0_go_156 rfl (lv_at hl 4 rfl) ?_
    refine g_geti X h (k := 3) (cc_110) fr_RX0_33 rfl (by decide) dX0_go_157 ?_
    refine g_tr (y := (v 110 3)) (by rw [ev45, ranC_k (by decide)]) ?_
    rcases kind7 hkd ho6 with hk7 | hk7 | hk7 | hk7 | hk7 | hk7 | hk7
    · skip
      obtain rfl : own = 0 := nI_eq1 (b := 0) hkd rfl (by omega) (by omega) hk7
      refine g_tr (y := 0) hk7 ?_
      refine lv_iconst (v := 0) hx hb dX0_go_160 (by decide) ?_
      refine lv_iload_n hx hb dX0_go_161 rfl (lv_at hl 7 rfl) ?_
      refine lv_iload hx hb dX0_go_162 (lv_at hl 0 rfl) ?_
      refine g_ki h (g_runV X h (As := [.int 0, .int 0, .int x2, .int x8_40]) (rest := []) (c_X0_go_00 gl Z v45 w x2 x8_40 (d + 1) (ex8_40.trans (by rw [show (x3) = nI d from hd, show (1) = nI 1 from rfl, nI_add])) 0 (by omega) (t + 1) (by rw [ev45, ranC_k (by decide)]; exact hkd) (by rw [ev45]; exact ranC_1) (by omega) (by omega)) mi_X0_go ml_RX0_41 (cc_110) (by decide) kl0 rfl ⟨Nat.le_of_ble_eq_true rfl, Nat.le_of_ble_eq_true rfl⟩ rfl hl.1 rfl (Nat.le_of_ble_eq_true rfl) dX0_go_164) (fun r164 v164 w164 H locs hp164 h => ?_)
      obtain ⟨hr164, hw164⟩ := hp164
      obtain ⟨ev164, rfl⟩ := Prod.mk.inj hw164
      replace ev164 := ev164.symm
      refine lv_aload_n hx hb dX0_go_167 rfl (lv_at hl 4 rfl) ?_
      refine g_geti X h (k := 4) (cc_110) fr_RX0_39 rfl (by decide) dX0_go_168 ?_
      refine g_tr (y := (v 110 4)) (by rw [ev164, ranCL_k (by decide), ev45, ranC_k (by decide)]) ?_
      refine lv_isub hx hb dX0_go_171 ?_
      exact g_iret X h dX0_go_172 ⟨(by rw [hr164, ev45, ranC_k (by decide), ranC_k (by decide)]; rfl), (by rw [ev164, ev45]; rfl)⟩
    · skip
      obtain rfl : own = 1 := nI_eq1 (b := 1) hkd rfl (by omega) (by omega) hk7
      refine g_tr (y := 1) hk7 ?_
      refine lv_iconst (v := 0) hx hb dX0_go_160 (by decide) ?_
      refine lv_iload_n hx hb dX0_go_161 rfl (lv_at hl 7 rfl) ?_
      refine lv_iload hx hb dX0_go_162 (lv_at hl 0 rfl) ?_
      refine g_ki h (g_runV X h (As := [.int 1, .int 0, .int x2, .int x8_40]) (rest := []) (c_X0_go_10 gl Z v45 w x2 x8_40 (d + 1) (ex8_40.trans (by rw [show (x3) = nI d from hd, show (1) = nI 1 from rfl, nI_add])) 1 (by omega) (t + 1) (by rw [ev45, ranC_k (by decide)]; exact hkd) (by rw [ev45]; exact ranC_1) (by omega) (by omega)) mi_X0_go ml_RX0_41 (cc_110) (by decide) kl0 rfl ⟨Nat.le_of_ble_eq_true rfl, Nat.le_of_ble_eq_true rfl⟩ rfl hl.1 rfl (Nat.le_of_ble_eq_true rfl) dX0_go_164) (fun r164 v164 w164 H locs hp164 h => ?_)
      obtain ⟨hr164, hw164⟩ := hp164
      obtain ⟨ev164, rfl⟩ := Prod.mk.inj hw164
      replace ev164 := ev164.symm
      refine lv_aload_n hx hb dX0_go_167 rfl (lv_at hl 4 rfl) ?_
      refine g_geti X h (k := 4) (cc_110) fr_RX0_39 rfl (by decide) dX0_go_168 ?_
      refine g_tr (y := (v 110 4)) (by rw [ev164, ranCL_k (by decide), ev45, ranC_k (by decide)]) ?_
      refine lv_isub hx hb dX0_go_171 ?_
      exact g_iret X h dX0_go_172 ⟨(by rw [hr164, ev45, ranC_k (by decide), ranC_k (by decide)]; rfl), (by rw [ev164, ev45]; rfl)⟩
    · skip
      obtain rfl : own = 2 := nI_eq1 (b := 2) hkd rfl (by omega) (by omega) hk7
      refine g_tr (y := 2) hk7 ?_
      refine lv_iconst (v := 0) hx hb dX0_go_160 (by decide) ?_
      refine lv_iload_n hx hb dX0_go_161 rfl (lv_at hl 7 rfl) ?_
      refine lv_iload hx hb dX0_go_162 (lv_at hl 0 rfl) ?_
      refine g_ki h (g_runV X h (As := [.int 2, .int 0, .int x2, .int x8_40]) (rest := []) (c_X0_go_20 gl Z v45 w x2 x8_40 (d + 1) (ex8_40.trans (by rw [show (x3) = nI d from hd, show (1) = nI 1 from rfl, nI_add])) 2 (by omega) (t + 1) (by rw [ev45, ranC_k (by decide)]; exact hkd) (by rw [ev45]; exact ranC_1) (by omega) (by omega)) mi_X0_go ml_RX0_41 (cc_110) (by decide) kl0 rfl ⟨Nat.le_of_ble_eq_true rfl, Nat.le_of_ble_eq_true rfl⟩ rfl hl.1 rfl (Nat.le_of_ble_eq_true rfl) dX0_go_164) (fun r164 v164 w164 H locs hp164 h => ?_)
      obtain ⟨hr164, hw164⟩ := hp164
      obtain ⟨ev164, rfl⟩ := Prod.mk.inj hw164
      replace ev164 := ev164.symm
      refine lv_aload_n hx hb dX0_go_167 rfl (lv_at hl 4 rfl) ?_
      refine g_geti X h (k := 4) (cc_110) fr_RX0_39 rfl (by decide) dX0_go_168 ?_
      refine g_tr (y := (v 110 4)) (by rw [ev164, ranCL_k (by decide), ev45, ranC_k (by decide)]) ?_
      refine lv_isub hx hb dX0_go_171 ?_
      exact g_iret X h dX0_go_172 ⟨(by rw [hr164, ev45, ranC_k (by decide), ranC_k (by decide)]; rfl), (by rw [ev164, ev45]; rfl)⟩
    · skip
      obtain rfl : own = 3 := nI_eq1 (b := 3) hkd rfl (by omega) (by omega) hk7
      refine g_tr (y := 3) hk7 ?_
      refine lv_iconst (v := 0) hx hb dX0_go_160 (by decide) ?_
      refine lv_iload_n hx hb dX0_go_161 rfl (lv_at hl 7 rfl) ?_
      refine lv_iload hx hb dX0_go_162 (lv_at hl 0 rfl) ?_
      refine g_ki h (g_runV X h (As := [.int 3, .int 0, .int x2, .int x8_40]) (rest := []) (c_X0_go_30 gl Z v45 w x2 x8_40 (d + 1) (ex8_40.trans (by rw [show (x3) = nI d from hd, show (1) = nI 1 from rfl, nI_add])) 3 (by omega) (t + 1) (by rw [ev45, ranC_k (by decide)]; exact hkd) (by rw [ev45]; exact ranC_1) (by omega) (by omega)) mi_X0_go ml_RX0_41 (cc_110) (by decide) kl0 rfl ⟨Nat.le_of_ble_eq_true rfl, Nat.le_of_ble_eq_true rfl⟩ rfl hl.1 rfl (Nat.le_of_ble_eq_true rfl) dX0_go_164) (fun r164 v164 w164 H locs hp164 h => ?_)
      obtain ⟨hr164, hw164⟩ := hp164
      obtain ⟨ev164, rfl⟩ := Prod.mk.inj hw164
      replace ev164 := ev164.symm
      refine lv_aload_n hx hb dX0_go_167 rfl (lv_at hl 4 rfl) ?_
      refine g_geti X h (k := 4) (cc_110) fr_RX0_39 rfl (by decide) dX0_go_168 ?_
      refine g_tr (y := (v 110 4)) (by rw [ev164, ranCL_k (by decide), ev45, ranC_k (by decide)]) ?_
      refine lv_isub hx hb dX0_go_171 ?_
      exact g_iret X h dX0_go_172 ⟨(by rw [hr164, ev45, ranC_k (by decide), ranC_k (by decide)]; rfl), (by rw [ev164, ev45]; rfl)⟩
    · skip
      obtain rfl : own = 4 := nI_eq1 (b := 4) hkd rfl (by omega) (by omega) hk7
      refine g_tr (y := 4) hk7 ?_
      refine lv_iconst (v := 0) hx hb dX0_go_160 (by decide) ?_
      refine lv_iload_n hx hb dX0_go_161 rfl (lv_at hl 7 rfl) ?_
      refine lv_iload hx hb dX0_go_162 (lv_at hl 0 rfl) ?_
      refine g_ki h (g_runV X h (As := [.int 4, .int 0, .int x2, .int x8_40]) (rest := []) (c_X0_go_40 gl Z v45 w x2 x8_40 (d + 1) (ex8_40.trans (by rw [show (x3) = nI d from hd, show (1) = nI 1 from rfl, nI_add])) 4 (by omega) (t + 1) (by rw [ev45, ranC_k (by decide)]; exact hkd) (by rw [ev45]; exact ranC_1) (by omega) (by omega)) mi_X0_go ml_RX0_41 (cc_110) (by decide) kl0 rfl ⟨Nat.le_of_ble_eq_true rfl, Nat.le_of_ble_eq_true rfl⟩ rfl hl.1 rfl (Nat.le_of_ble_eq_true rfl) dX0_go_164) (fun r164 v164 w164 H locs hp164 h => ?_)
      obtain ⟨hr164, hw164⟩ := hp164
      obtain ⟨ev164, rfl⟩ := Prod.mk.inj hw164
      replace ev164 := ev164.symm
      refine lv_aload_n hx hb dX0_go_167 rfl (lv_at hl 4 rfl) ?_
      refine g_geti X h (k := 4) (cc_110) fr_RX0_39 rfl (by decide) dX0_go_168 ?_
      refine g_tr (y := (v 110 4)) (by rw [ev164, ranCL_k (by decide), ev45, ranC_k (by decide)]) ?_
      refine lv_isub hx hb dX0_go_171 ?_
      exact g_iret X h dX0_go_172 ⟨(by rw [hr164, ev45, ranC_k (by decide), ranC_k (by decide)]; rfl), (by rw [ev164, ev45]; rfl)⟩
    · skip
      obtain rfl : own = 5 := nI_eq1 (b := 5) hkd rfl (by omega) (by omega) hk7
      refine g_tr (y := 5) hk7 ?_
      refine lv_iconst (v := 0) hx hb dX0_go_160 (by decide) ?_
      refine lv_iload_n hx hb dX0_go_161 rfl (lv_at hl 7 rfl) ?_
      refine lv_iload hx hb dX0_go_162 (lv_at hl 0 rfl) ?_
      refine g_ki h (g_runV X h (As := [.int 5, .int 0, .int x2, .int x8_40]) (rest := []) (c_X0_go_50 gl Z v45 w x2 x8_40 (d + 1) (ex8_40.trans (by rw [show (x3) = nI d from hd, show (1) = nI 1 from rfl, nI_add])) 5 (by omega) (t + 1) (by rw [ev45, ranC_k (by decide)]; exact hkd) (by rw [ev45]; exact ranC_1) (by omega) (by omega)) mi_X0_go ml_RX0_41 (cc_110) (by decide) kl0 rfl ⟨Nat.le_of_ble_eq_true rfl, Nat.le_of_ble_eq_true rfl⟩ rfl hl.1 rfl (Nat.le_of_ble_eq_true rfl) dX0_go_164) (fun r164 v164 w164 H locs hp164 h => ?_)
      obtain ⟨hr164, hw164⟩ := hp164
      obtain ⟨ev164, rfl⟩ := Prod.mk.inj hw164
      replace ev164 := ev164.symm
      refine lv_aload_n hx hb dX0_go_167 rfl (lv_at hl 4 rfl) ?_
      refine g_geti X h (k := 4) (cc_110) fr_RX0_39 rfl (by decide) dX0_go_168 ?_
      refine g_tr (y := (v 110 4)) (by rw [ev164, ranCL_k (by decide), ev45, ranC_k (by decide)]) ?_
      refine lv_isub hx hb dX0_go_171 ?_
      exact g_iret X h dX0_go_172 ⟨(by rw [hr164, ev45, ranC_k (by decide), ranC_k (by decide)]; rfl), (by rw [ev164, ev45]; rfl)⟩
    · skip
      obtain rfl : own = 6 := nI_eq1 (b := 6) hkd rfl (by omega) (by omega) hk7
      refine g_tr (y := 6) hk7 ?_
      refine lv_iconst (v := 0) hx hb dX0_go_160 (by decide) ?_
      refine lv_iload_n hx hb dX0_go_161 rfl (lv_at hl 7 rfl) ?_
      refine lv_iload hx hb dX0_go_162 (lv_at hl 0 rfl) ?_
      refine g_ki h (g_runV X h (As := [.int 6, .int 0, .int x2, .int x8_40]) (rest := []) (c_X0_go_60 gl Z v45 w x2 x8_40 (d + 1) (ex8_40.trans (by rw [show (x3) = nI d from hd, show (1) = nI 1 from rfl, nI_add])) 6 (by omega) (t + 1) (by rw [ev45, ranC_k (by decide)]; exact hkd) (by rw [ev45]; exact ranC_1) (by omega) (by omega)) mi_X0_go ml_RX0_41 (cc_110) (by decide) kl0 rfl ⟨Nat.le_of_ble_eq_true rfl, Nat.le_of_ble_eq_true rfl⟩ rfl hl.1 rfl (Nat.le_of_ble_eq_true rfl) dX0_go_164) (fun r164 v164 w164 H locs hp164 h => ?_)
      obtain ⟨hr164, hw164⟩ := hp164
      obtain ⟨ev164, rfl⟩ := Prod.mk.inj hw164
      replace ev164 := ev164.symm
      refine lv_aload_n hx hb dX0_go_167 rfl (lv_at hl 4 rfl) ?_
      refine g_geti X h (k := 4) (cc_110) fr_RX0_39 rfl (by decide) dX0_go_168 ?_
      refine g_tr (y := (v 110 4)) (by rw [ev164, ranCL_k (by decide), ev45, ranC_k (by decide)]) ?_
      refine lv_isub hx hb dX0_go_171 ?_
      exact g_iret X h dX0_go_172 ⟨(by rw [hr164, ev45, ranC_k (by decide), ranC_k (by decide)]; rfl), (by rw [ev164, ev45]; rfl)⟩
  · exact absurd (nI_le (b := 40) (show d ≤ 40 by omega) (by omega)) (by rw [hd] at c_4; exact c_4)

set_option maxRecDepth 100000 in
set_option maxHeartbeats 1000000 in
theorem c_X0_go_31 (gl : Launch) (Z : PL) (v : VV) (w : WV) (x2 : Int32) (x3 : Int32) (d : Nat) (hd : x3 = nI d) (own : Nat) (ho6 : own ≤ 6) (t : Nat) (hkd : v 110 3 = nI own) (htr : v 110 1 = nI t) (hdm : d ≤ 33) (ht9 : t < 900) : CT gl yX0_go cX0_go 9 (some .int) 3 79 Z [.ref (zg Z 110), .int 3, .int 1, .int x2, .int x3] v w (Qi Z (fun r u => r = prV own 3 (v 110 2) (v 110 4) x2 ∧ (ranCL v t (prL own 3), w) = u)) := by
  refine g_met (by decide) (Nat.le_of_ble_eq_true rfl) ?_
  intro gp ge gs gm ga gb gh gc X h ls hl
  have hx := X.1
  have hb := X.2.1
  have hl : lv_has ls 9 [(0, .ref (zg Z 110)), (1, .int 3), (2, .int 1), (3, .int x2), (4, .int x3)] := hl
  refine lv_iload hx hb dX0_go_0 (lv_at hl 4 rfl) ?_
  refine lv_bipush (v := 40) hx hb dX0_go_2 (by decide) ?_
  refine lv_icmp_le (tgt := 9) hx hb dX0_go_4 (by decide) (fun c_4 => ?_) (fun c_4 => ?_)
  · skip
    refine lv_iload_n hx hb dX0_go_9 rfl (lv_at hl 1 rfl) ?_
    refine lv_iload_n hx hb dX0_go_10 rfl (lv_at hl 2 rfl) ?_
    refine g_ki h (g_runS X h (As := [.int 3, .int 1]) (rest := []) (c_X0_holderOf_31 gl Z v w) ms_X0_holderOf ml_RX0_51 ⟨Nat.le_of_ble_eq_true rfl, Nat.le_of_ble_eq_true rfl⟩ rfl hl.1 rfl (Nat.le_of_ble_eq_true rfl) dX0_go_11) (fun r11 v11 w11 H locs hp11 h => ?_)
    obtain ⟨hr11, hu11⟩ := hp11; obtain ⟨rfl, rfl⟩ := Prod.mk.inj hu11
    refine g_tr (y := 0) hr11 ?_
    refine lv_istore (lv' := [(5, .int 0), (0, .ref (zg Z 110)), (1, .int 3), (2, .int 1), (3, .int x2), (4, .int x3)]) hx hb dX0_go_14 hl (by decide) rfl (fun ls hl => ?_)
    refine g_st_ABOVEN X h dX0_go_16 ?_
    refine lv_iload hx hb dX0_go_19 (lv_at hl 0 rfl) ?_
    refine g_tab0 X h (k := 0) rfl (by decide) dX0_go_21 ?_
    refine g_tr (y := (-1)) rfl ?_
    refine lv_istore (lv' := [(6, .int (-1)), (5, .int 0), (0, .ref (zg Z 110)), (1, .int 3), (2, .int 1), (3, .int x2), (4, .int x3)]) hx hb dX0_go_22 hl (by decide) rfl (fun ls hl => ?_)
    refine g_st_BODY X h dX0_go_24 ?_
    refine lv_iload hx hb dX0_go_27 (lv_at hl 1 rfl) ?_
    refine lv_iconst (v := 3) hx hb dX0_go_29 (by decide) ?_
    refine lv_imul hx hb dX0_go_30 ?_
    refine g_tr (y := 0) (by decide) ?_
    refine lv_iload_n hx hb dX0_go_31 rfl (lv_at hl 4 rfl) ?_
    refine lv_iadd hx hb dX0_go_32 ?_
    refine g_tr (y := 1) (by decide) ?_
    refine g_tab1 X h (k := 1) rfl (by decide) dX0_go_33 ?_
    refine g_tr (y := 11) rfl ?_
    refine lv_istore (lv' := [(7, .int 11), (6, .int (-1)), (5, .int 0), (0, .ref (zg Z 110)), (1, .int 3), (2, .int 1), (3, .int x2), (4, .int x3)]) hx hb dX0_go_34 hl (by decide) rfl (fun ls hl => ?_)
    refine lv_iload hx hb dX0_go_36 (lv_at hl 7 rfl) ?_
    refine lv_iconst (v := 1) hx hb dX0_go_38 (by decide) ?_
    refine lv_iadd hx hb dX0_go_39 ?_
    refine lv_topi (fun x8_40 ex8_40 => ?_)
    refine lv_istore (lv' := [(8, .int x8_40), (7, .int 11), (6, .int (-1)), (5, .int 0), (0, .ref (zg Z 110)), (1, .int 3), (2, .int 1), (3, .int x2), (4, .int x3)]) hx hb dX0_go_40 hl (by decide) rfl (fun ls hl => ?_)
    refine lv_aload_n hx hb dX0_go_42 rfl (lv_at hl 4 rfl) ?_
    refine lv_iload hx hb dX0_go_43 (lv_at hl 1 rfl) ?_
    refine g_kv h (g_runV X h (As := [.int 11]) (rest := []) (c_X0_note gl Z v w 11 t htr (by omega)) mi_X0_note ml_RX0_54 (cc_110) (by decide) kl0 rfl ⟨Nat.le_of_ble_eq_true rfl, Nat.le_of_ble_eq_true rfl⟩ rfl hl.1 rfl (Nat.le_of_ble_eq_true rfl) dX0_go_45) (fun v45 w45 H locs hp45 h => ?_)
    obtain ⟨ev45, rfl⟩ := Prod.mk.inj hp45
    replace ev45 := ev45.symm
    refine lv_iload hx hb dX0_go_48 (lv_at hl 1 rfl) ?_
    refine lv_lookup (off := 105) (tgt := 155) hx hb dX0_go_50 (by decide) (by decide) (by decide) ?_
    refine lv_aload_n hx hb dX0_go_155 rfl (lv_at hl 4 rfl) ?_
    refine lv_aload_n hx hb dX0_go_156 rfl (lv_at hl 4 rfl) ?_
    refine g_geti X h (k := 3) (cc_110) fr_RX0_33 rfl (by decide) dX0_go_157 ?_
    refine g_tr (y := (v 110 3)) (by rw [ev45, ranC_k (by decide)]) ?_
    rcases kind7 hkd ho6 with hk7 | hk7 | hk7 | hk7 | hk7 | hk7 | hk7
    · skip
      obtain rfl : own = 0 := nI_eq1 (b := 0) hkd rfl (by omega) (by omega) hk7
      refine g_tr (y := 0) hk7 ?_
      refine lv_iconst (v := 0) hx hb dX0_go_160 (by decide) ?_
      refine lv_iload_n hx hb dX0_go_161 rfl (lv_at hl 7 rfl) ?_
      refine lv_iload hx hb dX0_go_162 (lv_at hl 0 rfl) ?_
      refine g_ki h (g_runV X h (As := [.int 0, .int 0, .int x2, .int x8_40]) (rest := []) (c_X0_go_00 gl Z v45 w x2 x8_40 (d + 1) (ex8_40.trans (by rw [show (x3) = nI d from hd, show (1) = nI 1 from rfl, nI_add])) 0 (by omega) (t + 1) (by rw [ev45, ranC_k (by decide)]; exact hkd) (by rw [ev45]; exact ranC_1) (by omega) (by omega)) mi_X0_go ml_RX0_41 (cc_110) (by decide) kl0 rfl ⟨Nat.le_of_ble_eq_true rfl, Nat.le_of_ble_eq_true rfl⟩ rfl hl.1 rfl (Nat.le_of_ble_eq_true rfl) dX0_go_164) (fun r164 v164 w164 H locs hp164 h => ?_)
      obtain ⟨hr164, hw164⟩ := hp164
      obtain ⟨ev164, rfl⟩ := Prod.mk.inj hw164
      replace ev164 := ev164.symm
      refine lv_aload_n hx hb dX0_go_167 rfl (lv_at hl 4 rfl) ?_
      refine g_geti X h (k := 4) (cc_110) fr_RX0_39 rfl (by decide) dX0_go_168 ?_
      refine g_tr (y := (v 110 4)) (by rw [ev164, ranCL_k (by decide), ev45, ranC_k (by decide)]) ?_
      refine lv_isub hx hb dX0_go_171 ?_
      exact g_iret X h dX0_go_172 ⟨(by rw [hr164, ev45, ranC_k (by decide), ranC_k (by decide)]; rfl), (by rw [ev164, ev45]; rfl)⟩
    · skip
      obtain rfl : own = 1 := nI_eq1 (b := 1) hkd rfl (by omega) (by omega) hk7
      refine g_tr (y := 1) hk7 ?_
      refine lv_iconst (v := 0) hx hb dX0_go_160 (by decide) ?_
      refine lv_iload_n hx hb dX0_go_161 rfl (lv_at hl 7 rfl) ?_
      refine lv_iload hx hb dX0_go_162 (lv_at hl 0 rfl) ?_
      refine g_ki h (g_runV X h (As := [.int 1, .int 0, .int x2, .int x8_40]) (rest := []) (c_X0_go_10 gl Z v45 w x2 x8_40 (d + 1) (ex8_40.trans (by rw [show (x3) = nI d from hd, show (1) = nI 1 from rfl, nI_add])) 1 (by omega) (t + 1) (by rw [ev45, ranC_k (by decide)]; exact hkd) (by rw [ev45]; exact ranC_1) (by omega) (by omega)) mi_X0_go ml_RX0_41 (cc_110) (by decide) kl0 rfl ⟨Nat.le_of_ble_eq_true rfl, Nat.le_of_ble_eq_true rfl⟩ rfl hl.1 rfl (Nat.le_of_ble_eq_true rfl) dX0_go_164) (fun r164 v164 w164 H locs hp164 h => ?_)
      obtain ⟨hr164, hw164⟩ := hp164
      obtain ⟨ev164, rfl⟩ := Prod.mk.inj hw164
      replace ev164 := ev164.symm
      refine lv_aload_n hx hb dX0_go_167 rfl (lv_at hl 4 rfl) ?_
      refine g_geti X h (k := 4) (cc_110) fr_RX0_39 rfl (by decide) dX0_go_168 ?_
      refine g_tr (y := (v 110 4)) (by rw [ev164, ranCL_k (by decide), ev45, ranC_k (by decide)]) ?_
      refine lv_isub hx hb dX0_go_171 ?_
      exact g_iret X h dX0_go_172 ⟨(by rw [hr164, ev45, ranC_k (by decide), ranC_k (by decide)]; rfl), (by rw [ev164, ev45]; rfl)⟩
    · skip
      obtain rfl : own = 2 := nI_eq1 (b := 2) hkd rfl (by omega) (by omega) hk7
      refine g_tr (y := 2) hk7 ?_
      refine lv_iconst (v := 0) hx hb dX0_go_160 (by decide) ?_
      refine lv_iload_n hx hb dX0_go_161 rfl (lv_at hl 7 rfl) ?_
      refine lv_iload hx hb dX0_go_162 (lv_at hl 0 rfl) ?_
      refine g_ki h (g_runV X h (As := [.int 2, .int 0, .int x2, .int x8_40]) (rest := []) (c_X0_go_20 gl Z v45 w x2 x8_40 (d + 1) (ex8_40.trans (by rw [show (x3) = nI d from hd, show (1) = nI 1 from rfl, nI_add])) 2 (by omega) (t + 1) (by rw [ev45, ranC_k (by decide)]; exact hkd) (by rw [ev45]; exact ranC_1) (by omega) (by omega)) mi_X0_go ml_RX0_41 (cc_110) (by decide) kl0 rfl ⟨Nat.le_of_ble_eq_true rfl, Nat.le_of_ble_eq_true rfl⟩ rfl hl.1 rfl (Nat.le_of_ble_eq_true rfl) dX0_go_164) (fun r164 v164 w164 H locs hp164 h => ?_)
      obtain ⟨hr164, hw164⟩ := hp164
      obtain ⟨ev164, rfl⟩ := Prod.mk.inj hw164
      replace ev164 := ev164.symm
      refine lv_aload_n hx hb dX0_go_167 rfl (lv_at hl 4 rfl) ?_
      refine g_geti X h (k := 4) (cc_110) fr_RX0_39 rfl (by decide) dX0_go_168 ?_
      refine g_tr (y := (v 110 4)) (by rw [ev164, ranCL_k (by decide), ev45, ranC_k (by decide)]) ?_
      refine lv_isub hx hb dX0_go_171 ?_
      exact g_iret X h dX0_go_172 ⟨(by rw [hr164, ev45, ranC_k (by decide), ranC_k (by decide)]; rfl), (by rw [ev164, ev45]; rfl)⟩
    · skip
      obtain rfl : own = 3 := nI_eq1 (b := 3) hkd rfl (by omega) (by omega) hk7
      refine g_tr (y := 3) hk7 ?_
      refine lv_iconst (v := 0) hx hb dX0_go_160 (by decide) ?_
      refine lv_iload_n hx hb dX0_go_161 rfl (lv_at hl 7 rfl) ?_
      refine lv_iload hx hb dX0_go_162 (lv_at hl 0 rfl) ?_
      refine g_ki h (g_runV X h (As := [.int 3, .int 0, .int x2, .int x8_40]) (rest := []) (c_X0_go_30 gl Z v45 w x2 x8_40 (d + 1) (ex8_40.trans (by rw [show (x3) = nI d from hd, show (1) = nI 1 from rfl, nI_add])) 3 (by omega) (t + 1) (by rw [ev45, ranC_k (by decide)]; exact hkd) (by rw [ev45]; exact ranC_1) (by omega) (by omega)) mi_X0_go ml_RX0_41 (cc_110) (by decide) kl0 rfl ⟨Nat.le_of_ble_eq_true rfl, Nat.le_of_ble_eq_true rfl⟩ rfl hl.1 rfl (Nat.le_of_ble_eq_true rfl) dX0_go_164) (fun r164 v164 w164 H locs hp164 h => ?_)
      obtain ⟨hr164, hw164⟩ := hp164
      obtain ⟨ev164, rfl⟩ := Prod.mk.inj hw164
      replace ev164 := ev164.symm
      refine lv_aload_n hx hb dX0_go_167 rfl (lv_at hl 4 rfl) ?_
      refine g_geti X h (k := 4) (cc_110) fr_RX0_39 rfl (by decide) dX0_go_168 ?_
      refine g_tr (y := (v 110 4)) (by rw [ev164, ranCL_k (by decide), ev45, ranC_k (by decide)]) ?_
      refine lv_isub hx hb dX0_go_171 ?_
      exact g_iret X h dX0_go_172 ⟨(by rw [hr164, ev45, ranC_k (by decide), ranC_k (by decide)]; rfl), (by rw [ev164, ev45]; rfl)⟩
    · skip
      obtain rfl : own = 4 := nI_eq1 (b := 4) hkd rfl (by omega) (by omega) hk7
      refine g_tr (y := 4) hk7 ?_
      refine lv_iconst (v := 0) hx hb dX0_go_160 (by decide) ?_
      refine lv_iload_n hx hb dX0_go_161 rfl (lv_at hl 7 rfl) ?_
      refine lv_iload hx hb dX0_go_162 (lv_at hl 0 rfl) ?_
      refine g_ki h (g_runV X h (As := [.int 4, .int 0, .int x2, .int x8_40]) (rest := []) (c_X0_go_40 gl Z v45 w x2 x8_40 (d + 1) (ex8_40.trans (by rw [show (x3) = nI d from hd, show (1) = nI 1 from rfl, nI_add])) 4 (by omega) (t + 1) (by rw [ev45, ranC_k (by decide)]; exact hkd) (by rw [ev45]; exact ranC_1) (by omega) (by omega)) mi_X0_go ml_RX0_41 (cc_110) (by decide) kl0 rfl ⟨Nat.le_of_ble_eq_true rfl, Nat.le_of_ble_eq_true rfl⟩ rfl hl.1 rfl (Nat.le_of_ble_eq_true rfl) dX0_go_164) (fun r164 v164 w164 H locs hp164 h => ?_)
      obtain ⟨hr164, hw164⟩ := hp164
      obtain ⟨ev164, rfl⟩ := Prod.mk.inj hw164
      replace ev164 := ev164.symm
      refine lv_aload_n hx hb dX0_go_167 rfl (lv_at hl 4 rfl) ?_
      refine g_geti X h (k := 4) (cc_110) fr_RX0_39 rfl (by decide) dX0_go_168 ?_
      refine g_tr (y := (v 110 4)) (by rw [ev164, ranCL_k (by decide), ev45, ranC_k (by decide)]) ?_
      refine lv_isub hx hb dX0_go_171 ?_
      exact g_iret X h dX0_go_172 ⟨(by rw [hr164, ev45, ranC_k (by decide), ranC_k (by decide)]; rfl), (by rw [ev164, ev45]; rfl)⟩
    · skip
      obtain rfl : own = 5 := nI_eq1 (b := 5) hkd rfl (by omega) (by omega) hk7
      refine g_tr (y := 5) hk7 ?_
      refine lv_iconst (v := 0) hx hb dX0_go_160 (by decide) ?_
      refine lv_iload_n hx hb dX0_go_161 rfl (lv_at hl 7 rfl) ?_
      refine lv_iload hx hb dX0_go_162 (lv_at hl 0 rfl) ?_
      refine g_ki h (g_runV X h (As := [.int 5, .int 0, .int x2, .int x8_40]) (rest := []) (c_X0_go_50 gl Z v45 w x2 x8_40 (d + 1) (ex8_40.trans (by rw [show (x3) = nI d from hd, show (1) = nI 1 from rfl, nI_add])) 5 (by omega) (t + 1) (by rw [ev45, ranC_k (by decide)]; exact hkd) (by rw [ev45]; exact ranC_1) (by omega) (by omega)) mi_X0_go ml_RX0_41 (cc_110) (by decide) kl0 rfl ⟨Nat.le_of_ble_eq_true rfl, Nat.le_of_ble_eq_true rfl⟩ rfl hl.1 rfl (Nat.le_of_ble_eq_true rfl) dX0_go_164) (fun r164 v164 w164 H locs hp164 h => ?_)
      obtain ⟨hr164, hw164⟩ := hp164
      obtain ⟨ev164, rfl⟩ := Prod.mk.inj hw164
      replace ev164 := ev164.symm
      refine lv_aload_n hx hb dX0_go_167 rfl (lv_at hl 4 rfl) ?_
      refine g_geti X h (k := 4) (cc_110) fr_RX0_39 rfl (by decide) dX0_go_168 ?_
      refine g_tr (y := (v 110 4)) (by rw [ev164, ranCL_k (by decide), ev45, ranC_k (by decide)]) ?_
      refine lv_isub hx hb dX0_go_171 ?_
      exact g_iret X h dX0_go_172 ⟨(by rw [hr164, ev45, ranC_k (by decide), ranC_k (by decide)]; rfl), (by rw [ev164, ev45]; rfl)⟩
    · skip
      obtain rfl : own = 6 := nI_eq1 (b := 6) hkd rfl (by omega) (by omega) hk7
      refine g_tr (y := 6) hk7 ?_
      refine lv_iconst (v := 0) hx hb dX0_go_160 (by decide) ?_
      refine lv_iload_n hx hb dX0_go_161 rfl (lv_at hl 7 rfl) ?_
      refine lv_iload hx hb dX0_go_162 (lv_at hl 0 rfl) ?_
      refine g_ki h (g_runV X h (As := [.int 6, .int 0, .int x2, .int x8_40]) (rest := []) (c_X0_go_60 gl Z v45 w x2 x8_40 (d + 1) (ex8_40.trans (by rw [show (x3) = nI d from hd, show (1) = nI 1 from rfl, nI_add])) 6 (by omega) (t + 1) (by rw [ev45, ranC_k (by decide)]; exact hkd) (by rw [ev45]; exact ranC_1) (by omega) (by omega)) mi_X0_go ml_RX0_41 (cc_110) (by decide) kl0 rfl ⟨Nat.le_of_ble_eq_true rfl, Nat.le_of_ble_eq_true rfl⟩ rfl hl.1 rfl (Nat.le_of_ble_eq_true rfl) dX0_go_164) (fun r164 v164 w164 H locs hp164 h => ?_)
      obtain ⟨hr164, hw164⟩ := hp164
      obtain ⟨ev164, rfl⟩ := Prod.mk.inj hw164
      replace ev164 := ev164.symm
      refine lv_aload_n hx hb dX0_go_167 rfl (lv_at hl 4 rfl) ?_
      refine g_geti X h (k := 4) (cc_110) fr_RX0_39 rfl (by decide) dX0_go_168 ?_
      refine g_tr (y := (v 110 4)) (by rw [ev164, ranCL_k (by decide), ev45, ranC_k (by decide)]) ?_
      refine lv_isub hx hb dX0_go_171 ?_
      exact g_iret X h dX0_go_172 ⟨(by rw [hr164, ev45, ranC_k (by decide), ranC_k (by decide)]; rfl), (by rw [ev164, ev45]; rfl)⟩
  · exact absurd (nI_le (b := 40) (show d ≤ 40 by omega) (by omega)) (by rw [hd] at c_4; exact c_4)

set_option maxRecDepth 100000 in
set_option maxHeartbeats 1000000 in
theorem c_X0_go_51 (gl : Launch) (Z : PL) (v : VV) (w : WV) (x2 : Int32) (x3 : Int32) (d : Nat) (hd : x3 = nI d) (own : Nat) (ho6 : own ≤ 6) (t : Nat) (hkd : v 110 3 = nI own) (htr : v 110 1 = nI t) (hdm : d ≤ 33) (ht9 : t < 900) : CT gl yX0_go cX0_go 9 (some .int) 3 79 Z [.ref (zg Z 110), .int 5, .int 1, .int x2, .int x3] v w (Qi Z (fun r u => r = prV own 5 (v 110 2) (v 110 4) x2 ∧ (ranCL v t (prL own 5), w) = u)) := by
  refine g_met (by decide) (Nat.le_of_ble_eq_true rfl) ?_
  intro gp ge gs gm ga gb gh gc X h ls hl
  have hx := X.1
  have hb := X.2.1
  have hl : lv_has ls 9 [(0, .ref (zg Z 110)), (1, .int 5), (2, .int 1), (3, .int x2), (4, .int x3)] := hl
  refine lv_iload hx hb dX0_go_0 (lv_at hl 4 rfl) ?_
  refine lv_bipush (v := 40) hx hb dX0_go_2 (by decide) ?_
  refine lv_icmp_le (tgt := 9) hx hb dX0_go_4 (by decide) (fun c_4 => ?_) (fun c_4 => ?_)
  · skip
    refine lv_iload_n hx hb dX0_go_9 rfl (lv_at hl 1 rfl) ?_
    refine lv_iload_n hx hb dX0_go_10 rfl (lv_at hl 2 rfl) ?_
    refine g_ki h (g_runS X h (As := [.int 5, .int 1]) (rest := []) (c_X0_holderOf_51 gl Z v w) ms_X0_holderOf ml_RX0_51 ⟨Nat.le_of_ble_eq_true rfl, Nat.le_of_ble_eq_true rfl⟩ rfl hl.1 rfl (Nat.le_of_ble_eq_true rfl) dX0_go_11) (fun r11 v11 w11 H locs hp11 h => ?_)
    obtain ⟨hr11, hu11⟩ := hp11; obtain ⟨rfl, rfl⟩ := Prod.mk.inj hu11
    refine g_tr (y := 0) hr11 ?_
    refine lv_istore (lv' := [(5, .int 0), (0, .ref (zg Z 110)), (1, .int 5), (2, .int 1), (3, .int x2), (4, .int x3)]) hx hb dX0_go_14 hl (by decide) rfl (fun ls hl => ?_)
    refine g_st_ABOVEN X h dX0_go_16 ?_
    refine lv_iload hx hb dX0_go_19 (lv_at hl 0 rfl) ?_
    refine g_tab0 X h (k := 0) rfl (by decide) dX0_go_21 ?_
    refine g_tr (y := (-1)) rfl ?_
    refine lv_istore (lv' := [(6, .int (-1)), (5, .int 0), (0, .ref (zg Z 110)), (1, .int 5), (2, .int 1), (3, .int x2), (4, .int x3)]) hx hb dX0_go_22 hl (by decide) rfl (fun ls hl => ?_)
    refine g_st_BODY X h dX0_go_24 ?_
    refine lv_iload hx hb dX0_go_27 (lv_at hl 1 rfl) ?_
    refine lv_iconst (v := 3) hx hb dX0_go_29 (by decide) ?_
    refine lv_imul hx hb dX0_go_30 ?_
    refine g_tr (y := 0) (by decide) ?_
    refine lv_iload_n hx hb dX0_go_31 rfl (lv_at hl 4 rfl) ?_
    refine lv_iadd hx hb dX0_go_32 ?_
    refine g_tr (y := 1) (by decide) ?_
    refine g_tab1 X h (k := 1) rfl (by decide) dX0_go_33 ?_
    refine g_tr (y := 11) rfl ?_
    refine lv_istore (lv' := [(7, .int 11), (6, .int (-1)), (5, .int 0), (0, .ref (zg Z 110)), (1, .int 5), (2, .int 1), (3, .int x2), (4, .int x3)]) hx hb dX0_go_34 hl (by decide) rfl (fun ls hl => ?_)
    refine lv_iload hx hb dX0_go_36 (lv_at hl 7 rfl) ?_
    refine lv_iconst (v := 1) hx hb dX0_go_38 (by decide) ?_
    refine lv_iadd hx hb dX0_go_39 ?_
    refine lv_topi (fun x8_40 ex8_40 => ?_)
    refine lv_istore (lv' := [(8, .int x8_40), (7, .int 11), (6, .int (-1)), (5, .int 0), (0, .ref (zg Z 110)), (1, .int 5), (2, .int 1), (3, .int x2), (4, .int x3)]) hx hb dX0_go_40 hl (by decide) rfl (fun ls hl => ?_)
    refine lv_aload_n hx hb dX0_go_42 rfl (lv_at hl 4 rfl) ?_
    refine lv_iload hx hb dX0_go_43 (lv_at hl 1 rfl) ?_
    refine g_kv h (g_runV X h (As := [.int 11]) (rest := []) (c_X0_note gl Z v w 11 t htr (by omega)) mi_X0_note ml_RX0_54 (cc_110) (by decide) kl0 rfl ⟨Nat.le_of_ble_eq_true rfl, Nat.le_of_ble_eq_true rfl⟩ rfl hl.1 rfl (Nat.le_of_ble_eq_true rfl) dX0_go_45) (fun v45 w45 H locs hp45 h => ?_)
    obtain ⟨ev45, rfl⟩ := Prod.mk.inj hp45
    replace ev45 := ev45.symm
    refine lv_iload hx hb dX0_go_48 (lv_at hl 1 rfl) ?_
    refine lv_lookup (off := 105) (tgt := 155) hx hb dX0_go_50 (by decide) (by decide) (by decide) ?_
    refine lv_aload_n hx hb dX0_go_155 rfl (lv_at hl 4 rfl) ?_
    refine lv_aload_n hx hb dX0_go_156 rfl (lv_at hl 4 rfl) ?_
    refine g_geti X h (k := 3) (cc_110) fr_RX0_33 rfl (by decide) dX0_go_157 ?_
    refine g_tr (y := (v 110 3)) (by rw [ev45, ranC_k (by decide)]) ?_
    rcases kind7 hkd ho6 with hk7 | hk7 | hk7 | hk7 | hk7 | hk7 | hk7
    · skip
      obtain rfl : own = 0 := nI_eq1 (b := 0) hkd rfl (by omega) (by omega) hk7
      refine g_tr (y := 0) hk7 ?_
      refine lv_iconst (v := 0) hx hb dX0_go_160 (by decide) ?_
      refine lv_iload_n hx hb dX0_go_161 rfl (lv_at hl 7 rfl) ?_
      refine lv_iload hx hb dX0_go_162 (lv_at hl 0 rfl) ?_
      refine g_ki h (g_runV X h (As := [.int 0, .int 0, .int x2, .int x8_40]) (rest := []) (c_X0_go_00 gl Z v45 w x2 x8_40 (d + 1) (ex8_40.trans (by rw [show (x3) = nI d from hd, show (1) = nI 1 from rfl, nI_add])) 0 (by omega) (t + 1) (by rw [ev45, ranC_k (by decide)]; exact hkd) (by rw [ev45]; exact ranC_1) (by omega) (by omega)) mi_X0_go ml_RX0_41 (cc_110) (by decide) kl0 rfl ⟨Nat.le_of_ble_eq_true rfl, Nat.le_of_ble_eq_true rfl⟩ rfl hl.1 rfl (Nat.le_of_ble_eq_true rfl) dX0_go_164) (fun r164 v164 w164 H locs hp164 h => ?_)
      obtain ⟨hr164, hw164⟩ := hp164
      obtain ⟨ev164, rfl⟩ := Prod.mk.inj hw164
      replace ev164 := ev164.symm
      refine lv_aload_n hx hb dX0_go_167 rfl (lv_at hl 4 rfl) ?_
      refine g_geti X h (k := 4) (cc_110) fr_RX0_39 rfl (by decide) dX0_go_168 ?_
      refine g_tr (y := (v 110 4)) (by rw [ev164, ranCL_k (by decide), ev45, ranC_k (by decide)]) ?_
      refine lv_isub hx hb dX0_go_171 ?_
      exact g_iret X h dX0_go_172 ⟨(by rw [hr164, ev45, ranC_k (by decide), ranC_k (by decide)]; rfl), (by rw [ev164, ev45]; rfl)⟩
    · skip
      obtain rfl : own = 1 := nI_eq1 (b := 1) hkd rfl (by omega) (by omega) hk7
      refine g_tr (y := 1) hk7 ?_
      refine lv_iconst (v := 0) hx hb dX0_go_160 (by decide) ?_
      refine lv_iload_n hx hb dX0_go_161 rfl (lv_at hl 7 rfl) ?_
      refine lv_iload hx hb dX0_go_162 (lv_at hl 0 rfl) ?_
      refine g_ki h (g_runV X h (As := [.int 1, .int 0, .int x2, .int x8_40]) (rest := []) (c_X0_go_10 gl Z v45 w x2 x8_40 (d + 1) (ex8_40.trans (by rw [show (x3) = nI d from hd, show (1) = nI 1 from rfl, nI_add])) 1 (by omega) (t + 1) (by rw [ev45, ranC_k (by decide)]; exact hkd) (by rw [ev45]; exact ranC_1) (by omega) (by omega)) mi_X0_go ml_RX0_41 (cc_110) (by decide) kl0 rfl ⟨Nat.le_of_ble_eq_true rfl, Nat.le_of_ble_eq_true rfl⟩ rfl hl.1 rfl (Nat.le_of_ble_eq_true rfl) dX0_go_164) (fun r164 v164 w164 H locs hp164 h => ?_)
      obtain ⟨hr164, hw164⟩ := hp164
      obtain ⟨ev164, rfl⟩ := Prod.mk.inj hw164
      replace ev164 := ev164.symm
      refine lv_aload_n hx hb dX0_go_167 rfl (lv_at hl 4 rfl) ?_
      refine g_geti X h (k := 4) (cc_110) fr_RX0_39 rfl (by decide) dX0_go_168 ?_
      refine g_tr (y := (v 110 4)) (by rw [ev164, ranCL_k (by decide), ev45, ranC_k (by decide)]) ?_
      refine lv_isub hx hb dX0_go_171 ?_
      exact g_iret X h dX0_go_172 ⟨(by rw [hr164, ev45, ranC_k (by decide), ranC_k (by decide)]; rfl), (by rw [ev164, ev45]; rfl)⟩
    · skip
      obtain rfl : own = 2 := nI_eq1 (b := 2) hkd rfl (by omega) (by omega) hk7
      refine g_tr (y := 2) hk7 ?_
      refine lv_iconst (v := 0) hx hb dX0_go_160 (by decide) ?_
      refine lv_iload_n hx hb dX0_go_161 rfl (lv_at hl 7 rfl) ?_
      refine lv_iload hx hb dX0_go_162 (lv_at hl 0 rfl) ?_
      refine g_ki h (g_runV X h (As := [.int 2, .int 0, .int x2, .int x8_40]) (rest := []) (c_X0_go_20 gl Z v45 w x2 x8_40 (d + 1) (ex8_40.trans (by rw [show (x3) = nI d from hd, show (1) = nI 1 from rfl, nI_add])) 2 (by omega) (t + 1) (by rw [ev45, ranC_k (by decide)]; exact hkd) (by rw [ev45]; exact ranC_1) (by omega) (by omega)) mi_X0_go ml_RX0_41 (cc_110) (by decide) kl0 rfl ⟨Nat.le_of_ble_eq_true rfl, Nat.le_of_ble_eq_true rfl⟩ rfl hl.1 rfl (Nat.le_of_ble_eq_true rfl) dX0_go_164) (fun r164 v164 w164 H locs hp164 h => ?_)
      obtain ⟨hr164, hw164⟩ := hp164
      obtain ⟨ev164, rfl⟩ := Prod.mk.inj hw164
      replace ev164 := ev164.symm
      refine lv_aload_n hx hb dX0_go_167 rfl (lv_at hl 4 rfl) ?_
      refine g_geti X h (k := 4) (cc_110) fr_RX0_39 rfl (by decide) dX0_go_168 ?_
      refine g_tr (y := (v 110 4)) (by rw [ev164, ranCL_k (by decide), ev45, ranC_k (by decide)]) ?_
      refine lv_isub hx hb dX0_go_171 ?_
      exact g_iret X h dX0_go_172 ⟨(by rw [hr164, ev45, ranC_k (by decide), ranC_k (by decide)]; rfl), (by rw [ev164, ev45]; rfl)⟩
    · skip
      obtain rfl : own = 3 := nI_eq1 (b := 3) hkd rfl (by omega) (by omega) hk7
      refine g_tr (y := 3) hk7 ?_
      refine lv_iconst (v := 0) hx hb dX0_go_160 (by decide) ?_
      refine lv_iload_n hx hb dX0_go_161 rfl (lv_at hl 7 rfl) ?_
      refine lv_iload hx hb dX0_go_162 (lv_at hl 0 rfl) ?_
      refine g_ki h (g_runV X h (As := [.int 3, .int 0, .int x2, .int x8_40]) (rest := []) (c_X0_go_30 gl Z v45 w x2 x8_40 (d + 1) (ex8_40.trans (by rw [show (x3) = nI d from hd, show (1) = nI 1 from rfl, nI_add])) 3 (by omega) (t + 1) (by rw [ev45, ranC_k (by decide)]; exact hkd) (by rw [ev45]; exact ranC_1) (by omega) (by omega)) mi_X0_go ml_RX0_41 (cc_110) (by decide) kl0 rfl ⟨Nat.le_of_ble_eq_true rfl, Nat.le_of_ble_eq_true rfl⟩ rfl hl.1 rfl (Nat.le_of_ble_eq_true rfl) dX0_go_164) (fun r164 v164 w164 H locs hp164 h => ?_)
      obtain ⟨hr164, hw164⟩ := hp164
      obtain ⟨ev164, rfl⟩ := Prod.mk.inj hw164
      replace ev164 := ev164.symm
      refine lv_aload_n hx hb dX0_go_167 rfl (lv_at hl 4 rfl) ?_
      refine g_geti X h (k := 4) (cc_110) fr_RX0_39 rfl (by decide) dX0_go_168 ?_
      refine g_tr (y := (v 110 4)) (by rw [ev164, ranCL_k (by decide), ev45, ranC_k (by decide)]) ?_
      refine lv_isub hx hb dX0_go_171 ?_
      exact g_iret X h dX0_go_172 ⟨(by rw [hr164, ev45, ranC_k (by decide), ranC_k (by decide)]; rfl), (by rw [ev164, ev45]; rfl)⟩
    · skip
      obtain rfl : own = 4 := nI_eq1 (b := 4) hkd rfl (by omega) (by omega) hk7
      refine g_tr (y := 4) hk7 ?_
      refine lv_iconst (v := 0) hx hb dX0_go_160 (by decide) ?_
      refine lv_iload_n hx hb dX0_go_161 rfl (lv_at hl 7 rfl) ?_
      refine lv_iload hx hb dX0_go_162 (lv_at hl 0 rfl) ?_
      refine g_ki h (g_runV X h (As := [.int 4, .int 0, .int x2, .int x8_40]) (rest := []) (c_X0_go_40 gl Z v45 w x2 x8_40 (d + 1) (ex8_40.trans (by rw [show (x3) = nI d from hd, show (1) = nI 1 from rfl, nI_add])) 4 (by omega) (t + 1) (by rw [ev45, ranC_k (by decide)]; exact hkd) (by rw [ev45]; exact ranC_1) (by omega) (by omega)) mi_X0_go ml_RX0_41 (cc_110) (by decide) kl0 rfl ⟨Nat.le_of_ble_eq_true rfl, Nat.le_of_ble_eq_true rfl⟩ rfl hl.1 rfl (Nat.le_of_ble_eq_true rfl) dX0_go_164) (fun r164 v164 w164 H locs hp164 h => ?_)
      obtain ⟨hr164, hw164⟩ := hp164
      obtain ⟨ev164, rfl⟩ := Prod.mk.inj hw164
      replace ev164 := ev164.symm
      refine lv_aload_n hx hb dX0_go_167 rfl (lv_at hl 4 rfl) ?_
      refine g_geti X h (k := 4) (cc_110) fr_RX0_39 rfl (by decide) dX0_go_168 ?_
      refine g_tr (y := (v 110 4)) (by rw [ev164, ranCL_k (by decide), ev45, ranC_k (by decide)]) ?_
      refine lv_isub hx hb dX0_go_171 ?_
      exact g_iret X h dX0_go_172 ⟨(by rw [hr164, ev45, ranC_k (by decide), ranC_k (by decide)]; rfl), (by rw [ev164, ev45]; rfl)⟩
    · skip
      obtain rfl : own = 5 := nI_eq1 (b := 5) hkd rfl (by omega) (by omega) hk7
      refine g_tr (y := 5) hk7 ?_
      refine lv_iconst (v := 0) hx hb dX0_go_160 (by decide) ?_
      refine lv_iload_n hx hb dX0_go_161 rfl (lv_at hl 7 rfl) ?_
      refine lv_iload hx hb dX0_go_162 (lv_at hl 0 rfl) ?_
      refine g_ki h (g_runV X h (As := [.int 5, .int 0, .int x2, .int x8_40]) (rest := []) (c_X0_go_50 gl Z v45 w x2 x8_40 (d + 1) (ex8_40.trans (by rw [show (x3) = nI d from hd, show (1) = nI 1 from rfl, nI_add])) 5 (by omega) (t + 1) (by rw [ev45, ranC_k (by decide)]; exact hkd) (by rw [ev45]; exact ranC_1) (by omega) (by omega)) mi_X0_go ml_RX0_41 (cc_110) (by decide) kl0 rfl ⟨Nat.le_of_ble_eq_true rfl, Nat.le_of_ble_eq_true rfl⟩ rfl hl.1 rfl (Nat.le_of_ble_eq_true rfl) dX0_go_164) (fun r164 v164 w164 H locs hp164 h => ?_)
      obtain ⟨hr164, hw164⟩ := hp164
      obtain ⟨ev164, rfl⟩ := Prod.mk.inj hw164
      replace ev164 := ev164.symm
      refine lv_aload_n hx hb dX0_go_167 rfl (lv_at hl 4 rfl) ?_
      refine g_geti X h (k := 4) (cc_110) fr_RX0_39 rfl (by decide) dX0_go_168 ?_
      refine g_tr (y := (v 110 4)) (by rw [ev164, ranCL_k (by decide), ev45, ranC_k (by decide)]) ?_
      refine lv_isub hx hb dX0_go_171 ?_
      exact g_iret X h dX0_go_172 ⟨(by rw [hr164, ev45, ranC_k (by decide), ranC_k (by decide)]; rfl), (by rw [ev164, ev45]; rfl)⟩
    · skip
      obtain rfl : own = 6 := nI_eq1 (b := 6) hkd rfl (by omega) (by omega) hk7
      refine g_tr (y := 6) hk7 ?_
      refine lv_iconst (v := 0) hx hb dX0_go_160 (by decide) ?_
      refine lv_iload_n hx hb dX0_go_161 rfl (lv_at hl 7 rfl) ?_
      refine lv_iload hx hb dX0_go_162 (lv_at hl 0 rfl) ?_
      refine g_ki h (g_runV X h (As := [.int 6, .int 0, .int x2, .int x8_40]) (rest := []) (c_X0_go_60 gl Z v45 w x2 x8_40 (d + 1) (ex8_40.trans (by rw [show (x3) = nI d from hd, show (1) = nI 1 from rfl, nI_add])) 6 (by omega) (t + 1) (by rw [ev45, ranC_k (by decide)]; exact hkd) (by rw [ev45]; exact ranC_1) (by omega) (by omega)) mi_X0_go ml_RX0_41 (cc_110) (by decide) kl0 rfl ⟨Nat.le_of_ble_eq_true rfl, Nat.le_of_ble_eq_true rfl⟩ rfl hl.1 rfl (Nat.le_of_ble_eq_true rfl) dX0_go_164) (fun r164 v164 w164 H locs hp164 h => ?_)
      obtain ⟨hr164, hw164⟩ := hp164
      obtain ⟨ev164, rfl⟩ := Prod.mk.inj hw164
      replace ev164 := ev164.symm
      refine lv_aload_n hx hb dX0_go_167 rfl (lv_at hl 4 rfl) ?_
      refine g_geti X h (k := 4) (cc_110) fr_RX0_39 rfl (by decide) dX0_go_168 ?_
      refine g_tr (y := (v 110 4)) (by rw [ev164, ranCL_k (by decide), ev45, ranC_k (by decide)]) ?_
      refine lv_isub hx hb dX0_go_171 ?_
      exact g_iret X h dX0_go_172 ⟨(by rw [hr164, ev45, ranC_k (by decide), ranC_k (by decide)]; rfl), (by rw [ev164, ev45]; rfl)⟩
  · exact absurd (nI_le (b := 40) (show d ≤ 40 by omega) (by omega)) (by rw [hd] at c_4; exact c_4)

set_option maxRecDepth 100000 in
set_option maxHeartbeats 1000000 in
theorem c_X0_go_11 (gl : Launch) (Z : PL) (v : VV) (w : WV) (x2 : Int32) (x3 : Int32) (d : Nat) (hd : x3 = nI d) (own : Nat) (ho6 : own ≤ 6) (t : Nat) (hkd : v 110 3 = nI own) (htr : v 110 1 = nI t) (hdm : d ≤ 32) (ht9 : t < 890) : CT gl yX0_go cX0_go 9 (some .int) 4 107 Z [.ref (zg Z 110), .int 1, .int 1, .int x2, .int x3] v w (Qi Z (fun r u => r = prV own 1 (v 110 2) (v 110 4) x2 ∧ (ranCL v t (prL own 1), w) = u)) := by
  refine g_met (by decide) (Nat.le_of_ble_eq_true rfl) ?_
  intro gp ge gs gm ga gb gh gc X h ls hl
  have hx := X.1
  have hb := X.2.1
  have hl : lv_has ls 9 [(0, .ref (zg Z 110)), (1, .int 1), (2, .int 1), (3, .int x2), (4, .int x3)] := hl
  refine lv_iload hx hb dX0_go_0 (lv_at hl 4 rfl) ?_
  refine lv_bipush (v := 40) hx hb dX0_go_2 (by decide) ?_
  refine lv_icmp_le (tgt := 9) hx hb dX0_go_4 (by decide) (fun c_4 => ?_) (fun c_4 => ?_)
  · skip
    refine lv_iload_n hx hb dX0_go_9 rfl (lv_at hl 1 rfl) ?_
    refine lv_iload_n hx hb dX0_go_10 rfl (lv_at hl 2 rfl) ?_
    refine g_ki h (g_runS X h (As := [.int 1, .int 1]) (rest := []) (c_X0_holderOf_11 gl Z v w) ms_X0_holderOf ml_RX0_51 ⟨Nat.le_of_ble_eq_true rfl, Nat.le_of_ble_eq_true rfl⟩ rfl hl.1 rfl (Nat.le_of_ble_eq_true rfl) dX0_go_11) (fun r11 v11 w11 H locs hp11 h => ?_)
    obtain ⟨hr11, hu11⟩ := hp11; obtain ⟨rfl, rfl⟩ := Prod.mk.inj hu11
    refine g_tr (y := 1) hr11 ?_
    refine lv_istore (lv' := [(5, .int 1), (0, .ref (zg Z 110)), (1, .int 1), (2, .int 1), (3, .int x2), (4, .int x3)]) hx hb dX0_go_14 hl (by decide) rfl (fun ls hl => ?_)
    refine g_st_ABOVEN X h dX0_go_16 ?_
    refine lv_iload hx hb dX0_go_19 (lv_at hl 0 rfl) ?_
    refine g_tab0 X h (k := 1) rfl (by decide) dX0_go_21 ?_
    refine g_tr (y := 0) rfl ?_
    refine lv_istore (lv' := [(6, .int 0), (5, .int 1), (0, .ref (zg Z 110)), (1, .int 1), (2, .int 1), (3, .int x2), (4, .int x3)]) hx hb dX0_go_22 hl (by decide) rfl (fun ls hl => ?_)
    refine g_st_BODY X h dX0_go_24 ?_
    refine lv_iload hx hb dX0_go_27 (lv_at hl 1 rfl) ?_
    refine lv_iconst (v := 3) hx hb dX0_go_29 (by decide) ?_
    refine lv_imul hx hb dX0_go_30 ?_
    refine g_tr (y := 3) (by decide) ?_
    refine lv_iload_n hx hb dX0_go_31 rfl (lv_at hl 4 rfl) ?_
    refine lv_iadd hx hb dX0_go_32 ?_
    refine g_tr (y := 4) (by decide) ?_
    refine g_tab1 X h (k := 4) rfl (by decide) dX0_go_33 ?_
    refine g_tr (y := 20) rfl ?_
    refine lv_istore (lv' := [(7, .int 20), (6, .int 0), (5, .int 1), (0, .ref (zg Z 110)), (1, .int 1), (2, .int 1), (3, .int x2), (4, .int x3)]) hx hb dX0_go_34 hl (by decide) rfl (fun ls hl => ?_)
    refine lv_iload hx hb dX0_go_36 (lv_at hl 7 rfl) ?_
    refine lv_iconst (v := 1) hx hb dX0_go_38 (by decide) ?_
    refine lv_iadd hx hb dX0_go_39 ?_
    refine lv_topi (fun x8_40 ex8_40 => ?_)
    refine lv_istore (lv' := [(8, .int x8_40), (7, .int 20), (6, .int 0), (5, .int 1), (0, .ref (zg Z 110)), (1, .int 1), (2, .int 1), (3, .int x2), (4, .int x3)]) hx hb dX0_go_40 hl (by decide) rfl (fun ls hl => ?_)
    refine lv_aload_n hx hb dX0_go_42 rfl (lv_at hl 4 rfl) ?_
    refine lv_iload hx hb dX0_go_43 (lv_at hl 1 rfl) ?_
    refine g_kv h (g_runV X h (As := [.int 20]) (rest := []) (c_X0_note gl Z v w 20 t htr (by omega)) mi_X0_note ml_RX0_54 (cc_110) (by decide) kl0 rfl ⟨Nat.le_of_ble_eq_true rfl, Nat.le_of_ble_eq_true rfl⟩ rfl hl.1 rfl (Nat.le_of_ble_eq_true rfl) dX0_go_45) (fun v45 w45 H locs hp45 h => ?_)
    obtain ⟨ev45, rfl⟩ := Prod.mk.inj hp45
    replace ev45 := ev45.symm
    refine lv_iload hx hb dX0_go_48 (lv_at hl 1 rfl) ?_
    refine lv_lookup (off := 138) (tgt := 188) hx hb dX0_go_50 (by decide) (by decide) (by decide) ?_
    refine lv_aload_n hx hb dX0_go_188 rfl (lv_at hl 4 rfl) ?_
    refine lv_iload hx hb dX0_go_189 (lv_at hl 2 rfl) ?_
    refine lv_iconst (v := 1) hx hb dX0_go_191 (by decide) ?_
    refine lv_iload_n hx hb dX0_go_192 rfl (lv_at hl 7 rfl) ?_
    refine lv_iload hx hb dX0_go_193 (lv_at hl 0 rfl) ?_
    refine g_ki h (g_runV X h (As := [.int 0, .int 1, .int x2, .int x8_40]) (rest := []) (c_X0_go_01 gl Z v45 w x2 x8_40 (d + 1) (ex8_40.trans (by rw [show (x3) = nI d from hd, show (1) = nI 1 from rfl, nI_add])) own ho6 (t + 1) (by rw [ev45, ranC_k (by decide)]; exact hkd) (by rw [ev45]; exact ranC_1) (by omega) (by omega)) mi_X0_go ml_RX0_41 (cc_110) (by decide) kl0 rfl ⟨Nat.le_of_ble_eq_true rfl, Nat.le_of_ble_eq_true rfl⟩ rfl hl.1 rfl (Nat.le_of_ble_eq_true rfl) dX0_go_195) (fun r195 v195 w195 H locs hp195 h => ?_)
    obtain ⟨hr195, hw195⟩ := hp195
    obtain ⟨ev195, rfl⟩ := Prod.mk.inj hw195
    replace ev195 := ev195.symm
    refine lv_bipush (v := 6) hx hb dX0_go_198 (by decide) ?_
    refine lv_ixor hx hb dX0_go_200 ?_
    exact g_iret X h dX0_go_201 ⟨(by rw [hr195, ev45, ranC_k (by decide), ranC_k (by decide)]; rfl), (by rw [ev195, ev45]; rfl)⟩
  · exact absurd (nI_le (b := 40) (show d ≤ 40 by omega) (by omega)) (by rw [hd] at c_4; exact c_4)

set_option maxRecDepth 100000 in
set_option maxHeartbeats 1000000 in
theorem c_X0_go_41 (gl : Launch) (Z : PL) (v : VV) (w : WV) (x2 : Int32) (x3 : Int32) (d : Nat) (hd : x3 = nI d) (own : Nat) (ho6 : own ≤ 6) (t : Nat) (hkd : v 110 3 = nI own) (htr : v 110 1 = nI t) (hdm : d ≤ 31) (ht9 : t < 880) : CT gl yX0_go cX0_go 9 (some .int) 5 135 Z [.ref (zg Z 110), .int 4, .int 1, .int x2, .int x3] v w (Qi Z (fun r u => r = prV own 4 (v 110 2) (v 110 4) x2 ∧ (ranCL v t (prL own 4), w) = u)) := by
  refine g_met (by decide) (Nat.le_of_ble_eq_true rfl) ?_
  intro gp ge gs gm ga gb gh gc X h ls hl
  have hx := X.1
  have hb := X.2.1
  have hl : lv_has ls 9 [(0, .ref (zg Z 110)), (1, .int 4), (2, .int 1), (3, .int x2), (4, .int x3)] := hl
  refine lv_iload hx hb dX0_go_0 (lv_at hl 4 rfl) ?_
  refine lv_bipush (v := 40) hx hb dX0_go_2 (by decide) ?_
  refine lv_icmp_le (tgt := 9) hx hb dX0_go_4 (by decide) (fun c_4 => ?_) (fun c_4 => ?_)
  · skip
    refine lv_iload_n hx hb dX0_go_9 rfl (lv_at hl 1 rfl) ?_
    refine lv_iload_n hx hb dX0_go_10 rfl (lv_at hl 2 rfl) ?_
    refine g_ki h (g_runS X h (As := [.int 4, .int 1]) (rest := []) (c_X0_holderOf_41 gl Z v w) ms_X0_holderOf ml_RX0_51 ⟨Nat.le_of_ble_eq_true rfl, Nat.le_of_ble_eq_true rfl⟩ rfl hl.1 rfl (Nat.le_of_ble_eq_true rfl) dX0_go_11) (fun r11 v11 w11 H locs hp11 h => ?_)
    obtain ⟨hr11, hu11⟩ := hp11; obtain ⟨rfl, rfl⟩ := Prod.mk.inj hu11
    refine g_tr (y := 4) hr11 ?_
    refine lv_istore (lv' := [(5, .int 4), (0, .ref (zg Z 110)), (1, .int 4), (2, .int 1), (3, .int x2), (4, .int x3)]) hx hb dX0_go_14 hl (by decide) rfl (fun ls hl => ?_)
    refine g_st_ABOVEN X h dX0_go_16 ?_
    refine lv_iload hx hb dX0_go_19 (lv_at hl 0 rfl) ?_
    refine g_tab0 X h (k := 4) rfl (by decide) dX0_go_21 ?_
    refine g_tr (y := 1) rfl ?_
    refine lv_istore (lv' := [(6, .int 1), (5, .int 4), (0, .ref (zg Z 110)), (1, .int 4), (2, .int 1), (3, .int x2), (4, .int x3)]) hx hb dX0_go_22 hl (by decide) rfl (fun ls hl => ?_)
    refine g_st_BODY X h dX0_go_24 ?_
    refine lv_iload hx hb dX0_go_27 (lv_at hl 1 rfl) ?_
    refine lv_iconst (v := 3) hx hb dX0_go_29 (by decide) ?_
    refine lv_imul hx hb dX0_go_30 ?_
    refine g_tr (y := 12) (by decide) ?_
    refine lv_iload_n hx hb dX0_go_31 rfl (lv_at hl 4 rfl) ?_
    refine lv_iadd hx hb dX0_go_32 ?_
    refine g_tr (y := 13) (by decide) ?_
    refine g_tab1 X h (k := 13) rfl (by decide) dX0_go_33 ?_
    refine g_tr (y := 51) rfl ?_
    refine lv_istore (lv' := [(7, .int 51), (6, .int 1), (5, .int 4), (0, .ref (zg Z 110)), (1, .int 4), (2, .int 1), (3, .int x2), (4, .int x3)]) hx hb dX0_go_34 hl (by decide) rfl (fun ls hl => ?_)
    refine lv_iload hx hb dX0_go_36 (lv_at hl 7 rfl) ?_
    refine lv_iconst (v := 1) hx hb dX0_go_38 (by decide) ?_
    refine lv_iadd hx hb dX0_go_39 ?_
    refine lv_topi (fun x8_40 ex8_40 => ?_)
    refine lv_istore (lv' := [(8, .int x8_40), (7, .int 51), (6, .int 1), (5, .int 4), (0, .ref (zg Z 110)), (1, .int 4), (2, .int 1), (3, .int x2), (4, .int x3)]) hx hb dX0_go_40 hl (by decide) rfl (fun ls hl => ?_)
    refine lv_aload_n hx hb dX0_go_42 rfl (lv_at hl 4 rfl) ?_
    refine lv_iload hx hb dX0_go_43 (lv_at hl 1 rfl) ?_
    refine g_kv h (g_runV X h (As := [.int 51]) (rest := []) (c_X0_note gl Z v w 51 t htr (by omega)) mi_X0_note ml_RX0_54 (cc_110) (by decide) kl0 rfl ⟨Nat.le_of_ble_eq_true rfl, Nat.le_of_ble_eq_true rfl⟩ rfl hl.1 rfl (Nat.le_of_ble_eq_true rfl) dX0_go_45) (fun v45 w45 H locs hp45 h => ?_)
    obtain ⟨ev45, rfl⟩ := Prod.mk.inj hp45
    replace ev45 := ev45.symm
    refine lv_iload hx hb dX0_go_48 (lv_at hl 1 rfl) ?_
    refine lv_lookup (off := 201) (tgt := 251) hx hb dX0_go_50 (by decide) (by decide) (by decide) ?_
    refine lv_aload_n hx hb dX0_go_251 rfl (lv_at hl 4 rfl) ?_
    refine lv_iload hx hb dX0_go_252 (lv_at hl 2 rfl) ?_
    refine lv_iconst (v := 1) hx hb dX0_go_254 (by decide) ?_
    refine lv_iload_n hx hb dX0_go_255 rfl (lv_at hl 7 rfl) ?_
    refine lv_iconst (v := 1) hx hb dX0_go_256 (by decide) ?_
    refine lv_iadd hx hb dX0_go_257 ?_
    refine lv_iload hx hb dX0_go_258 (lv_at hl 0 rfl) ?_
    refine g_ki h (g_runV X h (As := [.int 1, .int 1, .int (x2 + 1), .int x8_40]) (rest := []) (c_X0_go_11 gl Z v45 w (x2 + 1) x8_40 (d + 1) (ex8_40.trans (by rw [show (x3) = nI d from hd, show (1) = nI 1 from rfl, nI_add])) own ho6 (t + 1) (by rw [ev45, ranC_k (by decide)]; exact hkd) (by rw [ev45]; exact ranC_1) (by omega) (by omega)) mi_X0_go ml_RX0_41 (cc_110) (by decide) kl0 rfl ⟨Nat.le_of_ble_eq_true rfl, Nat.le_of_ble_eq_true rfl⟩ rfl hl.1 rfl (Nat.le_of_ble_eq_true rfl) dX0_go_260) (fun r260 v260 w260 H locs hp260 h => ?_)
    obtain ⟨hr260, hw260⟩ := hp260
    obtain ⟨ev260, rfl⟩ := Prod.mk.inj hw260
    replace ev260 := ev260.symm
    exact g_iret X h dX0_go_263 ⟨(by rw [hr260, ev45, ranC_k (by decide), ranC_k (by decide)]; rfl), (by rw [ev260, ev45]; rfl)⟩
  · exact absurd (nI_le (b := 40) (show d ≤ 40 by omega) (by omega)) (by rw [hd] at c_4; exact c_4)

set_option maxRecDepth 100000 in
set_option maxHeartbeats 1000000 in
theorem c_X0_go_61 (gl : Launch) (Z : PL) (v : VV) (w : WV) (x2 : Int32) (x3 : Int32) (d : Nat) (hd : x3 = nI d) (own : Nat) (ho6 : own ≤ 6) (t : Nat) (hkd : v 110 3 = nI own) (htr : v 110 1 = nI t) (hdm : d ≤ 31) (ht9 : t < 880) : CT gl yX0_go cX0_go 9 (some .int) 4 107 Z [.ref (zg Z 110), .int 6, .int 1, .int x2, .int x3] v w (Qi Z (fun r u => r = prV own 6 (v 110 2) (v 110 4) x2 ∧ (ranCL v t (prL own 6), w) = u)) := by
  refine g_met (by decide) (Nat.le_of_ble_eq_true rfl) ?_
  intro gp ge gs gm ga gb gh gc X h ls hl
  have hx := X.1
  have hb := X.2.1
  have hl : lv_has ls 9 [(0, .ref (zg Z 110)), (1, .int 6), (2, .int 1), (3, .int x2), (4, .int x3)] := hl
  refine lv_iload hx hb dX0_go_0 (lv_at hl 4 rfl) ?_
  refine lv_bipush (v := 40) hx hb dX0_go_2 (by decide) ?_
  refine lv_icmp_le (tgt := 9) hx hb dX0_go_4 (by decide) (fun c_4 => ?_) (fun c_4 => ?_)
  · skip
    refine lv_iload_n hx hb dX0_go_9 rfl (lv_at hl 1 rfl) ?_
    refine lv_iload_n hx hb dX0_go_10 rfl (lv_at hl 2 rfl) ?_
    refine g_ki h (g_runS X h (As := [.int 6, .int 1]) (rest := []) (c_X0_holderOf_61 gl Z v w) ms_X0_holderOf ml_RX0_51 ⟨Nat.le_of_ble_eq_true rfl, Nat.le_of_ble_eq_true rfl⟩ rfl hl.1 rfl (Nat.le_of_ble_eq_true rfl) dX0_go_11) (fun r11 v11 w11 H locs hp11 h => ?_)
    obtain ⟨hr11, hu11⟩ := hp11; obtain ⟨rfl, rfl⟩ := Prod.mk.inj hu11
    refine g_tr (y := 6) hr11 ?_
    refine lv_istore (lv' := [(5, .int 6), (0, .ref (zg Z 110)), (1, .int 6), (2, .int 1), (3, .int x2), (4, .int x3)]) hx hb dX0_go_14 hl (by decide) rfl (fun ls hl => ?_)
    refine g_st_ABOVEN X h dX0_go_16 ?_
    refine lv_iload hx hb dX0_go_19 (lv_at hl 0 rfl) ?_
    refine g_tab0 X h (k := 6) rfl (by decide) dX0_go_21 ?_
    refine g_tr (y := 3) rfl ?_
    refine lv_istore (lv' := [(6, .int 3), (5, .int 6), (0, .ref (zg Z 110)), (1, .int 6), (2, .int 1), (3, .int x2), (4, .int x3)]) hx hb dX0_go_22 hl (by decide) rfl (fun ls hl => ?_)
    refine g_st_BODY X h dX0_go_24 ?_
    refine lv_iload hx hb dX0_go_27 (lv_at hl 1 rfl) ?_
    refine lv_iconst (v := 3) hx hb dX0_go_29 (by decide) ?_
    refine lv_imul hx hb dX0_go_30 ?_
    refine g_tr (y := 18) (by decide) ?_
    refine lv_iload_n hx hb dX0_go_31 rfl (lv_at hl 4 rfl) ?_
    refine lv_iadd hx hb dX0_go_32 ?_
    refine g_tr (y := 19) (by decide) ?_
    refine g_tab1 X h (k := 19) rfl (by decide) dX0_go_33 ?_
    refine g_tr (y := 70) rfl ?_
    refine lv_istore (lv' := [(7, .int 70), (6, .int 3), (5, .int 6), (0, .ref (zg Z 110)), (1, .int 6), (2, .int 1), (3, .int x2), (4, .int x3)]) hx hb dX0_go_34 hl (by decide) rfl (fun ls hl => ?_)
    refine lv_iload hx hb dX0_go_36 (lv_at hl 7 rfl) ?_
    refine lv_iconst (v := 1) hx hb dX0_go_38 (by decide) ?_
    refine lv_iadd hx hb dX0_go_39 ?_
    refine lv_topi (fun x8_40 ex8_40 => ?_)
    refine lv_istore (lv' := [(8, .int x8_40), (7, .int 70), (6, .int 3), (5, .int 6), (0, .ref (zg Z 110)), (1, .int 6), (2, .int 1), (3, .int x2), (4, .int x3)]) hx hb dX0_go_40 hl (by decide) rfl (fun ls hl => ?_)
    refine lv_aload_n hx hb dX0_go_42 rfl (lv_at hl 4 rfl) ?_
    refine lv_iload hx hb dX0_go_43 (lv_at hl 1 rfl) ?_
    refine g_kv h (g_runV X h (As := [.int 70]) (rest := []) (c_X0_note gl Z v w 70 t htr (by omega)) mi_X0_note ml_RX0_54 (cc_110) (by decide) kl0 rfl ⟨Nat.le_of_ble_eq_true rfl, Nat.le_of_ble_eq_true rfl⟩ rfl hl.1 rfl (Nat.le_of_ble_eq_true rfl) dX0_go_45) (fun v45 w45 H locs hp45 h => ?_)
    obtain ⟨ev45, rfl⟩ := Prod.mk.inj hp45
    replace ev45 := ev45.symm
    refine lv_iload hx hb dX0_go_48 (lv_at hl 1 rfl) ?_
    refine lv_lookup (off := 230) (tgt := 280) hx hb dX0_go_50 (by decide) (by decide) (by decide) ?_
    refine lv_aload_n hx hb dX0_go_280 rfl (lv_at hl 4 rfl) ?_
    refine lv_iload hx hb dX0_go_281 (lv_at hl 2 rfl) ?_
    refine lv_iconst (v := 1) hx hb dX0_go_283 (by decide) ?_
    refine lv_iload_n hx hb dX0_go_284 rfl (lv_at hl 7 rfl) ?_
    refine lv_iload hx hb dX0_go_285 (lv_at hl 0 rfl) ?_
    refine g_ki h (g_runV X h (As := [.int 3, .int 1, .int x2, .int x8_40]) (rest := []) (c_X0_go_31 gl Z v45 w x2 x8_40 (d + 1) (ex8_40.trans (by rw [show (x3) = nI d from hd, show (1) = nI 1 from rfl, nI_add])) own ho6 (t + 1) (by rw [ev45, ranC_k (by decide)]; exact hkd) (by rw [ev45]; exact ranC_1) (by omega) (by omega)) mi_X0_go ml_RX0_41 (cc_110) (by decide) kl0 rfl ⟨Nat.le_of_ble_eq_true rfl, Nat.le_of_ble_eq_true rfl⟩ rfl hl.1 rfl (Nat.le_of_ble_eq_true rfl) dX0_go_287) (fun r287 v287 w287 H locs hp287 h => ?_)
    obtain ⟨hr287, hw287⟩ := hp287
    obtain ⟨ev287, rfl⟩ := Prod.mk.inj hw287
    replace ev287 := ev287.symm
    refine lv_aload_n hx hb dX0_go_290 rfl (lv_at hl 4 rfl) ?_
    refine lv_iload hx hb dX0_go_291 (lv_at hl 2 rfl) ?_
    refine lv_iconst (v := 0) hx hb dX0_go_293 (by decide) ?_
    refine lv_iconst (v := 2) hx hb dX0_go_294 (by decide) ?_
    refine lv_iload hx hb dX0_go_295 (lv_at hl 0 rfl) ?_
    refine g_ki h (g_runV X h (As := [.int 3, .int 0, .int 2, .int x8_40]) (rest := [.int r287]) (c_X0_go_30 gl Z v287 w 2 x8_40 (d + 1) (ex8_40.trans (by rw [show (x3) = nI d from hd, show (1) = nI 1 from rfl, nI_add])) own ho6 (t + 1 + (prL own 3).length) (by rw [ev287, ranCL_k (by decide), ev45, ranC_k (by decide)]; exact hkd) (by rw [ev287]; exact ranCL_1 _ _ _ (by rw [ev45]; exact ranC_1)) (by omega) (by have := prL_len own 3 ho6 (by omega); omega)) mi_X0_go ml_RX0_41 (cc_110) (by decide) kl0 rfl ⟨Nat.le_of_ble_eq_true rfl, Nat.le_of_ble_eq_true rfl⟩ rfl hl.1 rfl (Nat.le_of_ble_eq_true rfl) dX0_go_297) (fun r297 v297 w297 H locs hp297 h => ?_)
    obtain ⟨hr297, hw297⟩ := hp297
    obtain ⟨ev297, rfl⟩ := Prod.mk.inj hw297
    replace ev297 := ev297.symm
    refine lv_iadd hx hb dX0_go_300 ?_
    exact g_iret X h dX0_go_301 ⟨(by rw [hr297, hr287, ev287, ranCL_k (by decide), ranCL_k (by decide), ev45, ranC_k (by decide), ranC_k (by decide)]; rfl), (by rw [ev297, ev287, ev45, ranCL_app]; rfl)⟩
  · exact absurd (nI_le (b := 40) (show d ≤ 40 by omega) (by omega)) (by rw [hd] at c_4; exact c_4)

set_option maxRecDepth 100000 in
set_option maxHeartbeats 1000000 in
theorem c_X0_go_02 (gl : Launch) (Z : PL) (v : VV) (w : WV) (x2 : Int32) (x3 : Int32) (d : Nat) (hd : x3 = nI d) (own : Nat) (ho6 : own ≤ 6) (t : Nat) (hkd : v 110 3 = nI own) (htr : v 110 1 = nI t) (hdm : d ≤ 25) (ht9 : t < 850) : CT gl yX0_go cX0_go 9 (some .int) 6 163 Z [.ref (zg Z 110), .int 0, .int 2, .int x2, .int x3] v w (Qi Z (fun r u => r = tlV own 0 (v 110 2) (v 110 4) x2 ∧ (ranCL v t (tlL own 0), w) = u)) := by
  refine g_met (by decide) (Nat.le_of_ble_eq_true rfl) ?_
  intro gp ge gs gm ga gb gh gc X h ls hl
  have hx := X.1
  have hb := X.2.1
  have hl : lv_has ls 9 [(0, .ref (zg Z 110)), (1, .int 0), (2, .int 2), (3, .int x2), (4, .int x3)] := hl
  refine lv_iload hx hb dX0_go_0 (lv_at hl 4 rfl) ?_
  refine lv_bipush (v := 40) hx hb dX0_go_2 (by decide) ?_
  refine lv_icmp_le (tgt := 9) hx hb dX0_go_4 (by decide) (fun c_4 => ?_) (fun c_4 => ?_)
  · skip
    refine lv_iload_n hx hb dX0_go_9 rfl (lv_at hl 1 rfl) ?_
    refine lv_iload_n hx hb dX0_go_10 rfl (lv_at hl 2 rfl) ?_
    refine g_ki h (g_runS X h (As := [.int 0, .int 2]) (rest := []) (c_X0_holderOf_02 gl Z v w) ms_X0_holderOf ml_RX0_51 ⟨Nat.le_of_ble_eq_true rfl, Nat.le_of_ble_eq_true rfl⟩ rfl hl.1 rfl (Nat.le_of_ble_eq_true rfl) dX0_go_11) (fun r11 v11 w11 H locs hp11 h => ?_)
    obtain ⟨hr11, hu11⟩ := hp11; obtain ⟨rfl, rfl⟩ := Prod.mk.inj hu11
    refine g_tr (y := 0) hr11 ?_
    refine lv_istore (lv' := [(5, .int 0), (0, .ref (zg Z 110)), (1, .int 0), (2, .int 2), (3, .int x2), (4, .int x3)]) hx hb dX0_go_14 hl (by decide) rfl (fun ls hl => ?_)
    refine g_st_ABOVEN X h dX0_go_16 ?_
    refine lv_iload hx hb dX0_go_19 (lv_at hl 0 rfl) ?_
    refine g_tab0 X h (k := 0) rfl (by decide) dX0_go_21 ?_
    refine g_tr (y := (-1)) rfl ?_
    refine lv_istore (lv' := [(6, .int (-1)), (5, .int 0), (0, .ref (zg Z 110)), (1, .int 0), (2, .int 2), (3, .int x2), (4, .int x3)]) hx hb dX0_go_22 hl (by decide) rfl (fun ls hl => ?_)
    refine g_st_BODY X h dX0_go_24 ?_
    refine lv_iload hx hb dX0_go_27 (lv_at hl 1 rfl) ?_
    refine lv_iconst (v := 3) hx hb dX0_go_29 (by decide) ?_
    refine lv_imul hx hb dX0_go_30 ?_
    refine g_tr (y := 0) (by decide) ?_
    refine lv_iload_n hx hb dX0_go_31 rfl (lv_at hl 4 rfl) ?_
    refine lv_iadd hx hb dX0_go_32 ?_
    refine g_tr (y := 2) (by decide) ?_
    refine g_tab1 X h (k := 2) rfl (by decide) dX0_go_33 ?_
    refine g_tr (y := 12) rfl ?_
    refine lv_istore (lv' := [(7, .int 12), (6, .int (-1)), (5, .int 0), (0, .ref (zg Z 110)), (1, .int 0), (2, .int 2), (3, .int x2), (4, .int x3)]) hx hb dX0_go_34 hl (by decide) rfl (fun ls hl => ?_)
    refine lv_iload hx hb dX0_go_36 (lv_at hl 7 rfl) ?_
    refine lv_iconst (v := 1) hx hb dX0_go_38 (by decide) ?_
    refine lv_iadd hx hb dX0_go_39 ?_
    refine lv_topi (fun x8_40 ex8_40 => ?_)
    refine lv_istore (lv' := [(8, .int x8_40), (7, .int 12), (6, .int (-1)), (5, .int 0), (0, .ref (zg Z 110)), (1, .int 0), (2, .int 2), (3, .int x2), (4, .int x3)]) hx hb dX0_go_40 hl (by decide) rfl (fun ls hl => ?_)
    refine lv_aload_n hx hb dX0_go_42 rfl (lv_at hl 4 rfl) ?_
    refine lv_iload hx hb dX0_go_43 (lv_at hl 1 rfl) ?_
    refine g_kv h (g_runV X h (As := [.int 12]) (rest := []) (c_X0_note gl Z v w 12 t htr (by omega)) mi_X0_note ml_RX0_54 (cc_110) (by decide) kl0 rfl ⟨Nat.le_of_ble_eq_true rfl, Nat.le_of_ble_eq_true rfl⟩ rfl hl.1 rfl (Nat.le_of_ble_eq_true rfl) dX0_go_45) (fun v45 w45 H locs hp45 h => ?_)
    obtain ⟨ev45, rfl⟩ := Prod.mk.inj hp45
    replace ev45 := ev45.symm
    refine lv_iload hx hb dX0_go_48 (lv_at hl 1 rfl) ?_
    refine lv_lookup (off := 123) (tgt := 173) hx hb dX0_go_50 (by decide) (by decide) (by decide) ?_
    refine lv_aload_n hx hb dX0_go_173 rfl (lv_at hl 4 rfl) ?_
    refine lv_aload_n hx hb dX0_go_174 rfl (lv_at hl 4 rfl) ?_
    refine g_geti X h (k := 3) (cc_110) fr_RX0_33 rfl (by decide) dX0_go_175 ?_
    refine g_tr (y := (v 110 3)) (by rw [ev45, ranC_k (by decide)]) ?_
    rcases kind7 hkd ho6 with hk7 | hk7 | hk7 | hk7 | hk7 | hk7 | hk7
    · skip
      obtain rfl : own = 0 := nI_eq1 (b := 0) hkd rfl (by omega) (by omega) hk7
      refine g_tr (y := 0) hk7 ?_
      refine lv_iconst (v := 1) hx hb dX0_go_178 (by decide) ?_
      refine lv_iload_n hx hb dX0_go_179 rfl (lv_at hl 7 rfl) ?_
      refine lv_iload hx hb dX0_go_180 (lv_at hl 0 rfl) ?_
      refine g_ki h (g_runV X h (As := [.int 0, .int 1, .int x2, .int x8_40]) (rest := []) (c_X0_go_01 gl Z v45 w x2 x8_40 (d + 1) (ex8_40.trans (by rw [show (x3) = nI d from hd, show (1) = nI 1 from rfl, nI_add])) 0 (by omega) (t + 1) (by rw [ev45, ranC_k (by decide)]; exact hkd) (by rw [ev45]; exact ranC_1) (by omega) (by omega)) mi_X0_go ml_RX0_41 (cc_110) (by decide) kl0 rfl ⟨Nat.le_of_ble_eq_true rfl, Nat.le_of_ble_eq_true rfl⟩ rfl hl.1 rfl (Nat.le_of_ble_eq_true rfl) dX0_go_182) (fun r182 v182 w182 H locs hp182 h => ?_)
      obtain ⟨hr182, hw182⟩ := hp182
      obtain ⟨ev182, rfl⟩ := Prod.mk.inj hw182
      replace ev182 := ev182.symm
      refine lv_iconst (v := 2) hx hb dX0_go_185 (by decide) ?_
      refine lv_imul hx hb dX0_go_186 ?_
      exact g_iret X h dX0_go_187 ⟨(by rw [hr182, ev45, ranC_k (by decide), ranC_k (by decide)]; rfl), (by rw [ev182, ev45]; rfl)⟩
    · skip
      obtain rfl : own = 1 := nI_eq1 (b := 1) hkd rfl (by omega) (by omega) hk7
      refine g_tr (y := 1) hk7 ?_
      refine lv_iconst (v := 1) hx hb dX0_go_178 (by decide) ?_
      refine lv_iload_n hx hb dX0_go_179 rfl (lv_at hl 7 rfl) ?_
      refine lv_iload hx hb dX0_go_180 (lv_at hl 0 rfl) ?_
      refine g_ki h (g_runV X h (As := [.int 1, .int 1, .int x2, .int x8_40]) (rest := []) (c_X0_go_11 gl Z v45 w x2 x8_40 (d + 1) (ex8_40.trans (by rw [show (x3) = nI d from hd, show (1) = nI 1 from rfl, nI_add])) 1 (by omega) (t + 1) (by rw [ev45, ranC_k (by decide)]; exact hkd) (by rw [ev45]; exact ranC_1) (by omega) (by omega)) mi_X0_go ml_RX0_41 (cc_110) (by decide) kl0 rfl ⟨Nat.le_of_ble_eq_true rfl, Nat.le_of_ble_eq_true rfl⟩ rfl hl.1 rfl (Nat.le_of_ble_eq_true rfl) dX0_go_182) (fun r182 v182 w182 H locs hp182 h => ?_)
      obtain ⟨hr182, hw182⟩ := hp182
      obtain ⟨ev182, rfl⟩ := Prod.mk.inj hw182
      replace ev182 := ev182.symm
      refine lv_iconst (v := 2) hx hb dX0_go_185 (by decide) ?_
      refine lv_imul hx hb dX0_go_186 ?_
      exact g_iret X h dX0_go_187 ⟨(by rw [hr182, ev45, ranC_k (by decide), ranC_k (by decide)]; rfl), (by rw [ev182, ev45]; rfl)⟩
    · skip
      obtain rfl : own = 2 := nI_eq1 (b := 2) hkd rfl (by omega) (by omega) hk7
      refine g_tr (y := 2) hk7 ?_
      refine lv_iconst (v := 1) hx hb dX0_go_178 (by decide) ?_
      refine lv_iload_n hx hb dX0_go_179 rfl (lv_at hl 7 rfl) ?_
      refine lv_iload hx hb dX0_go_180 (lv_at hl 0 rfl) ?_
      refine g_ki h (g_runV X h (As := [.int 2, .int 1, .int x2, .int x8_40]) (rest := []) (c_X0_go_21 gl Z v45 w x2 x8_40 (d + 1) (ex8_40.trans (by rw [show (x3) = nI d from hd, show (1) = nI 1 from rfl, nI_add])) 2 (by omega) (t + 1) (by rw [ev45, ranC_k (by decide)]; exact hkd) (by rw [ev45]; exact ranC_1) (by omega) (by omega)) mi_X0_go ml_RX0_41 (cc_110) (by decide) kl0 rfl ⟨Nat.le_of_ble_eq_true rfl, Nat.le_of_ble_eq_true rfl⟩ rfl hl.1 rfl (Nat.le_of_ble_eq_true rfl) dX0_go_182) (fun r182 v182 w182 H locs hp182 h => ?_)
      obtain ⟨hr182, hw182⟩ := hp182
      obtain ⟨ev182, rfl⟩ := Prod.mk.inj hw182
      replace ev182 := ev182.symm
      refine lv_iconst (v := 2) hx hb dX0_go_185 (by decide) ?_
      refine lv_imul hx hb dX0_go_186 ?_
      exact g_iret X h dX0_go_187 ⟨(by rw [hr182, ev45, ranC_k (by decide), ranC_k (by decide)]; rfl), (by rw [ev182, ev45]; rfl)⟩
    · skip
      obtain rfl : own = 3 := nI_eq1 (b := 3) hkd rfl (by omega) (by omega) hk7
      refine g_tr (y := 3) hk7 ?_
      refine lv_iconst (v := 1) hx hb dX0_go_178 (by decide) ?_
      refine lv_iload_n hx hb dX0_go_179 rfl (lv_at hl 7 rfl) ?_
      refine lv_iload hx hb dX0_go_180 (lv_at hl 0 rfl) ?_
      refine g_ki h (g_runV X h (As := [.int 3, .int 1, .int x2, .int x8_40]) (rest := []) (c_X0_go_31 gl Z v45 w x2 x8_40 (d + 1) (ex8_40.trans (by rw [show (x3) = nI d from hd, show (1) = nI 1 from rfl, nI_add])) 3 (by omega) (t + 1) (by rw [ev45, ranC_k (by decide)]; exact hkd) (by rw [ev45]; exact ranC_1) (by omega) (by omega)) mi_X0_go ml_RX0_41 (cc_110) (by decide) kl0 rfl ⟨Nat.le_of_ble_eq_true rfl, Nat.le_of_ble_eq_true rfl⟩ rfl hl.1 rfl (Nat.le_of_ble_eq_true rfl) dX0_go_182) (fun r182 v182 w182 H locs hp182 h => ?_)
      obtain ⟨hr182, hw182⟩ := hp182
      obtain ⟨ev182, rfl⟩ := Prod.mk.inj hw182
      replace ev182 := ev182.symm
      refine lv_iconst (v := 2) hx hb dX0_go_185 (by decide) ?_
      refine lv_imul hx hb dX0_go_186 ?_
      exact g_iret X h dX0_go_187 ⟨(by rw [hr182, ev45, ranC_k (by decide), ranC_k (by decide)]; rfl), (by rw [ev182, ev45]; rfl)⟩
    · skip
      obtain rfl : own = 4 := nI_eq1 (b := 4) hkd rfl (by omega) (by omega) hk7
      refine g_tr (y := 4) hk7 ?_
      refine lv_iconst (v := 1) hx hb dX0_go_178 (by decide) ?_
      refine lv_iload_n hx hb dX0_go_179 rfl (lv_at hl 7 rfl) ?_
      refine lv_iload hx hb dX0_go_180 (lv_at hl 0 rfl) ?_
      refine g_ki h (g_runV X h (As := [.int 4, .int 1, .int x2, .int x8_40]) (rest := []) (c_X0_go_41 gl Z v45 w x2 x8_40 (d + 1) (ex8_40.trans (by rw [show (x3) = nI d from hd, show (1) = nI 1 from rfl, nI_add])) 4 (by omega) (t + 1) (by rw [ev45, ranC_k (by decide)]; exact hkd) (by rw [ev45]; exact ranC_1) (by omega) (by omega)) mi_X0_go ml_RX0_41 (cc_110) (by decide) kl0 rfl ⟨Nat.le_of_ble_eq_true rfl, Nat.le_of_ble_eq_true rfl⟩ rfl hl.1 rfl (Nat.le_of_ble_eq_true rfl) dX0_go_182) (fun r182 v182 w182 H locs hp182 h => ?_)
      obtain ⟨hr182, hw182⟩ := hp182
      obtain ⟨ev182, rfl⟩ := Prod.mk.inj hw182
      replace ev182 := ev182.symm
      refine lv_iconst (v := 2) hx hb dX0_go_185 (by decide) ?_
      refine lv_imul hx hb dX0_go_186 ?_
      exact g_iret X h dX0_go_187 ⟨(by rw [hr182, ev45, ranC_k (by decide), ranC_k (by decide)]; rfl), (by rw [ev182, ev45]; rfl)⟩
    · skip
      obtain rfl : own = 5 := nI_eq1 (b := 5) hkd rfl (by omega) (by omega) hk7
      refine g_tr (y := 5) hk7 ?_
      refine lv_iconst (v := 1) hx hb dX0_go_178 (by decide) ?_
      refine lv_iload_n hx hb dX0_go_179 rfl (lv_at hl 7 rfl) ?_
      refine lv_iload hx hb dX0_go_180 (lv_at hl 0 rfl) ?_
      refine g_ki h (g_runV X h (As := [.int 5, .int 1, .int x2, .int x8_40]) (rest := []) (c_X0_go_51 gl Z v45 w x2 x8_40 (d + 1) (ex8_40.trans (by rw [show (x3) = nI d from hd, show (1) = nI 1 from rfl, nI_add])) 5 (by omega) (t + 1) (by rw [ev45, ranC_k (by decide)]; exact hkd) (by rw [ev45]; exact ranC_1) (by omega) (by omega)) mi_X0_go ml_RX0_41 (cc_110) (by decide) kl0 rfl ⟨Nat.le_of_ble_eq_true rfl, Nat.le_of_ble_eq_true rfl⟩ rfl hl.1 rfl (Nat.le_of_ble_eq_true rfl) dX0_go_182) (fun r182 v182 w182 H locs hp182 h => ?_)
      obtain ⟨hr182, hw182⟩ := hp182
      obtain ⟨ev182, rfl⟩ := Prod.mk.inj hw182
      replace ev182 := ev182.symm
      refine lv_iconst (v := 2) hx hb dX0_go_185 (by decide) ?_
      refine lv_imul hx hb dX0_go_186 ?_
      exact g_iret X h dX0_go_187 ⟨(by rw [hr182, ev45, ranC_k (by decide), ranC_k (by decide)]; rfl), (by rw [ev182, ev45]; rfl)⟩
    · skip
      obtain rfl : own = 6 := nI_eq1 (b := 6) hkd rfl (by omega) (by omega) hk7
      refine g_tr (y := 6) hk7 ?_
      refine lv_iconst (v := 1) hx hb dX0_go_178 (by decide) ?_
      refine lv_iload_n hx hb dX0_go_179 rfl (lv_at hl 7 rfl) ?_
      refine lv_iload hx hb dX0_go_180 (lv_at hl 0 rfl) ?_
      refine g_ki h (g_runV X h (As := [.int 6, .int 1, .int x2, .int x8_40]) (rest := []) (c_X0_go_61 gl Z v45 w x2 x8_40 (d + 1) (ex8_40.trans (by rw [show (x3) = nI d from hd, show (1) = nI 1 from rfl, nI_add])) 6 (by omega) (t + 1) (by rw [ev45, ranC_k (by decide)]; exact hkd) (by rw [ev45]; exact ranC_1) (by omega) (by omega)) mi_X0_go ml_RX0_41 (cc_110) (by decide) kl0 rfl ⟨Nat.le_of_ble_eq_true rfl, Nat.le_of_ble_eq_true rfl⟩ rfl hl.1 rfl (Nat.le_of_ble_eq_true rfl) dX0_go_182) (fun r182 v182 w182 H locs hp182 h => ?_)
      obtain ⟨hr182, hw182⟩ := hp182
      obtain ⟨ev182, rfl⟩ := Prod.mk.inj hw182
      replace ev182 := ev182.symm
      refine lv_iconst (v := 2) hx hb dX0_go_185 (by decide) ?_
      refine lv_imul hx hb dX0_go_186 ?_
      exact g_iret X h dX0_go_187 ⟨(by rw [hr182, ev45, ranC_k (by decide), ranC_k (by decide)]; rfl), (by rw [ev182, ev45]; rfl)⟩
  · exact absurd (nI_le (b := 40) (show d ≤ 40 by omega) (by omega)) (by rw [hd] at c_4; exact c_4)

set_option maxRecDepth 100000 in
set_option maxHeartbeats 1000000 in
theorem c_X0_go_12 (gl : Launch) (Z : PL) (v : VV) (w : WV) (x2 : Int32) (x3 : Int32) (d : Nat) (hd : x3 = nI d) (own : Nat) (ho6 : own ≤ 6) (t : Nat) (hkd : v 110 3 = nI own) (htr : v 110 1 = nI t) (hdm : d ≤ 24) (ht9 : t < 800) : CT gl yX0_go cX0_go 9 (some .int) 6 163 Z [.ref (zg Z 110), .int 1, .int 2, .int x2, .int x3] v w (Qi Z (fun r u => r = tlV own 1 (v 110 2) (v 110 4) x2 ∧ (ranCL v t (tlL own 1), w) = u)) := by
  refine g_met (by decide) (Nat.le_of_ble_eq_true rfl) ?_
  intro gp ge gs gm ga gb gh gc X h ls hl
  have hx := X.1
  have hb := X.2.1
  have hl : lv_has ls 9 [(0, .ref (zg Z 110)), (1, .int 1), (2, .int 2), (3, .int x2), (4, .int x3)] := hl
  refine lv_iload hx hb dX0_go_0 (lv_at hl 4 rfl) ?_
  refine lv_bipush (v := 40) hx hb dX0_go_2 (by decide) ?_
  refine lv_icmp_le (tgt := 9) hx hb dX0_go_4 (by decide) (fun c_4 => ?_) (fun c_4 => ?_)
  · skip
    refine lv_iload_n hx hb dX0_go_9 rfl (lv_at hl 1 rfl) ?_
    refine lv_iload_n hx hb dX0_go_10 rfl (lv_at hl 2 rfl) ?_
    refine g_ki h (g_runS X h (As := [.int 1, .int 2]) (rest := []) (c_X0_holderOf_12 gl Z v w) ms_X0_holderOf ml_RX0_51 ⟨Nat.le_of_ble_eq_true rfl, Nat.le_of_ble_eq_true rfl⟩ rfl hl.1 rfl (Nat.le_of_ble_eq_true rfl) dX0_go_11) (fun r11 v11 w11 H locs hp11 h => ?_)
    obtain ⟨hr11, hu11⟩ := hp11; obtain ⟨rfl, rfl⟩ := Prod.mk.inj hu11
    refine g_tr (y := 0) hr11 ?_
    refine lv_istore (lv' := [(5, .int 0), (0, .ref (zg Z 110)), (1, .int 1), (2, .int 2), (3, .int x2), (4, .int x3)]) hx hb dX0_go_14 hl (by decide) rfl (fun ls hl => ?_)
    refine g_st_ABOVEN X h dX0_go_16 ?_
    refine lv_iload hx hb dX0_go_19 (lv_at hl 0 rfl) ?_
    refine g_tab0 X h (k := 0) rfl (by decide) dX0_go_21 ?_
    refine g_tr (y := (-1)) rfl ?_
    refine lv_istore (lv' := [(6, .int (-1)), (5, .int 0), (0, .ref (zg Z 110)), (1, .int 1), (2, .int 2), (3, .int x2), (4, .int x3)]) hx hb dX0_go_22 hl (by decide) rfl (fun ls hl => ?_)
    refine g_st_BODY X h dX0_go_24 ?_
    refine lv_iload hx hb dX0_go_27 (lv_at hl 1 rfl) ?_
    refine lv_iconst (v := 3) hx hb dX0_go_29 (by decide) ?_
    refine lv_imul hx hb dX0_go_30 ?_
    refine g_tr (y := 0) (by decide) ?_
    refine lv_iload_n hx hb dX0_go_31 rfl (lv_at hl 4 rfl) ?_
    refine lv_iadd hx hb dX0_go_32 ?_
    refine g_tr (y := 2) (by decide) ?_
    refine g_tab1 X h (k := 2) rfl (by decide) dX0_go_33 ?_
    refine g_tr (y := 12) rfl ?_
    refine lv_istore (lv' := [(7, .int 12), (6, .int (-1)), (5, .int 0), (0, .ref (zg Z 110)), (1, .int 1), (2, .int 2), (3, .int x2), (4, .int x3)]) hx hb dX0_go_34 hl (by decide) rfl (fun ls hl => ?_)
    refine lv_iload hx hb dX0_go_36 (lv_at hl 7 rfl) ?_
    refine lv_iconst (v := 1) hx hb dX0_go_38 (by decide) ?_
    refine lv_iadd hx hb dX0_go_39 ?_
    refine lv_topi (fun x8_40 ex8_40 => ?_)
    refine lv_istore (lv' := [(8, .int x8_40), (7, .int 12), (6, .int (-1)), (5, .int 0), (0, .ref (zg Z 110)), (1, .int 1), (2, .int 2), (3, .int x2), (4, .int x3)]) hx hb dX0_go_40 hl (by decide) rfl (fun ls hl => ?_)
    refine lv_aload_n hx hb dX0_go_42 rfl (lv_at hl 4 rfl) ?_
    refine lv_iload hx hb dX0_go_43 (lv_at hl 1 rfl) ?_
    refine g_kv h (g_runV X h (As := [.int 12]) (rest := []) (c_X0_note gl Z v w 12 t htr (by omega)) mi_X0_note ml_RX0_54 (cc_110) (by decide) kl0 rfl ⟨Nat.le_of_ble_eq_true rfl, Nat.le_of_ble_eq_true rfl⟩ rfl hl.1 rfl (Nat.le_of_ble_eq_true rfl) dX0_go_45) (fun v45 w45 H locs hp45 h => ?_)
    obtain ⟨ev45, rfl⟩ := Prod.mk.inj hp45
    replace ev45 := ev45.symm
    refine lv_iload hx hb dX0_go_48 (lv_at hl 1 rfl) ?_
    refine lv_lookup (off := 123) (tgt := 173) hx hb dX0_go_50 (by decide) (by decide) (by decide) ?_
    refine lv_aload_n hx hb dX0_go_173 rfl (lv_at hl 4 rfl) ?_
    refine lv_aload_n hx hb dX0_go_174 rfl (lv_at hl 4 rfl) ?_
    refine g_geti X h (k := 3) (cc_110) fr_RX0_33 rfl (by decide) dX0_go_175 ?_
    refine g_tr (y := (v 110 3)) (by rw [ev45, ranC_k (by decide)]) ?_
    rcases kind7 hkd ho6 with hk7 | hk7 | hk7 | hk7 | hk7 | hk7 | hk7
    · skip
      obtain rfl : own = 0 := nI_eq1 (b := 0) hkd rfl (by omega) (by omega) hk7
      refine g_tr (y := 0) hk7 ?_
      refine lv_iconst (v := 1) hx hb dX0_go_178 (by decide) ?_
      refine lv_iload_n hx hb dX0_go_179 rfl (lv_at hl 7 rfl) ?_
      refine lv_iload hx hb dX0_go_180 (lv_at hl 0 rfl) ?_
      refine g_ki h (g_runV X h (As := [.int 0, .int 1, .int x2, .int x8_40]) (rest := []) (c_X0_go_01 gl Z v45 w x2 x8_40 (d + 1) (ex8_40.trans (by rw [show (x3) = nI d from hd, show (1) = nI 1 from rfl, nI_add])) 0 (by omega) (t + 1) (by rw [ev45, ranC_k (by decide)]; exact hkd) (by rw [ev45]; exact ranC_1) (by omega) (by omega)) mi_X0_go ml_RX0_41 (cc_110) (by decide) kl0 rfl ⟨Nat.le_of_ble_eq_true rfl, Nat.le_of_ble_eq_true rfl⟩ rfl hl.1 rfl (Nat.le_of_ble_eq_true rfl) dX0_go_182) (fun r182 v182 w182 H locs hp182 h => ?_)
      obtain ⟨hr182, hw182⟩ := hp182
      obtain ⟨ev182, rfl⟩ := Prod.mk.inj hw182
      replace ev182 := ev182.symm
      refine lv_iconst (v := 2) hx hb dX0_go_185 (by decide) ?_
      refine lv_imul hx hb dX0_go_186 ?_
      exact g_iret X h dX0_go_187 ⟨(by rw [hr182, ev45, ranC_k (by decide), ranC_k (by decide)]; rfl), (by rw [ev182, ev45]; rfl)⟩
    · skip
      obtain rfl : own = 1 := nI_eq1 (b := 1) hkd rfl (by omega) (by omega) hk7
      refine g_tr (y := 1) hk7 ?_
      refine lv_iconst (v := 1) hx hb dX0_go_178 (by decide) ?_
      refine lv_iload_n hx hb dX0_go_179 rfl (lv_at hl 7 rfl) ?_
      refine lv_iload hx hb dX0_go_180 (lv_at hl 0 rfl) ?_
      refine g_ki h (g_runV X h (As := [.int 1, .int 1, .int x2, .int x8_40]) (rest := []) (c_X0_go_11 gl Z v45 w x2 x8_40 (d + 1) (ex8_40.trans (by rw [show (x3) = nI d from hd, show (1) = nI 1 from rfl, nI_add])) 1 (by omega) (t + 1) (by rw [ev45, ranC_k (by decide)]; exact hkd) (by rw [ev45]; exact ranC_1) (by omega) (by omega)) mi_X0_go ml_RX0_41 (cc_110) (by decide) kl0 rfl ⟨Nat.le_of_ble_eq_true rfl, Nat.le_of_ble_eq_true rfl⟩ rfl hl.1 rfl (Nat.le_of_ble_eq_true rfl) dX0_go_182) (fun r182 v182 w182 H locs hp182 h => ?_)
      obtain ⟨hr182, hw182⟩ := hp182
      obtain ⟨ev182, rfl⟩ := Prod.mk.inj hw182
      replace ev182 := ev182.symm
      refine lv_iconst (v := 2) hx hb dX0_go_185 (by decide) ?_
      refine lv_imul hx hb dX0_go_186 ?_
      exact g_iret X h dX0_go_187 ⟨(by rw [hr182, ev45, ranC_k (by decide), ranC_k (by decide)]; rfl), (by rw [ev182, ev45]; rfl)⟩
    · skip
      obtain rfl : own = 2 := nI_eq1 (b := 2) hkd rfl (by omega) (by omega) hk7
      refine g_tr (y := 2) hk7 ?_
      refine lv_iconst (v := 1) hx hb dX0_go_178 (by decide) ?_
      refine lv_iload_n hx hb dX0_go_179 rfl (lv_at hl 7 rfl) ?_
      refine lv_iload hx hb dX0_go_180 (lv_at hl 0 rfl) ?_
      refine g_ki h (g_runV X h (As := [.int 2, .int 1, .int x2, .int x8_40]) (rest := []) (c_X0_go_21 gl Z v45 w x2 x8_40 (d + 1) (ex8_40.trans (by rw [show (x3) = nI d from hd, show (1) = nI 1 from rfl, nI_add])) 2 (by omega) (t + 1) (by rw [ev45, ranC_k (by decide)]; exact hkd) (by rw [ev45]; exact ranC_1) (by omega) (by omega)) mi_X0_go ml_RX0_41 (cc_110) (by decide) kl0 rfl ⟨Nat.le_of_ble_eq_true rfl, Nat.le_of_ble_eq_true rfl⟩ rfl hl.1 rfl (Nat.le_of_ble_eq_true rfl) dX0_go_182) (fun r182 v182 w182 H locs hp182 h => ?_)
      obtain ⟨hr182, hw182⟩ := hp182
      obtain ⟨ev182, rfl⟩ := Prod.mk.inj hw182
      replace ev182 := ev182.symm
      refine lv_iconst (v := 2) hx hb dX0_go_185 (by decide) ?_
      refine lv_imul hx hb dX0_go_186 ?_
      exact g_iret X h dX0_go_187 ⟨(by rw [hr182, ev45, ranC_k (by decide), ranC_k (by decide)]; rfl), (by rw [ev182, ev45]; rfl)⟩
    · skip
      obtain rfl : own = 3 := nI_eq1 (b := 3) hkd rfl (by omega) (by omega) hk7
      refine g_tr (y := 3) hk7 ?_
      refine lv_iconst (v := 1) hx hb dX0_go_178 (by decide) ?_
      refine lv_iload_n hx hb dX0_go_179 rfl (lv_at hl 7 rfl) ?_
      refine lv_iload hx hb dX0_go_180 (lv_at hl 0 rfl) ?_
      refine g_ki h (g_runV X h (As := [.int 3, .int 1, .int x2, .int x8_40]) (rest := []) (c_X0_go_31 gl Z v45 w x2 x8_40 (d + 1) (ex8_40.trans (by rw [show (x3) = nI d from hd, show (1) = nI 1 from rfl, nI_add])) 3 (by omega) (t + 1) (by rw [ev45, ranC_k (by decide)]; exact hkd) (by rw [ev45]; exact ranC_1) (by omega) (by omega)) mi_X0_go ml_RX0_41 (cc_110) (by decide) kl0 rfl ⟨Nat.le_of_ble_eq_true rfl, Nat.le_of_ble_eq_true rfl⟩ rfl hl.1 rfl (Nat.le_of_ble_eq_true rfl) dX0_go_182) (fun r182 v182 w182 H locs hp182 h => ?_)
      obtain ⟨hr182, hw182⟩ := hp182
      obtain ⟨ev182, rfl⟩ := Prod.mk.inj hw182
      replace ev182 := ev182.symm
      refine lv_iconst (v := 2) hx hb dX0_go_185 (by decide) ?_
      refine lv_imul hx hb dX0_go_186 ?_
      exact g_iret X h dX0_go_187 ⟨(by rw [hr182, ev45, ranC_k (by decide), ranC_k (by decide)]; rfl), (by rw [ev182, ev45]; rfl)⟩
    · skip
      obtain rfl : own = 4 := nI_eq1 (b := 4) hkd rfl (by omega) (by omega) hk7
      refine g_tr (y := 4) hk7 ?_
      refine lv_iconst (v := 1) hx hb dX0_go_178 (by decide) ?_
      refine lv_iload_n hx hb dX0_go_179 rfl (lv_at hl 7 rfl) ?_
      refine lv_iload hx hb dX0_go_180 (lv_at hl 0 rfl) ?_
      refine g_ki h (g_runV X h (As := [.int 4, .int 1, .int x2, .int x8_40]) (rest := []) (c_X0_go_41 gl Z v45 w x2 x8_40 (d + 1) (ex8_40.trans (by rw [show (x3) = nI d from hd, show (1) = nI 1 from rfl, nI_add])) 4 (by omega) (t + 1) (by rw [ev45, ranC_k (by decide)]; exact hkd) (by rw [ev45]; exact ranC_1) (by omega) (by omega)) mi_X0_go ml_RX0_41 (cc_110) (by decide) kl0 rfl ⟨Nat.le_of_ble_eq_true rfl, Nat.le_of_ble_eq_true rfl⟩ rfl hl.1 rfl (Nat.le_of_ble_eq_true rfl) dX0_go_182) (fun r182 v182 w182 H locs hp182 h => ?_)
      obtain ⟨hr182, hw182⟩ := hp182
      obtain ⟨ev182, rfl⟩ := Prod.mk.inj hw182
      replace ev182 := ev182.symm
      refine lv_iconst (v := 2) hx hb dX0_go_185 (by decide) ?_
      refine lv_imul hx hb dX0_go_186 ?_
      exact g_iret X h dX0_go_187 ⟨(by rw [hr182, ev45, ranC_k (by decide), ranC_k (by decide)]; rfl), (by rw [ev182, ev45]; rfl)⟩
    · skip
      obtain rfl : own = 5 := nI_eq1 (b := 5) hkd rfl (by omega) (by omega) hk7
      refine g_tr (y := 5) hk7 ?_
      refine lv_iconst (v := 1) hx hb dX0_go_178 (by decide) ?_
      refine lv_iload_n hx hb dX0_go_179 rfl (lv_at hl 7 rfl) ?_
      refine lv_iload hx hb dX0_go_180 (lv_at hl 0 rfl) ?_
      refine g_ki h (g_runV X h (As := [.int 5, .int 1, .int x2, .int x8_40]) (rest := []) (c_X0_go_51 gl Z v45 w x2 x8_40 (d + 1) (ex8_40.trans (by rw [show (x3) = nI d from hd, show (1) = nI 1 from rfl, nI_add])) 5 (by omega) (t + 1) (by rw [ev45, ranC_k (by decide)]; exact hkd) (by rw [ev45]; exact ranC_1) (by omega) (by omega)) mi_X0_go ml_RX0_41 (cc_110) (by decide) kl0 rfl ⟨Nat.le_of_ble_eq_true rfl, Nat.le_of_ble_eq_true rfl⟩ rfl hl.1 rfl (Nat.le_of_ble_eq_true rfl) dX0_go_182) (fun r182 v182 w182 H locs hp182 h => ?_)
      obtain ⟨hr182, hw182⟩ := hp182
      obtain ⟨ev182, rfl⟩ := Prod.mk.inj hw182
      replace ev182 := ev182.symm
      refine lv_iconst (v := 2) hx hb dX0_go_185 (by decide) ?_
      refine lv_imul hx hb dX0_go_186 ?_
      exact g_iret X h dX0_go_187 ⟨(by rw [hr182, ev45, ranC_k (by decide), ranC_k (by decide)]; rfl), (by rw [ev182, ev45]; rfl)⟩
    · skip
      obtain rfl : own = 6 := nI_eq1 (b := 6) hkd rfl (by omega) (by omega) hk7
      refine g_tr (y := 6) hk7 ?_
      refine lv_iconst (v := 1) hx hb dX0_go_178 (by decide) ?_
      refine lv_iload_n hx hb dX0_go_179 rfl (lv_at hl 7 rfl) ?_
      refine lv_iload hx hb dX0_go_180 (lv_at hl 0 rfl) ?_
      refine g_ki h (g_runV X h (As := [.int 6, .int 1, .int x2, .int x8_40]) (rest := []) (c_X0_go_61 gl Z v45 w x2 x8_40 (d + 1) (ex8_40.trans (by rw [show (x3) = nI d from hd, show (1) = nI 1 from rfl, nI_add])) 6 (by omega) (t + 1) (by rw [ev45, ranC_k (by decide)]; exact hkd) (by rw [ev45]; exact ranC_1) (by omega) (by omega)) mi_X0_go ml_RX0_41 (cc_110) (by decide) kl0 rfl ⟨Nat.le_of_ble_eq_true rfl, Nat.le_of_ble_eq_true rfl⟩ rfl hl.1 rfl (Nat.le_of_ble_eq_true rfl) dX0_go_182) (fun r182 v182 w182 H locs hp182 h => ?_)
      obtain ⟨hr182, hw182⟩ := hp182
      obtain ⟨ev182, rfl⟩ := Prod.mk.inj hw182
      replace ev182 := ev182.symm
      refine lv_iconst (v := 2) hx hb dX0_go_185 (by decide) ?_
      refine lv_imul hx hb dX0_go_186 ?_
      exact g_iret X h dX0_go_187 ⟨(by rw [hr182, ev45, ranC_k (by decide), ranC_k (by decide)]; rfl), (by rw [ev182, ev45]; rfl)⟩
  · exact absurd (nI_le (b := 40) (show d ≤ 40 by omega) (by omega)) (by rw [hd] at c_4; exact c_4)

set_option maxRecDepth 100000 in
set_option maxHeartbeats 1000000 in
theorem c_X0_go_22 (gl : Launch) (Z : PL) (v : VV) (w : WV) (x2 : Int32) (x3 : Int32) (d : Nat) (hd : x3 = nI d) (own : Nat) (ho6 : own ≤ 6) (t : Nat) (hkd : v 110 3 = nI own) (htr : v 110 1 = nI t) (hdm : d ≤ 24) (ht9 : t < 800) : CT gl yX0_go cX0_go 9 (some .int) 6 163 Z [.ref (zg Z 110), .int 2, .int 2, .int x2, .int x3] v w (Qi Z (fun r u => r = tlV own 2 (v 110 2) (v 110 4) x2 ∧ (ranCL v t (tlL own 2), w) = u)) := by
  refine g_met (by decide) (Nat.le_of_ble_eq_true rfl) ?_
  intro gp ge gs gm ga gb gh gc X h ls hl
  have hx := X.1
  have hb := X.2.1
  have hl : lv_has ls 9 [(0, .ref (zg Z 110)), (1, .int 2), (2, .int 2), (3, .int x2), (4, .int x3)] := hl
  refine lv_iload hx hb dX0_go_0 (lv_at hl 4 rfl) ?_
  refine lv_bipush (v := 40) hx hb dX0_go_2 (by decide) ?_
  refine lv_icmp_le (tgt := 9) hx hb dX0_go_4 (by decide) (fun c_4 => ?_) (fun c_4 => ?_)
  · skip
    refine lv_iload_n hx hb dX0_go_9 rfl (lv_at hl 1 rfl) ?_
    refine lv_iload_n hx hb dX0_go_10 rfl (lv_at hl 2 rfl) ?_
    refine g_ki h (g_runS X h (As := [.int 2, .int 2]) (rest := []) (c_X0_holderOf_22 gl Z v w) ms_X0_holderOf ml_RX0_51 ⟨Nat.le_of_ble_eq_true rfl, Nat.le_of_ble_eq_true rfl⟩ rfl hl.1 rfl (Nat.le_of_ble_eq_true rfl) dX0_go_11) (fun r11 v11 w11 H locs hp11 h => ?_)
    obtain ⟨hr11, hu11⟩ := hp11; obtain ⟨rfl, rfl⟩ := Prod.mk.inj hu11
    refine g_tr (y := 0) hr11 ?_
    refine lv_istore (lv' := [(5, .int 0), (0, .ref (zg Z 110)), (1, .int 2), (2, .int 2), (3, .int x2), (4, .int x3)]) hx hb dX0_go_14 hl (by decide) rfl (fun ls hl => ?_)
    refine g_st_ABOVEN X h dX0_go_16 ?_
    refine lv_iload hx hb dX0_go_19 (lv_at hl 0 rfl) ?_
    refine g_tab0 X h (k := 0) rfl (by decide) dX0_go_21 ?_
    refine g_tr (y := (-1)) rfl ?_
    refine lv_istore (lv' := [(6, .int (-1)), (5, .int 0), (0, .ref (zg Z 110)), (1, .int 2), (2, .int 2), (3, .int x2), (4, .int x3)]) hx hb dX0_go_22 hl (by decide) rfl (fun ls hl => ?_)
    refine g_st_BODY X h dX0_go_24 ?_
    refine lv_iload hx hb dX0_go_27 (lv_at hl 1 rfl) ?_
    refine lv_iconst (v := 3) hx hb dX0_go_29 (by decide) ?_
    refine lv_imul hx hb dX0_go_30 ?_
    refine g_tr (y := 0) (by decide) ?_
    refine lv_iload_n hx hb dX0_go_31 rfl (lv_at hl 4 rfl) ?_
    refine lv_iadd hx hb dX0_go_32 ?_
    refine g_tr (y := 2) (by decide) ?_
    refine g_tab1 X h (k := 2) rfl (by decide) dX0_go_33 ?_
    refine g_tr (y := 12) rfl ?_
    refine lv_istore (lv' := [(7, .int 12), (6, .int (-1)), (5, .int 0), (0, .ref (zg Z 110)), (1, .int 2), (2, .int 2), (3, .int x2), (4, .int x3)]) hx hb dX0_go_34 hl (by decide) rfl (fun ls hl => ?_)
    refine lv_iload hx hb dX0_go_36 (lv_at hl 7 rfl) ?_
    refine lv_iconst (v := 1) hx hb dX0_go_38 (by decide) ?_
    refine lv_iadd hx hb dX0_go_39 ?_
    refine lv_topi (fun x8_40 ex8_40 => ?_)
    refine lv_istore (lv' := [(8, .int x8_40), (7, .int 12), (6, .int (-1)), (5, .int 0), (0, .ref (zg Z 110)), (1, .int 2), (2, .int 2), (3, .int x2), (4, .int x3)]) hx hb dX0_go_40 hl (by decide) rfl (fun ls hl => ?_)
    refine lv_aload_n hx hb dX0_go_42 rfl (lv_at hl 4 rfl) ?_
    refine lv_iload hx hb dX0_go_43 (lv_at hl 1 rfl) ?_
    refine g_kv h (g_runV X h (As := [.int 12]) (rest := []) (c_X0_note gl Z v w 12 t htr (by omega)) mi_X0_note ml_RX0_54 (cc_110) (by decide) kl0 rfl ⟨Nat.le_of_ble_eq_true rfl, Nat.le_of_ble_eq_true rfl⟩ rfl hl.1 rfl (Nat.le_of_ble_eq_true rfl) dX0_go_45) (fun v45 w45 H locs hp45 h => ?_)
    obtain ⟨ev45, rfl⟩ := Prod.mk.inj hp45
    replace ev45 := ev45.symm
    refine lv_iload hx hb dX0_go_48 (lv_at hl 1 rfl) ?_
    refine lv_lookup (off := 123) (tgt := 173) hx hb dX0_go_50 (by decide) (by decide) (by decide) ?_
    refine lv_aload_n hx hb dX0_go_173 rfl (lv_at hl 4 rfl) ?_
    refine lv_aload_n hx hb dX0_go_174 rfl (lv_at hl 4 rfl) ?_
    refine g_geti X h (k := 3) (cc_110) fr_RX0_33 rfl (by decide) dX0_go_175 ?_
    refine g_tr (y := (v 110 3)) (by rw [ev45, ranC_k (by decide)]) ?_
    rcases kind7 hkd ho6 with hk7 | hk7 | hk7 | hk7 | hk7 | hk7 | hk7
    · skip
      obtain rfl : own = 0 := nI_eq1 (b := 0) hkd rfl (by omega) (by omega) hk7
      refine g_tr (y := 0) hk7 ?_
      refine lv_iconst (v := 1) hx hb dX0_go_178 (by decide) ?_
      refine lv_iload_n hx hb dX0_go_179 rfl (lv_at hl 7 rfl) ?_
      refine lv_iload hx hb dX0_go_180 (lv_at hl 0 rfl) ?_
      refine g_ki h (g_runV X h (As := [.int 0, .int 1, .int x2, .int x8_40]) (rest := []) (c_X0_go_01 gl Z v45 w x2 x8_40 (d + 1) (ex8_40.trans (by rw [show (x3) = nI d from hd, show (1) = nI 1 from rfl, nI_add])) 0 (by omega) (t + 1) (by rw [ev45, ranC_k (by decide)]; exact hkd) (by rw [ev45]; exact ranC_1) (by omega) (by omega)) mi_X0_go ml_RX0_41 (cc_110) (by decide) kl0 rfl ⟨Nat.le_of_ble_eq_true rfl, Nat.le_of_ble_eq_true rfl⟩ rfl hl.1 rfl (Nat.le_of_ble_eq_true rfl) dX0_go_182) (fun r182 v182 w182 H locs hp182 h => ?_)
      obtain ⟨hr182, hw182⟩ := hp182
      obtain ⟨ev182, rfl⟩ := Prod.mk.inj hw182
      replace ev182 := ev182.symm
      refine lv_iconst (v := 2) hx hb dX0_go_185 (by decide) ?_
      refine lv_imul hx hb dX0_go_186 ?_
      exact g_iret X h dX0_go_187 ⟨(by rw [hr182, ev45, ranC_k (by decide), ranC_k (by decide)]; rfl), (by rw [ev182, ev45]; rfl)⟩
    · skip
      obtain rfl : own = 1 := nI_eq1 (b := 1) hkd rfl (by omega) (by omega) hk7
      refine g_tr (y := 1) hk7 ?_
      refine lv_iconst (v := 1) hx hb dX0_go_178 (by decide) ?_
      refine lv_iload_n hx hb dX0_go_179 rfl (lv_at hl 7 rfl) ?_
      refine lv_iload hx hb dX0_go_180 (lv_at hl 0 rfl) ?_
      refine g_ki h (g_runV X h (As := [.int 1, .int 1, .int x2, .int x8_40]) (rest := []) (c_X0_go_11 gl Z v45 w x2 x8_40 (d + 1) (ex8_40.trans (by rw [show (x3) = nI d from hd, show (1) = nI 1 from rfl, nI_add])) 1 (by omega) (t + 1) (by rw [ev45, ranC_k (by decide)]; exact hkd) (by rw [ev45]; exact ranC_1) (by omega) (by omega)) mi_X0_go ml_RX0_41 (cc_110) (by decide) kl0 rfl ⟨Nat.le_of_ble_eq_true rfl, Nat.le_of_ble_eq_true rfl⟩ rfl hl.1 rfl (Nat.le_of_ble_eq_true rfl) dX0_go_182) (fun r182 v182 w182 H locs hp182 h => ?_)
      obtain ⟨hr182, hw182⟩ := hp182
      obtain ⟨ev182, rfl⟩ := Prod.mk.inj hw182
      replace ev182 := ev182.symm
      refine lv_iconst (v := 2) hx hb dX0_go_185 (by decide) ?_
      refine lv_imul hx hb dX0_go_186 ?_
      exact g_iret X h dX0_go_187 ⟨(by rw [hr182, ev45, ranC_k (by decide), ranC_k (by decide)]; rfl), (by rw [ev182, ev45]; rfl)⟩
    · skip
      obtain rfl : own = 2 := nI_eq1 (b := 2) hkd rfl (by omega) (by omega) hk7
      refine g_tr (y := 2) hk7 ?_
      refine lv_iconst (v := 1) hx hb dX0_go_178 (by decide) ?_
      refine lv_iload_n hx hb dX0_go_179 rfl (lv_at hl 7 rfl) ?_
      refine lv_iload hx hb dX0_go_180 (lv_at hl 0 rfl) ?_
      refine g_ki h (g_runV X h (As := [.int 2, .int 1, .int x2, .int x8_40]) (rest := []) (c_X0_go_21 gl Z v45 w x2 x8_40 (d + 1) (ex8_40.trans (by rw [show (x3) = nI d from hd, show (1) = nI 1 from rfl, nI_add])) 2 (by omega) (t + 1) (by rw [ev45, ranC_k (by decide)]; exact hkd) (by rw [ev45]; exact ranC_1) (by omega) (by omega)) mi_X0_go ml_RX0_41 (cc_110) (by decide) kl0 rfl ⟨Nat.le_of_ble_eq_true rfl, Nat.le_of_ble_eq_true rfl⟩ rfl hl.1 rfl (Nat.le_of_ble_eq_true rfl) dX0_go_182) (fun r182 v182 w182 H locs hp182 h => ?_)
      obtain ⟨hr182, hw182⟩ := hp182
      obtain ⟨ev182, rfl⟩ := Prod.mk.inj hw182
      replace ev182 := ev182.symm
      refine lv_iconst (v := 2) hx hb dX0_go_185 (by decide) ?_
      refine lv_imul hx hb dX0_go_186 ?_
      exact g_iret X h dX0_go_187 ⟨(by rw [hr182, ev45, ranC_k (by decide), ranC_k (by decide)]; rfl), (by rw [ev182, ev45]; rfl)⟩
    · skip
      obtain rfl : own = 3 := nI_eq1 (b := 3) hkd rfl (by omega) (by omega) hk7
      refine g_tr (y := 3) hk7 ?_
      refine lv_iconst (v := 1) hx hb dX0_go_178 (by decide) ?_
      refine lv_iload_n hx hb dX0_go_179 rfl (lv_at hl 7 rfl) ?_
      refine lv_iload hx hb dX0_go_180 (lv_at hl 0 rfl) ?_
      refine g_ki h (g_runV X h (As := [.int 3, .int 1, .int x2, .int x8_40]) (rest := []) (c_X0_go_31 gl Z v45 w x2 x8_40 (d + 1) (ex8_40.trans (by rw [show (x3) = nI d from hd, show (1) = nI 1 from rfl, nI_add])) 3 (by omega) (t + 1) (by rw [ev45, ranC_k (by decide)]; exact hkd) (by rw [ev45]; exact ranC_1) (by omega) (by omega)) mi_X0_go ml_RX0_41 (cc_110) (by decide) kl0 rfl ⟨Nat.le_of_ble_eq_true rfl, Nat.le_of_ble_eq_true rfl⟩ rfl hl.1 rfl (Nat.le_of_ble_eq_true rfl) dX0_go_182) (fun r182 v182 w182 H locs hp182 h => ?_)
      obtain ⟨hr182, hw182⟩ := hp182
      obtain ⟨ev182, rfl⟩ := Prod.mk.inj hw182
      replace ev182 := ev182.symm
      refine lv_iconst (v := 2) hx hb dX0_go_185 (by decide) ?_
      refine lv_imul hx hb dX0_go_186 ?_
      exact g_iret X h dX0_go_187 ⟨(by rw [hr182, ev45, ranC_k (by decide), ranC_k (by decide)]; rfl), (by rw [ev182, ev45]; rfl)⟩
    · skip
      obtain rfl : own = 4 := nI_eq1 (b := 4) hkd rfl (by omega) (by omega) hk7
      refine g_tr (y := 4) hk7 ?_
      refine lv_iconst (v := 1) hx hb dX0_go_178 (by decide) ?_
      refine lv_iload_n hx hb dX0_go_179 rfl (lv_at hl 7 rfl) ?_
      refine lv_iload hx hb dX0_go_180 (lv_at hl 0 rfl) ?_
      refine g_ki h (g_runV X h (As := [.int 4, .int 1, .int x2, .int x8_40]) (rest := []) (c_X0_go_41 gl Z v45 w x2 x8_40 (d + 1) (ex8_40.trans (by rw [show (x3) = nI d from hd, show (1) = nI 1 from rfl, nI_add])) 4 (by omega) (t + 1) (by rw [ev45, ranC_k (by decide)]; exact hkd) (by rw [ev45]; exact ranC_1) (by omega) (by omega)) mi_X0_go ml_RX0_41 (cc_110) (by decide) kl0 rfl ⟨Nat.le_of_ble_eq_true rfl, Nat.le_of_ble_eq_true rfl⟩ rfl hl.1 rfl (Nat.le_of_ble_eq_true rfl) dX0_go_182) (fun r182 v182 w182 H locs hp182 h => ?_)
      obtain ⟨hr182, hw182⟩ := hp182
      obtain ⟨ev182, rfl⟩ := Prod.mk.inj hw182
      replace ev182 := ev182.symm
      refine lv_iconst (v := 2) hx hb dX0_go_185 (by decide) ?_
      refine lv_imul hx hb dX0_go_186 ?_
      exact g_iret X h dX0_go_187 ⟨(by rw [hr182, ev45, ranC_k (by decide), ranC_k (by decide)]; rfl), (by rw [ev182, ev45]; rfl)⟩
    · skip
      obtain rfl : own = 5 := nI_eq1 (b := 5) hkd rfl (by omega) (by omega) hk7
      refine g_tr (y := 5) hk7 ?_
      refine lv_iconst (v := 1) hx hb dX0_go_178 (by decide) ?_
      refine lv_iload_n hx hb dX0_go_179 rfl (lv_at hl 7 rfl) ?_
      refine lv_iload hx hb dX0_go_180 (lv_at hl 0 rfl) ?_
      refine g_ki h (g_runV X h (As := [.int 5, .int 1, .int x2, .int x8_40]) (rest := []) (c_X0_go_51 gl Z v45 w x2 x8_40 (d + 1) (ex8_40.trans (by rw [show (x3) = nI d from hd, show (1) = nI 1 from rfl, nI_add])) 5 (by omega) (t + 1) (by rw [ev45, ranC_k (by decide)]; exact hkd) (by rw [ev45]; exact ranC_1) (by omega) (by omega)) mi_X0_go ml_RX0_41 (cc_110) (by decide) kl0 rfl ⟨Nat.le_of_ble_eq_true rfl, Nat.le_of_ble_eq_true rfl⟩ rfl hl.1 rfl (Nat.le_of_ble_eq_true rfl) dX0_go_182) (fun r182 v182 w182 H locs hp182 h => ?_)
      obtain ⟨hr182, hw182⟩ := hp182
      obtain ⟨ev182, rfl⟩ := Prod.mk.inj hw182
      replace ev182 := ev182.symm
      refine lv_iconst (v := 2) hx hb dX0_go_185 (by decide) ?_
      refine lv_imul hx hb dX0_go_186 ?_
      exact g_iret X h dX0_go_187 ⟨(by rw [hr182, ev45, ranC_k (by decide), ranC_k (by decide)]; rfl), (by rw [ev182, ev45]; rfl)⟩
    · skip
      obtain rfl : own = 6 := nI_eq1 (b := 6) hkd rfl (by omega) (by omega) hk7
      refine g_tr (y := 6) hk7 ?_
      refine lv_iconst (v := 1) hx hb dX0_go_178 (by decide) ?_
      refine lv_iload_n hx hb dX0_go_179 rfl (lv_at hl 7 rfl) ?_
      refine lv_iload hx hb dX0_go_180 (lv_at hl 0 rfl) ?_
      refine g_ki h (g_runV X h (As := [.int 6, .int 1, .int x2, .int x8_40]) (rest := []) (c_X0_go_61 gl Z v45 w x2 x8_40 (d + 1) (ex8_40.trans (by rw [show (x3) = nI d from hd, show (1) = nI 1 from rfl, nI_add])) 6 (by omega) (t + 1) (by rw [ev45, ranC_k (by decide)]; exact hkd) (by rw [ev45]; exact ranC_1) (by omega) (by omega)) mi_X0_go ml_RX0_41 (cc_110) (by decide) kl0 rfl ⟨Nat.le_of_ble_eq_true rfl, Nat.le_of_ble_eq_true rfl⟩ rfl hl.1 rfl (Nat.le_of_ble_eq_true rfl) dX0_go_182) (fun r182 v182 w182 H locs hp182 h => ?_)
      obtain ⟨hr182, hw182⟩ := hp182
      obtain ⟨ev182, rfl⟩ := Prod.mk.inj hw182
      replace ev182 := ev182.symm
      refine lv_iconst (v := 2) hx hb dX0_go_185 (by decide) ?_
      refine lv_imul hx hb dX0_go_186 ?_
      exact g_iret X h dX0_go_187 ⟨(by rw [hr182, ev45, ranC_k (by decide), ranC_k (by decide)]; rfl), (by rw [ev182, ev45]; rfl)⟩
  · exact absurd (nI_le (b := 40) (show d ≤ 40 by omega) (by omega)) (by rw [hd] at c_4; exact c_4)

set_option maxRecDepth 100000 in
set_option maxHeartbeats 1000000 in
theorem c_X0_go_42 (gl : Launch) (Z : PL) (v : VV) (w : WV) (x2 : Int32) (x3 : Int32) (d : Nat) (hd : x3 = nI d) (own : Nat) (ho6 : own ≤ 6) (t : Nat) (hkd : v 110 3 = nI own) (htr : v 110 1 = nI t) (hdm : d ≤ 24) (ht9 : t < 800) : CT gl yX0_go cX0_go 9 (some .int) 6 163 Z [.ref (zg Z 110), .int 4, .int 2, .int x2, .int x3] v w (Qi Z (fun r u => r = tlV own 4 (v 110 2) (v 110 4) x2 ∧ (ranCL v t (tlL own 4), w) = u)) := by
  refine g_met (by decide) (Nat.le_of_ble_eq_true rfl) ?_
  intro gp ge gs gm ga gb gh gc X h ls hl
  have hx := X.1
  have hb := X.2.1
  have hl : lv_has ls 9 [(0, .ref (zg Z 110)), (1, .int 4), (2, .int 2), (3, .int x2), (4, .int x3)] := hl
  refine lv_iload hx hb dX0_go_0 (lv_at hl 4 rfl) ?_
  refine lv_bipush (v := 40) hx hb dX0_go_2 (by decide) ?_
  refine lv_icmp_le (tgt := 9) hx hb dX0_go_4 (by decide) (fun c_4 => ?_) (fun c_4 => ?_)
  · skip
    refine lv_iload_n hx hb dX0_go_9 rfl (lv_at hl 1 rfl) ?_
    refine lv_iload_n hx hb dX0_go_10 rfl (lv_at hl 2 rfl) ?_
    refine g_ki h (g_runS X h (As := [.int 4, .int 2]) (rest := []) (c_X0_holderOf_42 gl Z v w) ms_X0_holderOf ml_RX0_51 ⟨Nat.le_of_ble_eq_true rfl, Nat.le_of_ble_eq_true rfl⟩ rfl hl.1 rfl (Nat.le_of_ble_eq_true rfl) dX0_go_11) (fun r11 v11 w11 H locs hp11 h => ?_)
    obtain ⟨hr11, hu11⟩ := hp11; obtain ⟨rfl, rfl⟩ := Prod.mk.inj hu11
    refine g_tr (y := 0) hr11 ?_
    refine lv_istore (lv' := [(5, .int 0), (0, .ref (zg Z 110)), (1, .int 4), (2, .int 2), (3, .int x2), (4, .int x3)]) hx hb dX0_go_14 hl (by decide) rfl (fun ls hl => ?_)
    refine g_st_ABOVEN X h dX0_go_16 ?_
    refine lv_iload hx hb dX0_go_19 (lv_at hl 0 rfl) ?_
    refine g_tab0 X h (k := 0) rfl (by decide) dX0_go_21 ?_
    refine g_tr (y := (-1)) rfl ?_
    refine lv_istore (lv' := [(6, .int (-1)), (5, .int 0), (0, .ref (zg Z 110)), (1, .int 4), (2, .int 2), (3, .int x2), (4, .int x3)]) hx hb dX0_go_22 hl (by decide) rfl (fun ls hl => ?_)
    refine g_st_BODY X h dX0_go_24 ?_
    refine lv_iload hx hb dX0_go_27 (lv_at hl 1 rfl) ?_
    refine lv_iconst (v := 3) hx hb dX0_go_29 (by decide) ?_
    refine lv_imul hx hb dX0_go_30 ?_
    refine g_tr (y := 0) (by decide) ?_
    refine lv_iload_n hx hb dX0_go_31 rfl (lv_at hl 4 rfl) ?_
    refine lv_iadd hx hb dX0_go_32 ?_
    refine g_tr (y := 2) (by decide) ?_
    refine g_tab1 X h (k := 2) rfl (by decide) dX0_go_33 ?_
    refine g_tr (y := 12) rfl ?_
    refine lv_istore (lv' := [(7, .int 12), (6, .int (-1)), (5, .int 0), (0, .ref (zg Z 110)), (1, .int 4), (2, .int 2), (3, .int x2), (4, .int x3)]) hx hb dX0_go_34 hl (by decide) rfl (fun ls hl => ?_)
    refine lv_iload hx hb dX0_go_36 (lv_at hl 7 rfl) ?_
    refine lv_iconst (v := 1) hx hb dX0_go_38 (by decide) ?_
    refine lv_iadd hx hb dX0_go_39 ?_
    refine lv_topi (fun x8_40 ex8_40 => ?_)
    refine lv_istore (lv' := [(8, .int x8_40), (7, .int 12), (6, .int (-1)), (5, .int 0), (0, .ref (zg Z 110)), (1, .int 4), (2, .int 2), (3, .int x2), (4, .int x3)]) hx hb dX0_go_40 hl (by decide) rfl (fun ls hl => ?_)
    refine lv_aload_n hx hb dX0_go_42 rfl (lv_at hl 4 rfl) ?_
    refine lv_iload hx hb dX0_go_43 (lv_at hl 1 rfl) ?_
    refine g_kv h (g_runV X h (As := [.int 12]) (rest := []) (c_X0_note gl Z v w 12 t htr (by omega)) mi_X0_note ml_RX0_54 (cc_110) (by decide) kl0 rfl ⟨Nat.le_of_ble_eq_true rfl, Nat.le_of_ble_eq_true rfl⟩ rfl hl.1 rfl (Nat.le_of_ble_eq_true rfl) dX0_go_45) (fun v45 w45 H locs hp45 h => ?_)
    obtain ⟨ev45, rfl⟩ := Prod.mk.inj hp45
    replace ev45 := ev45.symm
    refine lv_iload hx hb dX0_go_48 (lv_at hl 1 rfl) ?_
    refine lv_lookup (off := 123) (tgt := 173) hx hb dX0_go_50 (by decide) (by decide) (by decide) ?_
    refine lv_aload_n hx hb dX0_go_173 rfl (lv_at hl 4 rfl) ?_
    refine lv_aload_n hx hb dX0_go_174 rfl (lv_at hl 4 rfl) ?_
    refine g_geti X h (k := 3) (cc_110) fr_RX0_33 rfl (by decide) dX0_go_175 ?_
    refine g_tr (y := (v 110 3)) (by rw [ev45, ranC_k (by decide)]) ?_
    rcases kind7 hkd ho6 with hk7 | hk7 | hk7 | hk7 | hk7 | hk7 | hk7
    · skip
      obtain rfl : own = 0 := nI_eq1 (b := 0) hkd rfl (by omega) (by omega) hk7
      refine g_tr (y := 0) hk7 ?_
      refine lv_iconst (v := 1) hx hb dX0_go_178 (by decide) ?_
      refine lv_iload_n hx hb dX0_go_179 rfl (lv_at hl 7 rfl) ?_
      refine lv_iload hx hb dX0_go_180 (lv_at hl 0 rfl) ?_
      refine g_ki h (g_runV X h (As := [.int 0, .int 1, .int x2, .int x8_40]) (rest := []) (c_X0_go_01 gl Z v45 w x2 x8_40 (d + 1) (ex8_40.trans (by rw [show (x3) = nI d from hd, show (1) = nI 1 from rfl, nI_add])) 0 (by omega) (t + 1) (by rw [ev45, ranC_k (by decide)]; exact hkd) (by rw [ev45]; exact ranC_1) (by omega) (by omega)) mi_X0_go ml_RX0_41 (cc_110) (by decide) kl0 rfl ⟨Nat.le_of_ble_eq_true rfl, Nat.le_of_ble_eq_true rfl⟩ rfl hl.1 rfl (Nat.le_of_ble_eq_true rfl) dX0_go_182) (fun r182 v182 w182 H locs hp182 h => ?_)
      obtain ⟨hr182, hw182⟩ := hp182
      obtain ⟨ev182, rfl⟩ := Prod.mk.inj hw182
      replace ev182 := ev182.symm
      refine lv_iconst (v := 2) hx hb dX0_go_185 (by decide) ?_
      refine lv_imul hx hb dX0_go_186 ?_
      exact g_iret X h dX0_go_187 ⟨(by rw [hr182, ev45, ranC_k (by decide), ranC_k (by decide)]; rfl), (by rw [ev182, ev45]; rfl)⟩
    · skip
      obtain rfl : own = 1 := nI_eq1 (b := 1) hkd rfl (by omega) (by omega) hk7
      refine g_tr (y := 1) hk7 ?_
      refine lv_iconst (v := 1) hx hb dX0_go_178 (by decide) ?_
      refine lv_iload_n hx hb dX0_go_179 rfl (lv_at hl 7 rfl) ?_
      refine lv_iload hx hb dX0_go_180 (lv_at hl 0 rfl) ?_
      refine g_ki h (g_runV X h (As := [.int 1, .int 1, .int x2, .int x8_40]) (rest := []) (c_X0_go_11 gl Z v45 w x2 x8_40 (d + 1) (ex8_40.trans (by rw [show (x3) = nI d from hd, show (1) = nI 1 from rfl, nI_add])) 1 (by omega) (t + 1) (by rw [ev45, ranC_k (by decide)]; exact hkd) (by rw [ev45]; exact ranC_1) (by omega) (by omega)) mi_X0_go ml_RX0_41 (cc_110) (by decide) kl0 rfl ⟨Nat.le_of_ble_eq_true rfl, Nat.le_of_ble_eq_true rfl⟩ rfl hl.1 rfl (Nat.le_of_ble_eq_true rfl) dX0_go_182) (fun r182 v182 w182 H locs hp182 h => ?_)
      obtain ⟨hr182, hw182⟩ := hp182
      obtain ⟨ev182, rfl⟩ := Prod.mk.inj hw182
      replace ev182 := ev182.symm
      refine lv_iconst (v := 2) hx hb dX0_go_185 (by decide) ?_
      refine lv_imul hx hb dX0_go_186 ?_
      exact g_iret X h dX0_go_187 ⟨(by rw [hr182, ev45, ranC_k (by decide), ranC_k (by decide)]; rfl), (by rw [ev182, ev45]; rfl)⟩
    · skip
      obtain rfl : own = 2 := nI_eq1 (b := 2) hkd rfl (by omega) (by omega) hk7
      refine g_tr (y := 2) hk7 ?_
      refine lv_iconst (v := 1) hx hb dX0_go_178 (by decide) ?_
      refine lv_iload_n hx hb dX0_go_179 rfl (lv_at hl 7 rfl) ?_
      refine lv_iload hx hb dX0_go_180 (lv_at hl 0 rfl) ?_
      refine g_ki h (g_runV X h (As := [.int 2, .int 1, .int x2, .int x8_40]) (rest := []) (c_X0_go_21 gl Z v45 w x2 x8_40 (d + 1) (ex8_40.trans (by rw [show (x3) = nI d from hd, show (1) = nI 1 from rfl, nI_add])) 2 (by omega) (t + 1) (by rw [ev45, ranC_k (by decide)]; exact hkd) (by rw [ev45]; exact ranC_1) (by omega) (by omega)) mi_X0_go ml_RX0_41 (cc_110) (by decide) kl0 rfl ⟨Nat.le_of_ble_eq_true rfl, Nat.le_of_ble_eq_true rfl⟩ rfl hl.1 rfl (Nat.le_of_ble_eq_true rfl) dX0_go_182) (fun r182 v182 w182 H locs hp182 h => ?_)
      obtain ⟨hr182, hw182⟩ := hp182
      obtain ⟨ev182, rfl⟩ := Prod.mk.inj hw182
      replace ev182 := ev182.symm
      refine lv_iconst (v := 2) hx hb dX0_go_185 (by decide) ?_
      refine lv_imul hx hb dX0_go_186 ?_
      exact g_iret X h dX0_go_187 ⟨(by rw [hr182, ev45, ranC_k (by decide), ranC_k (by decide)]; rfl), (by rw [ev182, ev45]; rfl)⟩
    · skip
      obtain rfl : own = 3 := nI_eq1 (b := 3) hkd rfl (by omega) (by omega) hk7
      refine g_tr (y := 3) hk7 ?_
      refine lv_iconst (v := 1) hx hb dX0_go_178 (by decide) ?_
      refine lv_iload_n hx hb dX0_go_179 rfl (lv_at hl 7 rfl) ?_
      refine lv_iload hx hb dX0_go_180 (lv_at hl 0 rfl) ?_
      refine g_ki h (g_runV X h (As := [.int 3, .int 1, .int x2, .int x8_40]) (rest := []) (c_X0_go_31 gl Z v45 w x2 x8_40 (d + 1) (ex8_40.trans (by rw [show (x3) = nI d from hd, show (1) = nI 1 from rfl, nI_add])) 3 (by omega) (t + 1) (by rw [ev45, ranC_k (by decide)]; exact hkd) (by rw [ev45]; exact ranC_1) (by omega) (by omega)) mi_X0_go ml_RX0_41 (cc_110) (by decide) kl0 rfl ⟨Nat.le_of_ble_eq_true rfl, Nat.le_of_ble_eq_true rfl⟩ rfl hl.1 rfl (Nat.le_of_ble_eq_true rfl) dX0_go_182) (fun r182 v182 w182 H locs hp182 h => ?_)
      obtain ⟨hr182, hw182⟩ := hp182
      obtain ⟨ev182, rfl⟩ := Prod.mk.inj hw182
      replace ev182 := ev182.symm
      refine lv_iconst (v := 2) hx hb dX0_go_185 (by decide) ?_
      refine lv_imul hx hb dX0_go_186 ?_
      exact g_iret X h dX0_go_187 ⟨(by rw [hr182, ev45, ranC_k (by decide), ranC_k (by decide)]; rfl), (by rw [ev182, ev45]; rfl)⟩
    · skip
      obtain rfl : own = 4 := nI_eq1 (b := 4) hkd rfl (by omega) (by omega) hk7
      refine g_tr (y := 4) hk7 ?_
      refine lv_iconst (v := 1) hx hb dX0_go_178 (by decide) ?_
      refine lv_iload_n hx hb dX0_go_179 rfl (lv_at hl 7 rfl) ?_
      refine lv_iload hx hb dX0_go_180 (lv_at hl 0 rfl) ?_
      refine g_ki h (g_runV X h (As := [.int 4, .int 1, .int x2, .int x8_40]) (rest := []) (c_X0_go_41 gl Z v45 w x2 x8_40 (d + 1) (ex8_40.trans (by rw [show (x3) = nI d from hd, show (1) = nI 1 from rfl, nI_add])) 4 (by omega) (t + 1) (by rw [ev45, ranC_k (by decide)]; exact hkd) (by rw [ev45]; exact ranC_1) (by omega) (by omega)) mi_X0_go ml_RX0_41 (cc_110) (by decide) kl0 rfl ⟨Nat.le_of_ble_eq_true rfl, Nat.le_of_ble_eq_true rfl⟩ rfl hl.1 rfl (Nat.le_of_ble_eq_true rfl) dX0_go_182) (fun r182 v182 w182 H locs hp182 h => ?_)
      obtain ⟨hr182, hw182⟩ := hp182
      obtain ⟨ev182, rfl⟩ := Prod.mk.inj hw182
      replace ev182 := ev182.symm
      refine lv_iconst (v := 2) hx hb dX0_go_185 (by decide) ?_
      refine lv_imul hx hb dX0_go_186 ?_
      exact g_iret X h dX0_go_187 ⟨(by rw [hr182, ev45, ranC_k (by decide), ranC_k (by decide)]; rfl), (by rw [ev182, ev45]; rfl)⟩
    · skip
      obtain rfl : own = 5 := nI_eq1 (b := 5) hkd rfl (by omega) (by omega) hk7
      refine g_tr (y := 5) hk7 ?_
      refine lv_iconst (v := 1) hx hb dX0_go_178 (by decide) ?_
      refine lv_iload_n hx hb dX0_go_179 rfl (lv_at hl 7 rfl) ?_
      refine lv_iload hx hb dX0_go_180 (lv_at hl 0 rfl) ?_
      refine g_ki h (g_runV X h (As := [.int 5, .int 1, .int x2, .int x8_40]) (rest := []) (c_X0_go_51 gl Z v45 w x2 x8_40 (d + 1) (ex8_40.trans (by rw [show (x3) = nI d from hd, show (1) = nI 1 from rfl, nI_add])) 5 (by omega) (t + 1) (by rw [ev45, ranC_k (by decide)]; exact hkd) (by rw [ev45]; exact ranC_1) (by omega) (by omega)) mi_X0_go ml_RX0_41 (cc_110) (by decide) kl0 rfl ⟨Nat.le_of_ble_eq_true rfl, Nat.le_of_ble_eq_true rfl⟩ rfl hl.1 rfl (Nat.le_of_ble_eq_true rfl) dX0_go_182) (fun r182 v182 w182 H locs hp182 h => ?_)
      obtain ⟨hr182, hw182⟩ := hp182
      obtain ⟨ev182, rfl⟩ := Prod.mk.inj hw182
      replace ev182 := ev182.symm
      refine lv_iconst (v := 2) hx hb dX0_go_185 (by decide) ?_
      refine lv_imul hx hb dX0_go_186 ?_
      exact g_iret X h dX0_go_187 ⟨(by rw [hr182, ev45, ranC_k (by decide), ranC_k (by decide)]; rfl), (by rw [ev182, ev45]; rfl)⟩
    · skip
      obtain rfl : own = 6 := nI_eq1 (b := 6) hkd rfl (by omega) (by omega) hk7
      refine g_tr (y := 6) hk7 ?_
      refine lv_iconst (v := 1) hx hb dX0_go_178 (by decide) ?_
      refine lv_iload_n hx hb dX0_go_179 rfl (lv_at hl 7 rfl) ?_
      refine lv_iload hx hb dX0_go_180 (lv_at hl 0 rfl) ?_
      refine g_ki h (g_runV X h (As := [.int 6, .int 1, .int x2, .int x8_40]) (rest := []) (c_X0_go_61 gl Z v45 w x2 x8_40 (d + 1) (ex8_40.trans (by rw [show (x3) = nI d from hd, show (1) = nI 1 from rfl, nI_add])) 6 (by omega) (t + 1) (by rw [ev45, ranC_k (by decide)]; exact hkd) (by rw [ev45]; exact ranC_1) (by omega) (by omega)) mi_X0_go ml_RX0_41 (cc_110) (by decide) kl0 rfl ⟨Nat.le_of_ble_eq_true rfl, Nat.le_of_ble_eq_true rfl⟩ rfl hl.1 rfl (Nat.le_of_ble_eq_true rfl) dX0_go_182) (fun r182 v182 w182 H locs hp182 h => ?_)
      obtain ⟨hr182, hw182⟩ := hp182
      obtain ⟨ev182, rfl⟩ := Prod.mk.inj hw182
      replace ev182 := ev182.symm
      refine lv_iconst (v := 2) hx hb dX0_go_185 (by decide) ?_
      refine lv_imul hx hb dX0_go_186 ?_
      exact g_iret X h dX0_go_187 ⟨(by rw [hr182, ev45, ranC_k (by decide), ranC_k (by decide)]; rfl), (by rw [ev182, ev45]; rfl)⟩
  · exact absurd (nI_le (b := 40) (show d ≤ 40 by omega) (by omega)) (by rw [hd] at c_4; exact c_4)

set_option maxRecDepth 100000 in
set_option maxHeartbeats 1000000 in
theorem c_X0_go_32 (gl : Launch) (Z : PL) (v : VV) (w : WV) (x2 : Int32) (x3 : Int32) (d : Nat) (hd : x3 = nI d) (own : Nat) (ho6 : own ≤ 6) (t : Nat) (hkd : v 110 3 = nI own) (htr : v 110 1 = nI t) (hdm : d ≤ 24) (ht9 : t < 800) : CT gl yX0_go cX0_go 9 (some .int) 7 191 Z [.ref (zg Z 110), .int 3, .int 2, .int x2, .int x3] v w (Qi Z (fun r u => r = tlV own 3 (v 110 2) (v 110 4) x2 ∧ (ranCL v t (tlL own 3), w) = u)) := by
  refine g_met (by decide) (Nat.le_of_ble_eq_true rfl) ?_
  intro gp ge gs gm ga gb gh gc X h ls hl
  have hx := X.1
  have hb := X.2.1
  have hl : lv_has ls 9 [(0, .ref (zg Z 110)), (1, .int 3), (2, .int 2), (3, .int x2), (4, .int x3)] := hl
  refine lv_iload hx hb dX0_go_0 (lv_at hl 4 rfl) ?_
  refine lv_bipush (v := 40) hx hb dX0_go_2 (by decide) ?_
  refine lv_icmp_le (tgt := 9) hx hb dX0_go_4 (by decide) (fun c_4 => ?_) (fun c_4 => ?_)
  · skip
    refine lv_iload_n hx hb dX0_go_9 rfl (lv_at hl 1 rfl) ?_
    refine lv_iload_n hx hb dX0_go_10 rfl (lv_at hl 2 rfl) ?_
    refine g_ki h (g_runS X h (As := [.int 3, .int 2]) (rest := []) (c_X0_holderOf_32 gl Z v w) ms_X0_holderOf ml_RX0_51 ⟨Nat.le_of_ble_eq_true rfl, Nat.le_of_ble_eq_true rfl⟩ rfl hl.1 rfl (Nat.le_of_ble_eq_true rfl) dX0_go_11) (fun r11 v11 w11 H locs hp11 h => ?_)
    obtain ⟨hr11, hu11⟩ := hp11; obtain ⟨rfl, rfl⟩ := Prod.mk.inj hu11
    refine g_tr (y := 3) hr11 ?_
    refine lv_istore (lv' := [(5, .int 3), (0, .ref (zg Z 110)), (1, .int 3), (2, .int 2), (3, .int x2), (4, .int x3)]) hx hb dX0_go_14 hl (by decide) rfl (fun ls hl => ?_)
    refine g_st_ABOVEN X h dX0_go_16 ?_
    refine lv_iload hx hb dX0_go_19 (lv_at hl 0 rfl) ?_
    refine g_tab0 X h (k := 3) rfl (by decide) dX0_go_21 ?_
    refine g_tr (y := 0) rfl ?_
    refine lv_istore (lv' := [(6, .int 0), (5, .int 3), (0, .ref (zg Z 110)), (1, .int 3), (2, .int 2), (3, .int x2), (4, .int x3)]) hx hb dX0_go_22 hl (by decide) rfl (fun ls hl => ?_)
    refine g_st_BODY X h dX0_go_24 ?_
    refine lv_iload hx hb dX0_go_27 (lv_at hl 1 rfl) ?_
    refine lv_iconst (v := 3) hx hb dX0_go_29 (by decide) ?_
    refine lv_imul hx hb dX0_go_30 ?_
    refine g_tr (y := 9) (by decide) ?_
    refine lv_iload_n hx hb dX0_go_31 rfl (lv_at hl 4 rfl) ?_
    refine lv_iadd hx hb dX0_go_32 ?_
    refine g_tr (y := 11) (by decide) ?_
    refine g_tab1 X h (k := 11) rfl (by decide) dX0_go_33 ?_
    refine g_tr (y := 40) rfl ?_
    refine lv_istore (lv' := [(7, .int 40), (6, .int 0), (5, .int 3), (0, .ref (zg Z 110)), (1, .int 3), (2, .int 2), (3, .int x2), (4, .int x3)]) hx hb dX0_go_34 hl (by decide) rfl (fun ls hl => ?_)
    refine lv_iload hx hb dX0_go_36 (lv_at hl 7 rfl) ?_
    refine lv_iconst (v := 1) hx hb dX0_go_38 (by decide) ?_
    refine lv_iadd hx hb dX0_go_39 ?_
    refine lv_topi (fun x8_40 ex8_40 => ?_)
    refine lv_istore (lv' := [(8, .int x8_40), (7, .int 40), (6, .int 0), (5, .int 3), (0, .ref (zg Z 110)), (1, .int 3), (2, .int 2), (3, .int x2), (4, .int x3)]) hx hb dX0_go_40 hl (by decide) rfl (fun ls hl => ?_)
    refine lv_aload_n hx hb dX0_go_42 rfl (lv_at hl 4 rfl) ?_
    refine lv_iload hx hb dX0_go_43 (lv_at hl 1 rfl) ?_
    refine g_kv h (g_runV X h (As := [.int 40]) (rest := []) (c_X0_note gl Z v w 40 t htr (by omega)) mi_X0_note ml_RX0_54 (cc_110) (by decide) kl0 rfl ⟨Nat.le_of_ble_eq_true rfl, Nat.le_of_ble_eq_true rfl⟩ rfl hl.1 rfl (Nat.le_of_ble_eq_true rfl) dX0_go_45) (fun v45 w45 H locs hp45 h => ?_)
    obtain ⟨ev45, rfl⟩ := Prod.mk.inj hp45
    replace ev45 := ev45.symm
    refine lv_iload hx hb dX0_go_48 (lv_at hl 1 rfl) ?_
    refine lv_lookup (off := 165) (tgt := 215) hx hb dX0_go_50 (by decide) (by decide) (by decide) ?_
    refine lv_aload_n hx hb dX0_go_215 rfl (lv_at hl 4 rfl) ?_
    refine lv_iload hx hb dX0_go_216 (lv_at hl 2 rfl) ?_
    refine lv_iconst (v := 2) hx hb dX0_go_218 (by decide) ?_
    refine lv_iload_n hx hb dX0_go_219 rfl (lv_at hl 7 rfl) ?_
    refine lv_iload hx hb dX0_go_220 (lv_at hl 0 rfl) ?_
    refine g_ki h (g_runV X h (As := [.int 0, .int 2, .int x2, .int x8_40]) (rest := []) (c_X0_go_02 gl Z v45 w x2 x8_40 (d + 1) (ex8_40.trans (by rw [show (x3) = nI d from hd, show (1) = nI 1 from rfl, nI_add])) own ho6 (t + 1) (by rw [ev45, ranC_k (by decide)]; exact hkd) (by rw [ev45]; exact ranC_1) (by omega) (by omega)) mi_X0_go ml_RX0_41 (cc_110) (by decide) kl0 rfl ⟨Nat.le_of_ble_eq_true rfl, Nat.le_of_ble_eq_true rfl⟩ rfl hl.1 rfl (Nat.le_of_ble_eq_true rfl) dX0_go_222) (fun r222 v222 w222 H locs hp222 h => ?_)
    obtain ⟨hr222, hw222⟩ := hp222
    obtain ⟨ev222, rfl⟩ := Prod.mk.inj hw222
    replace ev222 := ev222.symm
    refine lv_aload_n hx hb dX0_go_225 rfl (lv_at hl 4 rfl) ?_
    refine lv_aload_n hx hb dX0_go_226 rfl (lv_at hl 4 rfl) ?_
    refine g_geti X h (k := 3) (cc_110) fr_RX0_33 rfl (by decide) dX0_go_227 ?_
    refine g_tr (y := (v 110 3)) (by rw [ev222, ranCL_k (by decide), ev45, ranC_k (by decide)]) ?_
    rcases kind7 hkd ho6 with hk7 | hk7 | hk7 | hk7 | hk7 | hk7 | hk7
    · skip
      obtain rfl : own = 0 := nI_eq1 (b := 0) hkd rfl (by omega) (by omega) hk7
      refine g_tr (y := 0) hk7 ?_
      refine lv_iconst (v := 1) hx hb dX0_go_230 (by decide) ?_
      refine lv_iconst (v := 1) hx hb dX0_go_231 (by decide) ?_
      refine lv_iload hx hb dX0_go_232 (lv_at hl 0 rfl) ?_
      refine g_ki h (g_runV X h (As := [.int 0, .int 1, .int 1, .int x8_40]) (rest := [.int r222]) (c_X0_go_01 gl Z v222 w 1 x8_40 (d + 1) (ex8_40.trans (by rw [show (x3) = nI d from hd, show (1) = nI 1 from rfl, nI_add])) 0 (by omega) (t + 1 + (tlL 0 0).length) (by rw [ev222, ranCL_k (by decide), ev45, ranC_k (by decide)]; exact hkd) (by rw [ev222]; exact ranCL_1 _ _ _ (by rw [ev45]; exact ranC_1)) (by omega) (by have := tlL_0 0 (by omega); omega)) mi_X0_go ml_RX0_41 (cc_110) (by decide) kl0 rfl ⟨Nat.le_of_ble_eq_true rfl, Nat.le_of_ble_eq_true rfl⟩ rfl hl.1 rfl (Nat.le_of_ble_eq_true rfl) dX0_go_234) (fun r234 v234 w234 H locs hp234 h => ?_)
      obtain ⟨hr234, hw234⟩ := hp234
      obtain ⟨ev234, rfl⟩ := Prod.mk.inj hw234
      replace ev234 := ev234.symm
      refine lv_iadd hx hb dX0_go_237 ?_
      exact g_iret X h dX0_go_238 ⟨(by rw [hr234, hr222, ev222, ranCL_k (by decide), ranCL_k (by decide), ev45, ranC_k (by decide), ranC_k (by decide)]; rfl), (by rw [ev234, ev222, ev45, ranCL_app]; rfl)⟩
    · skip
      obtain rfl : own = 1 := nI_eq1 (b := 1) hkd rfl (by omega) (by omega) hk7
      refine g_tr (y := 1) hk7 ?_
      refine lv_iconst (v := 1) hx hb dX0_go_230 (by decide) ?_
      refine lv_iconst (v := 1) hx hb dX0_go_231 (by decide) ?_
      refine lv_iload hx hb dX0_go_232 (lv_at hl 0 rfl) ?_
      refine g_ki h (g_runV X h (As := [.int 1, .int 1, .int 1, .int x8_40]) (rest := [.int r222]) (c_X0_go_11 gl Z v222 w 1 x8_40 (d + 1) (ex8_40.trans (by rw [show (x3) = nI d from hd, show (1) = nI 1 from rfl, nI_add])) 1 (by omega) (t + 1 + (tlL 1 0).length) (by rw [ev222, ranCL_k (by decide), ev45, ranC_k (by decide)]; exact hkd) (by rw [ev222]; exact ranCL_1 _ _ _ (by rw [ev45]; exact ranC_1)) (by omega) (by have := tlL_0 1 (by omega); omega)) mi_X0_go ml_RX0_41 (cc_110) (by decide) kl0 rfl ⟨Nat.le_of_ble_eq_true rfl, Nat.le_of_ble_eq_true rfl⟩ rfl hl.1 rfl (Nat.le_of_ble_eq_true rfl) dX0_go_234) (fun r234 v234 w234 H locs hp234 h => ?_)
      obtain ⟨hr234, hw234⟩ := hp234
      obtain ⟨ev234, rfl⟩ := Prod.mk.inj hw234
      replace ev234 := ev234.symm
      refine lv_iadd hx hb dX0_go_237 ?_
      exact g_iret X h dX0_go_238 ⟨(by rw [hr234, hr222, ev222, ranCL_k (by decide), ranCL_k (by decide), ev45, ranC_k (by decide), ranC_k (by decide)]; rfl), (by rw [ev234, ev222, ev45, ranCL_app]; rfl)⟩
    · skip
      obtain rfl : own = 2 := nI_eq1 (b := 2) hkd rfl (by omega) (by omega) hk7
      refine g_tr (y := 2) hk7 ?_
      refine lv_iconst (v := 1) hx hb dX0_go_230 (by decide) ?_
      refine lv_iconst (v := 1) hx hb dX0_go_231 (by decide) ?_
      refine lv_iload hx hb dX0_go_232 (lv_at hl 0 rfl) ?_
      refine g_ki h (g_runV X h (As := [.int 2, .int 1, .int 1, .int x8_40]) (rest := [.int r222]) (c_X0_go_21 gl Z v222 w 1 x8_40 (d + 1) (ex8_40.trans (by rw [show (x3) = nI d from hd, show (1) = nI 1 from rfl, nI_add])) 2 (by omega) (t + 1 + (tlL 2 0).length) (by rw [ev222, ranCL_k (by decide), ev45, ranC_k (by decide)]; exact hkd) (by rw [ev222]; exact ranCL_1 _ _ _ (by rw [ev45]; exact ranC_1)) (by omega) (by have := tlL_0 2 (by omega); omega)) mi_X0_go ml_RX0_41 (cc_110) (by decide) kl0 rfl ⟨Nat.le_of_ble_eq_true rfl, Nat.le_of_ble_eq_true rfl⟩ rfl hl.1 rfl (Nat.le_of_ble_eq_true rfl) dX0_go_234) (fun r234 v234 w234 H locs hp234 h => ?_)
      obtain ⟨hr234, hw234⟩ := hp234
      obtain ⟨ev234, rfl⟩ := Prod.mk.inj hw234
      replace ev234 := ev234.symm
      refine lv_iadd hx hb dX0_go_237 ?_
      exact g_iret X h dX0_go_238 ⟨(by rw [hr234, hr222, ev222, ranCL_k (by decide), ranCL_k (by decide), ev45, ranC_k (by decide), ranC_k (by decide)]; rfl), (by rw [ev234, ev222, ev45, ranCL_app]; rfl)⟩
    · skip
      obtain rfl : own = 3 := nI_eq1 (b := 3) hkd rfl (by omega) (by omega) hk7
      refine g_tr (y := 3) hk7 ?_
      refine lv_iconst (v := 1) hx hb dX0_go_230 (by decide) ?_
      refine lv_iconst (v := 1) hx hb dX0_go_231 (by decide) ?_
      refine lv_iload hx hb dX0_go_232 (lv_at hl 0 rfl) ?_
      refine g_ki h (g_runV X h (As := [.int 3, .int 1, .int 1, .int x8_40]) (rest := [.int r222]) (c_X0_go_31 gl Z v222 w 1 x8_40 (d + 1) (ex8_40.trans (by rw [show (x3) = nI d from hd, show (1) = nI 1 from rfl, nI_add])) 3 (by omega) (t + 1 + (tlL 3 0).length) (by rw [ev222, ranCL_k (by decide), ev45, ranC_k (by decide)]; exact hkd) (by rw [ev222]; exact ranCL_1 _ _ _ (by rw [ev45]; exact ranC_1)) (by omega) (by have := tlL_0 3 (by omega); omega)) mi_X0_go ml_RX0_41 (cc_110) (by decide) kl0 rfl ⟨Nat.le_of_ble_eq_true rfl, Nat.le_of_ble_eq_true rfl⟩ rfl hl.1 rfl (Nat.le_of_ble_eq_true rfl) dX0_go_234) (fun r234 v234 w234 H locs hp234 h => ?_)
      obtain ⟨hr234, hw234⟩ := hp234
      obtain ⟨ev234, rfl⟩ := Prod.mk.inj hw234
      replace ev234 := ev234.symm
      refine lv_iadd hx hb dX0_go_237 ?_
      exact g_iret X h dX0_go_238 ⟨(by rw [hr234, hr222, ev222, ranCL_k (by decide), ranCL_k (by decide), ev45, ranC_k (by decide), ranC_k (by decide)]; rfl), (by rw [ev234, ev222, ev45, ranCL_app]; rfl)⟩
    · skip
      obtain rfl : own = 4 := nI_eq1 (b := 4) hkd rfl (by omega) (by omega) hk7
      refine g_tr (y := 4) hk7 ?_
      refine lv_iconst (v := 1) hx hb dX0_go_230 (by decide) ?_
      refine lv_iconst (v := 1) hx hb dX0_go_231 (by decide) ?_
      refine lv_iload hx hb dX0_go_232 (lv_at hl 0 rfl) ?_
      refine g_ki h (g_runV X h (As := [.int 4, .int 1, .int 1, .int x8_40]) (rest := [.int r222]) (c_X0_go_41 gl Z v222 w 1 x8_40 (d + 1) (ex8_40.trans (by rw [show (x3) = nI d from hd, show (1) = nI 1 from rfl, nI_add])) 4 (by omega) (t + 1 + (tlL 4 0).length) (by rw [ev222, ranCL_k (by decide), ev45, ranC_k (by decide)]; exact hkd) (by rw [ev222]; exact ranCL_1 _ _ _ (by rw [ev45]; exact ranC_1)) (by omega) (by have := tlL_0 4 (by omega); omega)) mi_X0_go ml_RX0_41 (cc_110) (by decide) kl0 rfl ⟨Nat.le_of_ble_eq_true rfl, Nat.le_of_ble_eq_true rfl⟩ rfl hl.1 rfl (Nat.le_of_ble_eq_true rfl) dX0_go_234) (fun r234 v234 w234 H locs hp234 h => ?_)
      obtain ⟨hr234, hw234⟩ := hp234
      obtain ⟨ev234, rfl⟩ := Prod.mk.inj hw234
      replace ev234 := ev234.symm
      refine lv_iadd hx hb dX0_go_237 ?_
      exact g_iret X h dX0_go_238 ⟨(by rw [hr234, hr222, ev222, ranCL_k (by decide), ranCL_k (by decide), ev45, ranC_k (by decide), ranC_k (by decide)]; rfl), (by rw [ev234, ev222, ev45, ranCL_app]; rfl)⟩
    · skip
      obtain rfl : own = 5 := nI_eq1 (b := 5) hkd rfl (by omega) (by omega) hk7
      refine g_tr (y := 5) hk7 ?_
      refine lv_iconst (v := 1) hx hb dX0_go_230 (by decide) ?_
      refine lv_iconst (v := 1) hx hb dX0_go_231 (by decide) ?_
      refine lv_iload hx hb dX0_go_232 (lv_at hl 0 rfl) ?_
      refine g_ki h (g_runV X h (As := [.int 5, .int 1, .int 1, .int x8_40]) (rest := [.int r222]) (c_X0_go_51 gl Z v222 w 1 x8_40 (d + 1) (ex8_40.trans (by rw [show (x3) = nI d from hd, show (1) = nI 1 from rfl, nI_add])) 5 (by omega) (t + 1 + (tlL 5 0).length) (by rw [ev222, ranCL_k (by decide), ev45, ranC_k (by decide)]; exact hkd) (by rw [ev222]; exact ranCL_1 _ _ _ (by rw [ev45]; exact ranC_1)) (by omega) (by have := tlL_0 5 (by omega); omega)) mi_X0_go ml_RX0_41 (cc_110) (by decide) kl0 rfl ⟨Nat.le_of_ble_eq_true rfl, Nat.le_of_ble_eq_true rfl⟩ rfl hl.1 rfl (Nat.le_of_ble_eq_true rfl) dX0_go_234) (fun r234 v234 w234 H locs hp234 h => ?_)
      obtain ⟨hr234, hw234⟩ := hp234
      obtain ⟨ev234, rfl⟩ := Prod.mk.inj hw234
      replace ev234 := ev234.symm
      refine lv_iadd hx hb dX0_go_237 ?_
      exact g_iret X h dX0_go_238 ⟨(by rw [hr234, hr222, ev222, ranCL_k (by decide), ranCL_k (by decide), ev45, ranC_k (by decide), ranC_k (by decide)]; rfl), (by rw [ev234, ev222, ev45, ranCL_app]; rfl)⟩
    · skip
      obtain rfl : own = 6 := nI_eq1 (b := 6) hkd rfl (by omega) (by omega) hk7
      refine g_tr (y := 6) hk7 ?_
      refine lv_iconst (v := 1) hx hb dX0_go_230 (by decide) ?_
      refine lv_iconst (v := 1) hx hb dX0_go_231 (by decide) ?_
      refine lv_iload hx hb dX0_go_232 (lv_at hl 0 rfl) ?_
      refine g_ki h (g_runV X h (As := [.int 6, .int 1, .int 1, .int x8_40]) (rest := [.int r222]) (c_X0_go_61 gl Z v222 w 1 x8_40 (d + 1) (ex8_40.trans (by rw [show (x3) = nI d from hd, show (1) = nI 1 from rfl, nI_add])) 6 (by omega) (t + 1 + (tlL 6 0).length) (by rw [ev222, ranCL_k (by decide), ev45, ranC_k (by decide)]; exact hkd) (by rw [ev222]; exact ranCL_1 _ _ _ (by rw [ev45]; exact ranC_1)) (by omega) (by have := tlL_0 6 (by omega); omega)) mi_X0_go ml_RX0_41 (cc_110) (by decide) kl0 rfl ⟨Nat.le_of_ble_eq_true rfl, Nat.le_of_ble_eq_true rfl⟩ rfl hl.1 rfl (Nat.le_of_ble_eq_true rfl) dX0_go_234) (fun r234 v234 w234 H locs hp234 h => ?_)
      obtain ⟨hr234, hw234⟩ := hp234
      obtain ⟨ev234, rfl⟩ := Prod.mk.inj hw234
      replace ev234 := ev234.symm
      refine lv_iadd hx hb dX0_go_237 ?_
      exact g_iret X h dX0_go_238 ⟨(by rw [hr234, hr222, ev222, ranCL_k (by decide), ranCL_k (by decide), ev45, ranC_k (by decide), ranC_k (by decide)]; rfl), (by rw [ev234, ev222, ev45, ranCL_app]; rfl)⟩
  · exact absurd (nI_le (b := 40) (show d ≤ 40 by omega) (by omega)) (by rw [hd] at c_4; exact c_4)

set_option maxRecDepth 100000 in
set_option maxHeartbeats 1000000 in
theorem c_X0_go_52 (gl : Launch) (Z : PL) (v : VV) (w : WV) (x2 : Int32) (x3 : Int32) (d : Nat) (hd : x3 = nI d) (own : Nat) (ho6 : own ≤ 6) (t : Nat) (hkd : v 110 3 = nI own) (htr : v 110 1 = nI t) (hdm : d ≤ 23) (ht9 : t < 790) : CT gl yX0_go cX0_go 9 (some .int) 7 191 Z [.ref (zg Z 110), .int 5, .int 2, .int x2, .int x3] v w (Qi Z (fun r u => r = tlV own 5 (v 110 2) (v 110 4) x2 ∧ (ranCL v t (tlL own 5), w) = u)) := by
  refine g_met (by decide) (Nat.le_of_ble_eq_true rfl) ?_
  intro gp ge gs gm ga gb gh gc X h ls hl
  have hx := X.1
  have hb := X.2.1
  have hl : lv_has ls 9 [(0, .ref (zg Z 110)), (1, .int 5), (2, .int 2), (3, .int x2), (4, .int x3)] := hl
  refine lv_iload hx hb dX0_go_0 (lv_at hl 4 rfl) ?_
  refine lv_bipush (v := 40) hx hb dX0_go_2 (by decide) ?_
  refine lv_icmp_le (tgt := 9) hx hb dX0_go_4 (by decide) (fun c_4 => ?_) (fun c_4 => ?_)
  · skip
    refine lv_iload_n hx hb dX0_go_9 rfl (lv_at hl 1 rfl) ?_
    refine lv_iload_n hx hb dX0_go_10 rfl (lv_at hl 2 rfl) ?_
    refine g_ki h (g_runS X h (As := [.int 5, .int 2]) (rest := []) (c_X0_holderOf_52 gl Z v w) ms_X0_holderOf ml_RX0_51 ⟨Nat.le_of_ble_eq_true rfl, Nat.le_of_ble_eq_true rfl⟩ rfl hl.1 rfl (Nat.le_of_ble_eq_true rfl) dX0_go_11) (fun r11 v11 w11 H locs hp11 h => ?_)
    obtain ⟨hr11, hu11⟩ := hp11; obtain ⟨rfl, rfl⟩ := Prod.mk.inj hu11
    refine g_tr (y := 5) hr11 ?_
    refine lv_istore (lv' := [(5, .int 5), (0, .ref (zg Z 110)), (1, .int 5), (2, .int 2), (3, .int x2), (4, .int x3)]) hx hb dX0_go_14 hl (by decide) rfl (fun ls hl => ?_)
    refine g_st_ABOVEN X h dX0_go_16 ?_
    refine lv_iload hx hb dX0_go_19 (lv_at hl 0 rfl) ?_
    refine g_tab0 X h (k := 5) rfl (by decide) dX0_go_21 ?_
    refine g_tr (y := 2) rfl ?_
    refine lv_istore (lv' := [(6, .int 2), (5, .int 5), (0, .ref (zg Z 110)), (1, .int 5), (2, .int 2), (3, .int x2), (4, .int x3)]) hx hb dX0_go_22 hl (by decide) rfl (fun ls hl => ?_)
    refine g_st_BODY X h dX0_go_24 ?_
    refine lv_iload hx hb dX0_go_27 (lv_at hl 1 rfl) ?_
    refine lv_iconst (v := 3) hx hb dX0_go_29 (by decide) ?_
    refine lv_imul hx hb dX0_go_30 ?_
    refine g_tr (y := 15) (by decide) ?_
    refine lv_iload_n hx hb dX0_go_31 rfl (lv_at hl 4 rfl) ?_
    refine lv_iadd hx hb dX0_go_32 ?_
    refine g_tr (y := 17) (by decide) ?_
    refine g_tab1 X h (k := 17) rfl (by decide) dX0_go_33 ?_
    refine g_tr (y := 60) rfl ?_
    refine lv_istore (lv' := [(7, .int 60), (6, .int 2), (5, .int 5), (0, .ref (zg Z 110)), (1, .int 5), (2, .int 2), (3, .int x2), (4, .int x3)]) hx hb dX0_go_34 hl (by decide) rfl (fun ls hl => ?_)
    refine lv_iload hx hb dX0_go_36 (lv_at hl 7 rfl) ?_
    refine lv_iconst (v := 1) hx hb dX0_go_38 (by decide) ?_
    refine lv_iadd hx hb dX0_go_39 ?_
    refine lv_topi (fun x8_40 ex8_40 => ?_)
    refine lv_istore (lv' := [(8, .int x8_40), (7, .int 60), (6, .int 2), (5, .int 5), (0, .ref (zg Z 110)), (1, .int 5), (2, .int 2), (3, .int x2), (4, .int x3)]) hx hb dX0_go_40 hl (by decide) rfl (fun ls hl => ?_)
    refine lv_aload_n hx hb dX0_go_42 rfl (lv_at hl 4 rfl) ?_
    refine lv_iload hx hb dX0_go_43 (lv_at hl 1 rfl) ?_
    refine g_kv h (g_runV X h (As := [.int 60]) (rest := []) (c_X0_note gl Z v w 60 t htr (by omega)) mi_X0_note ml_RX0_54 (cc_110) (by decide) kl0 rfl ⟨Nat.le_of_ble_eq_true rfl, Nat.le_of_ble_eq_true rfl⟩ rfl hl.1 rfl (Nat.le_of_ble_eq_true rfl) dX0_go_45) (fun v45 w45 H locs hp45 h => ?_)
    obtain ⟨ev45, rfl⟩ := Prod.mk.inj hp45
    replace ev45 := ev45.symm
    refine lv_iload hx hb dX0_go_48 (lv_at hl 1 rfl) ?_
    refine lv_lookup (off := 214) (tgt := 264) hx hb dX0_go_50 (by decide) (by decide) (by decide) ?_
    refine lv_aload_n hx hb dX0_go_264 rfl (lv_at hl 4 rfl) ?_
    refine lv_iload hx hb dX0_go_265 (lv_at hl 2 rfl) ?_
    refine lv_iconst (v := 2) hx hb dX0_go_267 (by decide) ?_
    refine lv_iload_n hx hb dX0_go_268 rfl (lv_at hl 7 rfl) ?_
    refine lv_aload_n hx hb dX0_go_269 rfl (lv_at hl 4 rfl) ?_
    refine g_geti X h (k := 2) (cc_110) fr_RX0_25 rfl (by decide) dX0_go_270 ?_
    refine g_tr (y := (v 110 2)) (by rw [ev45, ranC_k (by decide)]) ?_
    refine lv_isub hx hb dX0_go_273 ?_
    refine lv_iload hx hb dX0_go_274 (lv_at hl 0 rfl) ?_
    refine g_ki h (g_runV X h (As := [.int 2, .int 2, .int (x2 - (v 110 2)), .int x8_40]) (rest := []) (c_X0_go_22 gl Z v45 w (x2 - (v 110 2)) x8_40 (d + 1) (ex8_40.trans (by rw [show (x3) = nI d from hd, show (1) = nI 1 from rfl, nI_add])) own ho6 (t + 1) (by rw [ev45, ranC_k (by decide)]; exact hkd) (by rw [ev45]; exact ranC_1) (by omega) (by omega)) mi_X0_go ml_RX0_41 (cc_110) (by decide) kl0 rfl ⟨Nat.le_of_ble_eq_true rfl, Nat.le_of_ble_eq_true rfl⟩ rfl hl.1 rfl (Nat.le_of_ble_eq_true rfl) dX0_go_276) (fun r276 v276 w276 H locs hp276 h => ?_)
    obtain ⟨hr276, hw276⟩ := hp276
    obtain ⟨ev276, rfl⟩ := Prod.mk.inj hw276
    replace ev276 := ev276.symm
    exact g_iret X h dX0_go_279 ⟨(by rw [hr276, ev45, ranC_k (by decide), ranC_k (by decide)]; rfl), (by rw [ev276, ev45]; rfl)⟩
  · exact absurd (nI_le (b := 40) (show d ≤ 40 by omega) (by omega)) (by rw [hd] at c_4; exact c_4)

set_option maxRecDepth 100000 in
set_option maxHeartbeats 1000000 in
theorem c_X0_go_62 (gl : Launch) (Z : PL) (v : VV) (w : WV) (x2 : Int32) (x3 : Int32) (d : Nat) (hd : x3 = nI d) (own : Nat) (ho6 : own ≤ 6) (t : Nat) (hkd : v 110 3 = nI own) (htr : v 110 1 = nI t) (hdm : d ≤ 24) (ht9 : t < 800) : CT gl yX0_go cX0_go 9 (some .int) 7 191 Z [.ref (zg Z 110), .int 6, .int 2, .int x2, .int x3] v w (Qi Z (fun r u => r = tlV own 6 (v 110 2) (v 110 4) x2 ∧ (ranCL v t (tlL own 6), w) = u)) := by
  refine g_met (by decide) (Nat.le_of_ble_eq_true rfl) ?_
  intro gp ge gs gm ga gb gh gc X h ls hl
  have hx := X.1
  have hb := X.2.1
  have hl : lv_has ls 9 [(0, .ref (zg Z 110)), (1, .int 6), (2, .int 2), (3, .int x2), (4, .int x3)] := hl
  refine lv_iload hx hb dX0_go_0 (lv_at hl 4 rfl) ?_
  refine lv_bipush (v := 40) hx hb dX0_go_2 (by decide) ?_
  refine lv_icmp_le (tgt := 9) hx hb dX0_go_4 (by decide) (fun c_4 => ?_) (fun c_4 => ?_)
  · skip
    refine lv_iload_n hx hb dX0_go_9 rfl (lv_at hl 1 rfl) ?_
    refine lv_iload_n hx hb dX0_go_10 rfl (lv_at hl 2 rfl) ?_
    refine g_ki h (g_runS X h (As := [.int 6, .int 2]) (rest := []) (c_X0_holderOf_62 gl Z v w) ms_X0_holderOf ml_RX0_51 ⟨Nat.le_of_ble_eq_true rfl, Nat.le_of_ble_eq_true rfl⟩ rfl hl.1 rfl (Nat.le_of_ble_eq_true rfl) dX0_go_11) (fun r11 v11 w11 H locs hp11 h => ?_)
    obtain ⟨hr11, hu11⟩ := hp11; obtain ⟨rfl, rfl⟩ := Prod.mk.inj hu11
    refine g_tr (y := 3) hr11 ?_
    refine lv_istore (lv' := [(5, .int 3), (0, .ref (zg Z 110)), (1, .int 6), (2, .int 2), (3, .int x2), (4, .int x3)]) hx hb dX0_go_14 hl (by decide) rfl (fun ls hl => ?_)
    refine g_st_ABOVEN X h dX0_go_16 ?_
    refine lv_iload hx hb dX0_go_19 (lv_at hl 0 rfl) ?_
    refine g_tab0 X h (k := 3) rfl (by decide) dX0_go_21 ?_
    refine g_tr (y := 0) rfl ?_
    refine lv_istore (lv' := [(6, .int 0), (5, .int 3), (0, .ref (zg Z 110)), (1, .int 6), (2, .int 2), (3, .int x2), (4, .int x3)]) hx hb dX0_go_22 hl (by decide) rfl (fun ls hl => ?_)
    refine g_st_BODY X h dX0_go_24 ?_
    refine lv_iload hx hb dX0_go_27 (lv_at hl 1 rfl) ?_
    refine lv_iconst (v := 3) hx hb dX0_go_29 (by decide) ?_
    refine lv_imul hx hb dX0_go_30 ?_
    refine g_tr (y := 9) (by decide) ?_
    refine lv_iload_n hx hb dX0_go_31 rfl (lv_at hl 4 rfl) ?_
    refine lv_iadd hx hb dX0_go_32 ?_
    refine g_tr (y := 11) (by decide) ?_
    refine g_tab1 X h (k := 11) rfl (by decide) dX0_go_33 ?_
    refine g_tr (y := 40) rfl ?_
    refine lv_istore (lv' := [(7, .int 40), (6, .int 0), (5, .int 3), (0, .ref (zg Z 110)), (1, .int 6), (2, .int 2), (3, .int x2), (4, .int x3)]) hx hb dX0_go_34 hl (by decide) rfl (fun ls hl => ?_)
    refine lv_iload hx hb dX0_go_36 (lv_at hl 7 rfl) ?_
    refine lv_iconst (v := 1) hx hb dX0_go_38 (by decide) ?_
    refine lv_iadd hx hb dX0_go_39 ?_
    refine lv_topi (fun x8_40 ex8_40 => ?_)
    refine lv_istore (lv' := [(8, .int x8_40), (7, .int 40), (6, .int 0), (5, .int 3), (0, .ref (zg Z 110)), (1, .int 6), (2, .int 2), (3, .int x2), (4, .int x3)]) hx hb dX0_go_40 hl (by decide) rfl (fun ls hl => ?_)
    refine lv_aload_n hx hb dX0_go_42 rfl (lv_at hl 4 rfl) ?_
    refine lv_iload hx hb dX0_go_43 (lv_at hl 1 rfl) ?_
    refine g_kv h (g_runV X h (As := [.int 40]) (rest := []) (c_X0_note gl Z v w 40 t htr (by omega)) mi_X0_note ml_RX0_54 (cc_110) (by decide) kl0 rfl ⟨Nat.le_of_ble_eq_true rfl, Nat.le_of_ble_eq_true rfl⟩ rfl hl.1 rfl (Nat.le_of_ble_eq_true rfl) dX0_go_45) (fun v45 w45 H locs hp45 h => ?_)
    obtain ⟨ev45, rfl⟩ := Prod.mk.inj hp45
    replace ev45 := ev45.symm
    refine lv_iload hx hb dX0_go_48 (lv_at hl 1 rfl) ?_
    refine lv_lookup (off := 165) (tgt := 215) hx hb dX0_go_50 (by decide) (by decide) (by decide) ?_
    refine lv_aload_n hx hb dX0_go_215 rfl (lv_at hl 4 rfl) ?_
    refine lv_iload hx hb dX0_go_216 (lv_at hl 2 rfl) ?_
    refine lv_iconst (v := 2) hx hb dX0_go_218 (by decide) ?_
    refine lv_iload_n hx hb dX0_go_219 rfl (lv_at hl 7 rfl) ?_
    refine lv_iload hx hb dX0_go_220 (lv_at hl 0 rfl) ?_
    refine g_ki h (g_runV X h (As := [.int 0, .int 2, .int x2, .int x8_40]) (rest := []) (c_X0_go_02 gl Z v45 w x2 x8_40 (d + 1) (ex8_40.trans (by rw [show (x3) = nI d from hd, show (1) = nI 1 from rfl, nI_add])) own ho6 (t + 1) (by rw [ev45, ranC_k (by decide)]; exact hkd) (by rw [ev45]; exact ranC_1) (by omega) (by omega)) mi_X0_go ml_RX0_41 (cc_110) (by decide) kl0 rfl ⟨Nat.le_of_ble_eq_true rfl, Nat.le_of_ble_eq_true rfl⟩ rfl hl.1 rfl (Nat.le_of_ble_eq_true rfl) dX0_go_222) (fun r222 v222 w222 H locs hp222 h => ?_)
    obtain ⟨hr222, hw222⟩ := hp222
    obtain ⟨ev222, rfl⟩ := Prod.mk.inj hw222
    replace ev222 := ev222.symm
    refine lv_aload_n hx hb dX0_go_225 rfl (lv_at hl 4 rfl) ?_
    refine lv_aload_n hx hb dX0_go_226 rfl (lv_at hl 4 rfl) ?_
    refine g_geti X h (k := 3) (cc_110) fr_RX0_33 rfl (by decide) dX0_go_227 ?_
    refine g_tr (y := (v 110 3)) (by rw [ev222, ranCL_k (by decide), ev45, ranC_k (by decide)]) ?_
    rcases kind7 hkd ho6 with hk7 | hk7 | hk7 | hk7 | hk7 | hk7 | hk7
    · skip
      obtain rfl : own = 0 := nI_eq1 (b := 0) hkd rfl (by omega) (by omega) hk7
      refine g_tr (y := 0) hk7 ?_
      refine lv_iconst (v := 1) hx hb dX0_go_230 (by decide) ?_
      refine lv_iconst (v := 1) hx hb dX0_go_231 (by decide) ?_
      refine lv_iload hx hb dX0_go_232 (lv_at hl 0 rfl) ?_
      refine g_ki h (g_runV X h (As := [.int 0, .int 1, .int 1, .int x8_40]) (rest := [.int r222]) (c_X0_go_01 gl Z v222 w 1 x8_40 (d + 1) (ex8_40.trans (by rw [show (x3) = nI d from hd, show (1) = nI 1 from rfl, nI_add])) 0 (by omega) (t + 1 + (tlL 0 0).length) (by rw [ev222, ranCL_k (by decide), ev45, ranC_k (by decide)]; exact hkd) (by rw [ev222]; exact ranCL_1 _ _ _ (by rw [ev45]; exact ranC_1)) (by omega) (by have := tlL_0 0 (by omega); omega)) mi_X0_go ml_RX0_41 (cc_110) (by decide) kl0 rfl ⟨Nat.le_of_ble_eq_true rfl, Nat.le_of_ble_eq_true rfl⟩ rfl hl.1 rfl (Nat.le_of_ble_eq_true rfl) dX0_go_234) (fun r234 v234 w234 H locs hp234 h => ?_)
      obtain ⟨hr234, hw234⟩ := hp234
      obtain ⟨ev234, rfl⟩ := Prod.mk.inj hw234
      replace ev234 := ev234.symm
      refine lv_iadd hx hb dX0_go_237 ?_
      exact g_iret X h dX0_go_238 ⟨(by rw [hr234, hr222, ev222, ranCL_k (by decide), ranCL_k (by decide), ev45, ranC_k (by decide), ranC_k (by decide)]; rfl), (by rw [ev234, ev222, ev45, ranCL_app]; rfl)⟩
    · skip
      obtain rfl : own = 1 := nI_eq1 (b := 1) hkd rfl (by omega) (by omega) hk7
      refine g_tr (y := 1) hk7 ?_
      refine lv_iconst (v := 1) hx hb dX0_go_230 (by decide) ?_
      refine lv_iconst (v := 1) hx hb dX0_go_231 (by decide) ?_
      refine lv_iload hx hb dX0_go_232 (lv_at hl 0 rfl) ?_
      refine g_ki h (g_runV X h (As := [.int 1, .int 1, .int 1, .int x8_40]) (rest := [.int r222]) (c_X0_go_11 gl Z v222 w 1 x8_40 (d + 1) (ex8_40.trans (by rw [show (x3) = nI d from hd, show (1) = nI 1 from rfl, nI_add])) 1 (by omega) (t + 1 + (tlL 1 0).length) (by rw [ev222, ranCL_k (by decide), ev45, ranC_k (by decide)]; exact hkd) (by rw [ev222]; exact ranCL_1 _ _ _ (by rw [ev45]; exact ranC_1)) (by omega) (by have := tlL_0 1 (by omega); omega)) mi_X0_go ml_RX0_41 (cc_110) (by decide) kl0 rfl ⟨Nat.le_of_ble_eq_true rfl, Nat.le_of_ble_eq_true rfl⟩ rfl hl.1 rfl (Nat.le_of_ble_eq_true rfl) dX0_go_234) (fun r234 v234 w234 H locs hp234 h => ?_)
      obtain ⟨hr234, hw234⟩ := hp234
      obtain ⟨ev234, rfl⟩ := Prod.mk.inj hw234
      replace ev234 := ev234.symm
      refine lv_iadd hx hb dX0_go_237 ?_
      exact g_iret X h dX0_go_238 ⟨(by rw [hr234, hr222, ev222, ranCL_k (by decide), ranCL_k (by decide), ev45, ranC_k (by decide), ranC_k (by decide)]; rfl), (by rw [ev234, ev222, ev45, ranCL_app]; rfl)⟩
    · skip
      obtain rfl : own = 2 := nI_eq1 (b := 2) hkd rfl (by omega) (by omega) hk7
      refine g_tr (y := 2) hk7 ?_
      refine lv_iconst (v := 1) hx hb dX0_go_230 (by decide) ?_
      refine lv_iconst (v := 1) hx hb dX0_go_231 (by decide) ?_
      refine lv_iload hx hb dX0_go_232 (lv_at hl 0 rfl) ?_
      refine g_ki h (g_runV X h (As := [.int 2, .int 1, .int 1, .int x8_40]) (rest := [.int r222]) (c_X0_go_21 gl Z v222 w 1 x8_40 (d + 1) (ex8_40.trans (by rw [show (x3) = nI d from hd, show (1) = nI 1 from rfl, nI_add])) 2 (by omega) (t + 1 + (tlL 2 0).length) (by rw [ev222, ranCL_k (by decide), ev45, ranC_k (by decide)]; exact hkd) (by rw [ev222]; exact ranCL_1 _ _ _ (by rw [ev45]; exact ranC_1)) (by omega) (by have := tlL_0 2 (by omega); omega)) mi_X0_go ml_RX0_41 (cc_110) (by decide) kl0 rfl ⟨Nat.le_of_ble_eq_true rfl, Nat.le_of_ble_eq_true rfl⟩ rfl hl.1 rfl (Nat.le_of_ble_eq_true rfl) dX0_go_234) (fun r234 v234 w234 H locs hp234 h => ?_)
      obtain ⟨hr234, hw234⟩ := hp234
      obtain ⟨ev234, rfl⟩ := Prod.mk.inj hw234
      replace ev234 := ev234.symm
      refine lv_iadd hx hb dX0_go_237 ?_
      exact g_iret X h dX0_go_238 ⟨(by rw [hr234, hr222, ev222, ranCL_k (by decide), ranCL_k (by decide), ev45, ranC_k (by decide), ranC_k (by decide)]; rfl), (by rw [ev234, ev222, ev45, ranCL_app]; rfl)⟩
    · skip
      obtain rfl : own = 3 := nI_eq1 (b := 3) hkd rfl (by omega) (by omega) hk7
      refine g_tr (y := 3) hk7 ?_
      refine lv_iconst (v := 1) hx hb dX0_go_230 (by decide) ?_
      refine lv_iconst (v := 1) hx hb dX0_go_231 (by decide) ?_
      refine lv_iload hx hb dX0_go_232 (lv_at hl 0 rfl) ?_
      refine g_ki h (g_runV X h (As := [.int 3, .int 1, .int 1, .int x8_40]) (rest := [.int r222]) (c_X0_go_31 gl Z v222 w 1 x8_40 (d + 1) (ex8_40.trans (by rw [show (x3) = nI d from hd, show (1) = nI 1 from rfl, nI_add])) 3 (by omega) (t + 1 + (tlL 3 0).length) (by rw [ev222, ranCL_k (by decide), ev45, ranC_k (by decide)]; exact hkd) (by rw [ev222]; exact ranCL_1 _ _ _ (by rw [ev45]; exact ranC_1)) (by omega) (by have := tlL_0 3 (by omega); omega)) mi_X0_go ml_RX0_41 (cc_110) (by decide) kl0 rfl ⟨Nat.le_of_ble_eq_true rfl, Nat.le_of_ble_eq_true rfl⟩ rfl hl.1 rfl (Nat.le_of_ble_eq_true rfl) dX0_go_234) (fun r234 v234 w234 H locs hp234 h => ?_)
      obtain ⟨hr234, hw234⟩ := hp234
      obtain ⟨ev234, rfl⟩ := Prod.mk.inj hw234
      replace ev234 := ev234.symm
      refine lv_iadd hx hb dX0_go_237 ?_
      exact g_iret X h dX0_go_238 ⟨(by rw [hr234, hr222, ev222, ranCL_k (by decide), ranCL_k (by decide), ev45, ranC_k (by decide), ranC_k (by decide)]; rfl), (by rw [ev234, ev222, ev45, ranCL_app]; rfl)⟩
    · skip
      obtain rfl : own = 4 := nI_eq1 (b := 4) hkd rfl (by omega) (by omega) hk7
      refine g_tr (y := 4) hk7 ?_
      refine lv_iconst (v := 1) hx hb dX0_go_230 (by decide) ?_
      refine lv_iconst (v := 1) hx hb dX0_go_231 (by decide) ?_
      refine lv_iload hx hb dX0_go_232 (lv_at hl 0 rfl) ?_
      refine g_ki h (g_runV X h (As := [.int 4, .int 1, .int 1, .int x8_40]) (rest := [.int r222]) (c_X0_go_41 gl Z v222 w 1 x8_40 (d + 1) (ex8_40.trans (by rw [show (x3) = nI d from hd, show (1) = nI 1 from rfl, nI_add])) 4 (by omega) (t + 1 + (tlL 4 0).length) (by rw [ev222, ranCL_k (by decide), ev45, ranC_k (by decide)]; exact hkd) (by rw [ev222]; exact ranCL_1 _ _ _ (by rw [ev45]; exact ranC_1)) (by omega) (by have := tlL_0 4 (by omega); omega)) mi_X0_go ml_RX0_41 (cc_110) (by decide) kl0 rfl ⟨Nat.le_of_ble_eq_true rfl, Nat.le_of_ble_eq_true rfl⟩ rfl hl.1 rfl (Nat.le_of_ble_eq_true rfl) dX0_go_234) (fun r234 v234 w234 H locs hp234 h => ?_)
      obtain ⟨hr234, hw234⟩ := hp234
      obtain ⟨ev234, rfl⟩ := Prod.mk.inj hw234
      replace ev234 := ev234.symm
      refine lv_iadd hx hb dX0_go_237 ?_
      exact g_iret X h dX0_go_238 ⟨(by rw [hr234, hr222, ev222, ranCL_k (by decide), ranCL_k (by decide), ev45, ranC_k (by decide), ranC_k (by decide)]; rfl), (by rw [ev234, ev222, ev45, ranCL_app]; rfl)⟩
    · skip
      obtain rfl : own = 5 := nI_eq1 (b := 5) hkd rfl (by omega) (by omega) hk7
      refine g_tr (y := 5) hk7 ?_
      refine lv_iconst (v := 1) hx hb dX0_go_230 (by decide) ?_
      refine lv_iconst (v := 1) hx hb dX0_go_231 (by decide) ?_
      refine lv_iload hx hb dX0_go_232 (lv_at hl 0 rfl) ?_
      refine g_ki h (g_runV X h (As := [.int 5, .int 1, .int 1, .int x8_40]) (rest := [.int r222]) (c_X0_go_51 gl Z v222 w 1 x8_40 (d + 1) (ex8_40.trans (by rw [show (x3) = nI d from hd, show (1) = nI 1 from rfl, nI_add])) 5 (by omega) (t + 1 + (tlL 5 0).length) (by rw [ev222, ranCL_k (by decide), ev45, ranC_k (by decide)]; exact hkd) (by rw [ev222]; exact ranCL_1 _ _ _ (by rw [ev45]; exact ranC_1)) (by omega) (by have := tlL_0 5 (by omega); omega)) mi_X0_go ml_RX0_41 (cc_110) (by decide) kl0 rfl ⟨Nat.le_of_ble_eq_true rfl, Nat.le_of_ble_eq_true rfl⟩ rfl hl.1 rfl (Nat.le_of_ble_eq_true rfl) dX0_go_234) (fun r234 v234 w234 H locs hp234 h => ?_)
      obtain ⟨hr234, hw234⟩ := hp234
      obtain ⟨ev234, rfl⟩ := Prod.mk.inj hw234
      replace ev234 := ev234.symm
      refine lv_iadd hx hb dX0_go_237 ?_
      exact g_iret X h dX0_go_238 ⟨(by rw [hr234, hr222, ev222, ranCL_k (by decide), ranCL_k (by decide), ev45, ranC_k (by decide), ranC_k (by decide)]; rfl), (by rw [ev234, ev222, ev45, ranCL_app]; rfl)⟩
    · skip
      obtain rfl : own = 6 := nI_eq1 (b := 6) hkd rfl (by omega) (by omega) hk7
      refine g_tr (y := 6) hk7 ?_
      refine lv_iconst (v := 1) hx hb dX0_go_230 (by decide) ?_
      refine lv_iconst (v := 1) hx hb dX0_go_231 (by decide) ?_
      refine lv_iload hx hb dX0_go_232 (lv_at hl 0 rfl) ?_
      refine g_ki h (g_runV X h (As := [.int 6, .int 1, .int 1, .int x8_40]) (rest := [.int r222]) (c_X0_go_61 gl Z v222 w 1 x8_40 (d + 1) (ex8_40.trans (by rw [show (x3) = nI d from hd, show (1) = nI 1 from rfl, nI_add])) 6 (by omega) (t + 1 + (tlL 6 0).length) (by rw [ev222, ranCL_k (by decide), ev45, ranC_k (by decide)]; exact hkd) (by rw [ev222]; exact ranCL_1 _ _ _ (by rw [ev45]; exact ranC_1)) (by omega) (by have := tlL_0 6 (by omega); omega)) mi_X0_go ml_RX0_41 (cc_110) (by decide) kl0 rfl ⟨Nat.le_of_ble_eq_true rfl, Nat.le_of_ble_eq_true rfl⟩ rfl hl.1 rfl (Nat.le_of_ble_eq_true rfl) dX0_go_234) (fun r234 v234 w234 H locs hp234 h => ?_)
      obtain ⟨hr234, hw234⟩ := hp234
      obtain ⟨ev234, rfl⟩ := Prod.mk.inj hw234
      replace ev234 := ev234.symm
      refine lv_iadd hx hb dX0_go_237 ?_
      exact g_iret X h dX0_go_238 ⟨(by rw [hr234, hr222, ev222, ranCL_k (by decide), ranCL_k (by decide), ev45, ranC_k (by decide), ranC_k (by decide)]; rfl), (by rw [ev234, ev222, ev45, ranCL_app]; rfl)⟩
  · exact absurd (nI_le (b := 40) (show d ≤ 40 by omega) (by omega)) (by rw [hd] at c_4; exact c_4)
