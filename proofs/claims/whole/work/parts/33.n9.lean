/-! the class: what is best -/
section X70
variable {v : VV} {n k : Nat} {x : Int32}
theorem xT_rnd (hk : k < 6) : xC (up2 v 78 k x) 70 n = up2 (xC v 70 n) 7 k x := xC_up_rnd (b := 70) hk
theorem xT_th (hk : k < 6) : xC (up2 v 75 k x) 70 n = up2 (xC v 70 n) 3 k x := xC_up_th (b := 70) hk
theorem xT_v (hk : k < 6) : xC (up2 v 74 k x) 70 n = up2 (xC v 70 n) 2 k x := xC_up_v (b := 70) hk
theorem xT_dead (hk : k < 6) : xC (up2 v 71 7 (sdB (v 71 7) k x)) 70 n = up2 (xC v 70 n) 5 k (if x = 0 then 0 else 1) := xC_up_dead (b := 70) hk
end X70
theorem CW70 {u w : VV} {n B j : Nat} {L : LND} (h : CW u 70 n B j L) (h1 : ∀ i, i < 70 ∨ i = 72 → w i = u i) (h2 : w 70 6 = u 70 6) (h3 : w 71 0 = u 71 0) (hr : RX n B (xC w 70 n)) : CW w 70 n B j L :=
  CW_any (by decide) h (fun i hi => h1 i (by omega)) h2 h3 hr h.2.2.2.2.2
theorem aim_x {X : VV} {i : Nat} : up2 (up2 X 7 0 (nI i)) 0 4 1 = aimX X i := up2_comm (Or.inl (by decide))
theorem aim_s {X : VV} {L : LND} {n i : Nat} {x1 x2 y1 y2 h x3 : Int32} (hw : (x2, x1) = aimF X L n i) (hh : h = daysS (aimX X i) L n 40 0 1) (h3 : x3 = nI i) (hc : (h ≤ x2 ∧ y2 = x2 ∧ y1 = x1) ∨ (¬ h ≤ x2 ∧ y2 = h ∧ y1 = x3)) : (y2, y1) = aimF X L n (i + 1) := by
  rw [aimF, ← hw, wellS, helS, ← hh]
  rcases hc with ⟨a, rfl, rfl⟩ | ⟨a, rfl, rfl⟩
  · rw [if_neg (Int32.not_lt.mpr a)]
  · rw [if_pos (Int32.not_le.mp a), h3]
theorem swap_s {X : VV} {L : LND} {n i j : Nat} {s : Int32 × Int32} {x1 x2 y1 y2 h x3 x4 : Int32} (hw : (x2, x1) = s) (hh : h = daysS (swapX X i j) L n 40 0 1) (h3 : x3 = nI i) (h4 : x4 = nI j) (hc : (h ≤ x2 ∧ y2 = x2 ∧ y1 = x1) ∨ (¬ h ≤ x2 ∧ y2 = h ∧ y1 = 10 * x3 + x4)) : (y2, y1) = swapS X L n i j s := by
  rw [swapS, ← hw, wellS, helS, ← hh]
  rcases hc with ⟨a, rfl, rfl⟩ | ⟨a, rfl, rfl⟩
  · rw [if_neg (Int32.not_lt.mpr a)]
  · rw [if_pos (Int32.not_le.mp a), h3, h4]
theorem minD_i {P : Nat → Bool} {i : Nat} (hi : i ≤ 40) : minD P 40 (41 - i) = if P i then nI i else minD P 40 (41 - (i + 1)) := by
  rw [show 41 - i = (40 - i) + 1 by omega, show 41 - (i + 1) = 40 - i by omega, minD, show 40 - (40 - i) = i by omega]
theorem maxU_i {P : Nat → Bool} {k : Nat} (hk : k ≤ 40) : maxU P (41 - k) = if P (40 - k) then nI (40 - k) else maxU P (41 - (k + 1)) := by
  rw [show 41 - k = (40 - k) + 1 by omega, show 41 - (k + 1) = 40 - k by omega, maxU]
/-! lowest terms -/
theorem gcd_is {a d g : Nat} (h1 : g ∣ a) (h2 : g ∣ d) (hd : 0 < d) (h : ∀ e, g < e → e ≤ d → ¬ (e ∣ a ∧ e ∣ d)) : Nat.gcd a d = g := by
  have k1 := Nat.dvd_gcd h1 h2
  have k2 := Nat.gcd_pos_of_pos_right a hd
  have k3 := Nat.le_of_dvd hd (Nat.gcd_dvd_right a d)
  have k4 := Nat.le_of_dvd k2 k1
  rcases Nat.lt_or_ge g (Nat.gcd a d) with q | q
  · exact absurd ⟨Nat.gcd_dvd_left a d, Nat.gcd_dvd_right a d⟩ (h _ q k3)
  · omega
def lowS (a d : Nat) (x : Int32) : Int64 := if inR x 0 1 then fracS a d x else NOv
theorem low_0 {a d g : Nat} {x : Int32} (h : Nat.gcd a d = g) (ha : a < 2 ^ 31) (hd : d < 2 ^ 31) (hx : inR x 0 1 = true) (hg : 0 < g) (hg2 : g < 2 ^ 31) {y : Int32} (hy : y = if x = 0 then nI a else nI d) : (y / nI g).toInt64 = lowS a d x := by
  subst hy
  rw [lowS, if_pos hx, fracS, h]
  have e1 := Nat.div_le_self a g
  have e2 := Nat.div_le_self d g
  split
  · rw [pk_div ha hg hg2, nI_l (by omega)]
  · rw [pk_div hd hg hg2, nI_l (by omega)]
theorem low_1 {a d : Nat} {x : Int32} (h : Nat.gcd a d = 1) (ha : a < 2 ^ 31) (hd : d < 2 ^ 31) (hx : inR x 0 1 = true) {y : Int32} (hy : y = if x = 0 then nI a else nI d) : y.toInt64 = lowS a d x := by
  subst hy
  rw [lowS, if_pos hx, fracS, h, Nat.div_one, Nat.div_one]
  split
  · rw [nI_l ha]
  · rw [nI_l hd]
theorem nd_0 {a g : Nat} (ha : a < 2 ^ 31) (hg : 0 < g) (hg2 : g < 2 ^ 31) : nI a - nI a / nI g * nI g = 0 ↔ g ∣ a := by
  rw [pk_rem ha hg hg2]
  have := Nat.mod_lt a hg
  constructor
  · intro h
    exact Nat.dvd_of_mod_eq_zero (nI_inj (b := 0) (by omega) (by omega) h)
  · intro h
    rw [Nat.mod_eq_zero_of_dvd h]; rfl
theorem odds_no {X : VV} {L : LND} {n : Nat} {x y : Int32} (h : n = 0 ∨ inR x 0 60 = false) : sOdds X L n x y = NOv := by
  rw [sOdds, if_neg]
  intro q
  simp only [Bool.and_eq_true, decide_eq_true_eq] at q
  rcases h with h | h
  · omega
  · rw [h] at q; simp at q
theorem mean_no {X : VV} {L : LND} {n : Nat} {x y : Int32} (h : n = 0 ∨ inR x 0 60 = false) : sMean X L n x y = NOv := by
  rw [sMean, if_neg]
  intro q
  simp only [Bool.and_eq_true, decide_eq_true_eq] at q
  rcases h with h | h
  · omega
  · rw [h] at q; simp at q
theorem odds_low {X : VV} {L : LND} {n : Nat} {x y : Int32} (hn : 0 < n) (h : inR x 0 60 = true) : sOdds X L n x y = lowS (livF X L n x.toNatClampNeg n) n y := by
  rw [sOdds, lowS, h, decide_eq_true hn]
  cases inR y 0 1 <;> rfl
theorem mean_low {X : VV} {L : LND} {n : Nat} {x y : Int32} (hn : 0 < n) (h : inR x 0 60 = true) : sMean X L n x y = lowS (lsum (daysS X L n x.toNatClampNeg 3) n).toNatClampNeg n y := by
  rw [sMean, lowS, h, decide_eq_true hn]
  cases inR y 0 1 <;> rfl
/-! counts upward and downward -/
theorem cntD_i {P : Nat → Bool} {t i : Nat} (hi : i ≤ t) : cntD P t (t + 1 - i) = if P i then cntD P t (t + 1 - (i + 1)) + 1 else cntD P t (t + 1 - (i + 1)) := by
  rw [show t + 1 - i = (t - i) + 1 by omega, show t + 1 - (i + 1) = t - i by omega, cntD, show t - (t - i) = i by omega]
theorem minD_t {P : Nat → Bool} {t i : Nat} (hi : i ≤ t) : minD P t (t + 1 - i) = if P i then nI i else minD P t (t + 1 - (i + 1)) := by
  rw [show t + 1 - i = (t - i) + 1 by omega, show t + 1 - (i + 1) = t - i by omega, minD, show t - (t - i) = i by omega]
def fitI (P : Nat → Bool) (t i : Nat) (x5 x6 : Int32) : Prop := (∃ m, m ≤ i ∧ x5 = nI m ∧ x5 + cntD P t (t + 1 - i) = cntD P t (t + 1)) ∧ ((x5 = 0 ∧ x6 = -5 ∧ minD P t (t + 1) = minD P t (t + 1 - i)) ∨ (¬ x5 = 0 ∧ x6 = minD P t (t + 1)))
theorem fit_0 (P : Nat → Bool) (t : Nat) : fitI P t 0 0 (-5) := ⟨⟨0, Nat.le_refl _, rfl, by rw [Nat.sub_zero, Int32.zero_add]⟩, Or.inl ⟨rfl, rfl, rfl⟩⟩
theorem fit_no {P : Nat → Bool} {t i : Nat} {x5 x6 : Int32} (hi : i ≤ t) (h : fitI P t i x5 x6) (hp : P i = false) : fitI P t (i + 1) x5 x6 := by
  obtain ⟨⟨m, hm, e, hc⟩, h2⟩ := h
  rw [cntD_i hi, hp] at hc
  refine ⟨⟨m, by omega, e, hc⟩, ?_⟩
  rcases h2 with ⟨a, b, c⟩ | h2
  · rw [minD_t hi, hp] at c
    exact Or.inl ⟨a, b, c⟩
  · exact Or.inr h2
theorem fit_yes {P : Nat → Bool} {t i : Nat} {x5 x6 y6 x7 : Int32} (hi : i ≤ t) (ht : t < 1000) (h : fitI P t i x5 x6) (hp : P i = true) (h7 : x7 = nI i) (h6 : (x5 = 0 ∧ y6 = x7) ∨ (¬ x5 = 0 ∧ y6 = x6)) : fitI P t (i + 1) (x5 + 1) y6 := by
  obtain ⟨⟨m, hm, e, hc⟩, h2⟩ := h
  rw [cntD_i hi, hp, if_pos rfl] at hc
  have hne : ¬ x5 + 1 = 0 := by
    rw [e, nI_1]
    exact nI_ne0 (by omega) (by omega)
  refine ⟨⟨m + 1, by omega, by rw [e, nI_1], by rw [← hc, Int32.add_assoc, Int32.add_comm 1]⟩, Or.inr ⟨hne, ?_⟩⟩
  rcases h2 with ⟨a, b, c⟩ | ⟨a, b⟩
  · rcases h6 with ⟨-, h6⟩ | ⟨h6, -⟩
    · rw [c, minD_t hi, hp, if_pos rfl, h6, h7]
    · exact absurd a h6
  · rcases h6 with ⟨h6, -⟩ | ⟨-, h6⟩
    · exact absurd h6 a
    · rw [h6, b]
theorem fit_end {P : Nat → Bool} {t : Nat} {x5 x6 : Int32} (h : fitI P t (t + 1) x5 x6) : x5 = cntD P t (t + 1) ∧ x6 = minD P t (t + 1) := by
  obtain ⟨⟨m, hm, e, hc⟩, h2⟩ := h
  rw [Nat.sub_self] at hc
  refine ⟨by rw [← hc]; exact (Int32.add_zero _).symm, ?_⟩
  rcases h2 with ⟨a, b, c⟩ | ⟨a, b⟩
  · rw [b, c, Nat.sub_self]; rfl
  · exact b
set_option maxRecDepth 100000 in
set_option maxHeartbeats 1000000 in
theorem c_X7_on (gl : Launch) (Z : PL) (v : VV) (w : WV) (x0 : Int32) (x1 : Int32) (n : Nat) (B : Nat) (j : Nat) (L : LND) (hcn : CN v n B j L) (hB60 : B + 60 < 1000000) : CT gl yX7_on cX7_on 5 (some .int) 5 124 Z [.ref (zg Z 0), .int x0, .int x1] v w (Qi Z (fun r u => r = sOn (xC v 51 n) L n x0 x1 ∧ (u.1, w) = u ∧ scC v u.1)) := by
  refine g_met (by decide) (Nat.le_of_ble_eq_true rfl) ?_
  intro gp ge gs gm ga gb gh gc X h ls hl
  have hx := X.1
  have hb := X.2.1
  have hl : lv_has ls 5 [(0, .ref (zg Z 0)), (1, .int x0), (2, .int x1)] := hl
  obtain ⟨hn, h6, hj7, hland, hst, hrx, hB⟩ := CN.f hcn
  refine lv_iload_n hx hb dX7_on_0 rfl (lv_at hl 2 rfl) ?_
  refine lv_bipush (v := 10) hx hb dX7_on_1 (by decide) ?_
  refine lv_icmp_lt (tgt := 21) hx hb dX7_on_3 (by decide) (fun c_3 => ?_) (fun c_3 => ?_)
  · skip
    have hT : isP (nI n) (x1 - 10) = false := isP_lo (c := 10) h6 (by decide) c_3
    refine lv_iconst (v := 0) hx hb dX7_on_21 (by decide) ?_
    refine lv_istore_n (lv' := [(3, .int 0), (0, .ref (zg Z 0)), (1, .int x0), (2, .int x1)]) hx hb dX7_on_22 rfl hl (by decide) rfl (fun ls hl => ?_)
    refine lv_iload_n hx hb dX7_on_23 rfl (lv_at hl 3 rfl) ?_
    refine lv_bipush (v := 20) hx hb dX7_on_24 (by decide) ?_
    refine lv_icmp_lt (tgt := 44) hx hb dX7_on_26 (by decide) (fun c_26 => ?_) (fun c_26 => ?_)
    · skip
      have hG : isP (nI n) (x1 - 20) = false := isP_lo (c := 20) h6 (by decide) c_26
      refine lv_iconst (v := 0) hx hb dX7_on_44 (by decide) ?_
      refine lv_istore (lv' := [(4, .int 0), (3, .int 0), (0, .ref (zg Z 0)), (1, .int x0), (2, .int x1)]) hx hb dX7_on_45 hl (by decide) rfl (fun ls hl => ?_)
      refine lv_iload_n hx hb dX7_on_47 rfl (lv_at hl 4 rfl) ?_
      refine lv_iconst (v := 0) hx hb dX7_on_48 (by decide) ?_
      refine lv_iconst (v := 2) hx hb dX7_on_49 (by decide) ?_
      refine g_ki h (g_runS X h (As := [.int x1, .int 0, .int 2]) (rest := []) (c_X7_isWithin gl Z v w x1 0 2) ms_X7_isWithin ml_RX7_58 ⟨Nat.le_of_ble_eq_true rfl, Nat.le_of_ble_eq_true rfl⟩ rfl hl.1 rfl (Nat.le_of_ble_eq_true rfl) dX7_on_50) (fun r50 v50 w50 H locs hp50 h => ?_)
      obtain ⟨hr50, hu50⟩ := hp50; obtain ⟨rfl, rfl⟩ := Prod.mk.inj hu50
      refine lv_if_ne (tgt := 67) hx hb dX7_on_53 (by decide) (fun c_53 => ?_) (fun c_53 => ?_)
      · skip
        rw [hr50, bI_n] at c_53
        refine lv_iload_n hx hb dX7_on_67 rfl (lv_at hl 3 rfl) ?_
        refine lv_iconst (v := 0) hx hb dX7_on_68 (by decide) ?_
        refine lv_bipush (v := 60) hx hb dX7_on_69 (by decide) ?_
        refine g_ki h (g_runS X h (As := [.int x0, .int 0, .int 60]) (rest := []) (c_X7_isWithin gl Z v w x0 0 60) ms_X7_isWithin ml_RX7_58 ⟨Nat.le_of_ble_eq_true rfl, Nat.le_of_ble_eq_true rfl⟩ rfl hl.1 rfl (Nat.le_of_ble_eq_true rfl) dX7_on_71) (fun r71 v71 w71 H locs hp71 h => ?_)
        obtain ⟨hr71, hu71⟩ := hp71; obtain ⟨rfl, rfl⟩ := Prod.mk.inj hu71
        refine lv_if_ne (tgt := 80) hx hb dX7_on_74 (by decide) (fun c_74 => ?_) (fun c_74 => ?_)
        · skip
          rw [hr71, bI_n] at c_74
          obtain ⟨k, hk, hk0, hk60, hkc⟩ := inR_nat (a := 0) (b := 60) rfl rfl (by decide) c_74
          refine lv_aload_n hx hb dX7_on_80 rfl (lv_at hl 2 rfl) ?_
          refine g_getr X h (k := 2) (t := 70) (cc_0) fr_RX7_27 rfl (by decide) (by decide) (by decide) dX7_on_81 ?_
          refine lv_aload_n hx hb dX7_on_84 rfl (lv_at hl 2 rfl) ?_
          refine g_getr X h (k := 1) (t := 51) (cc_0) fr_RX7_23 rfl (by decide) (by decide) (by decide) dX7_on_85 ?_
          refine g_kv h (g_runV X h (As := [.ref (zg Z 51)]) (rest := []) (c_X6_startAs gl Z v w 70 isW1 51 isW0 (by decide) n j h6 hj7 (CN.f hcn).2.2.2.1 (CN.f hcn).2.2.2.2.1) mi_X6_startAs ml_RX7_169 (cc_70) (by decide) kl6 rfl ⟨Nat.le_of_ble_eq_true rfl, Nat.le_of_ble_eq_true rfl⟩ rfl hl.1 rfl (Nat.le_of_ble_eq_true rfl) dX7_on_88) (fun v88 w88 H locs hp88 h => ?_)
          obtain ⟨hx88, hw88, hl688, hft88, hsw88⟩ := hp88
          obtain ⟨-, rfl⟩ := Prod.mk.inj hw88
          replace hx88 : xC v88 _ _ = _ := hx88
          replace hl688 : v88 _ 6 = _ := hl688
          replace hft88 : frT _ v88 _ := hft88
          replace hsw88 : stW v88 _ _ := hsw88
          obtain ⟨hs88, hc88, hX88⟩ := TC_start (scC_refl v) hcn hx88 hl688 hft88
          refine lv_aload_n hx hb dX7_on_91 rfl (lv_at hl 2 rfl) ?_
          refine g_getr X h (k := 2) (t := 70) (cc_0) fr_RX7_27 rfl (by decide) (by decide) (by decide) dX7_on_92 ?_
          refine lv_iload_n hx hb dX7_on_95 rfl (lv_at hl 3 rfl) ?_
          refine g_kv h (g_runV X h (As := [.int x0]) (rest := []) (c_X6_goDays gl Z v88 w x0 k hk 70 isW1 n B j L hc88 (by omega)) mi_X6_goDays ml_RX7_165 (cc_70) (by decide) kl6 rfl ⟨Nat.le_of_ble_eq_true rfl, Nat.le_of_ble_eq_true rfl⟩ rfl hl.1 rfl (Nat.le_of_ble_eq_true rfl) dX7_on_96) (fun v96 w96 H locs hp96 h => ?_)
          obtain ⟨hx96, hw96, hfd96⟩ := hp96
          obtain ⟨-, rfl⟩ := Prod.mk.inj hw96
          replace hx96 : xC v96 _ _ = _ := hx96
          replace hfd96 : frD _ v96 _ _ := hfd96
          rw [hX88] at hx96
          have hs96 := scC_trans hs88 (scC_D hj7 hfd96)
          refine lv_iload_n hx hb dX7_on_99 rfl (lv_at hl 1 rfl) ?_
          refine lv_if_eq (tgt := 119) hx hb dX7_on_100 (by decide) (fun c_100 => ?_) (fun c_100 => ?_)
          · skip
            refine lv_iload hx hb dX7_on_119 (lv_at hl 0 rfl) ?_
            refine lv_if_eq (tgt := 140) hx hb dX7_on_121 (by decide) (fun c_121 => ?_) (fun c_121 => ?_)
            · skip
              refine lv_iload_n hx hb dX7_on_140 rfl (lv_at hl 4 rfl) ?_
              refine lv_iconst (v := 2) hx hb dX7_on_141 (by decide) ?_
              refine lv_icmp_ne (tgt := 153) hx hb dX7_on_142 (by decide) (fun c_142 => ?_) (fun c_142 => ?_)
              · skip
                refine lv_iload_n hx hb dX7_on_153 rfl (lv_at hl 4 rfl) ?_
                refine lv_if_ne (tgt := 167) hx hb dX7_on_154 (by decide) (fun c_154 => ?_) (fun c_154 => ?_)
                · skip
                  refine lv_aload_n hx hb dX7_on_167 rfl (lv_at hl 2 rfl) ?_
                  refine g_getr X h (k := 2) (t := 70) (cc_0) fr_RX7_27 rfl (by decide) (by decide) (by decide) dX7_on_168 ?_
                  refine g_geti X h (k := 2) (cc_70) fr_RX7_120 rfl (by decide) dX7_on_171 ?_
                  exact g_iret X h dX7_on_174 ⟨(by rw [sOn, if_pos (by simp [c_53]), if_pos c_74, hkc, onS, ← hx96]; rw [if_neg c_154, if_pos (by rcases inR_012 c_53 with z | z | z; exact absurd z c_154; exact z; exact absurd z c_142)]; rfl), rfl, hs96⟩
                · skip
                  refine lv_aload_n hx hb dX7_on_157 rfl (lv_at hl 2 rfl) ?_
                  refine g_getr X h (k := 2) (t := 70) (cc_0) fr_RX7_27 rfl (by decide) (by decide) (by decide) dX7_on_158 ?_
                  refine g_geti X h (k := 1) (cc_70) fr_RX7_117 rfl (by decide) dX7_on_161 ?_
                  refine lv_goto (tgt := 174) hx hb dX7_on_164 (by decide) ?_
                  exact g_iret X h dX7_on_174 ⟨(by rw [sOn, if_pos (by simp [c_53]), if_pos c_74, hkc, onS, ← hx96]; rw [if_pos c_154]; rfl), rfl, hs96⟩
              · skip
                refine lv_aload_n hx hb dX7_on_145 rfl (lv_at hl 2 rfl) ?_
                refine g_getr X h (k := 2) (t := 70) (cc_0) fr_RX7_27 rfl (by decide) (by decide) (by decide) dX7_on_146 ?_
                refine g_ki h (g_runV X h (As := []) (rest := []) (c_X6_letIn gl Z v96 w 70 isW1 n (B + k) j L (CW_day (by decide) hc88 hfd96 (by rw [hX88]; exact hx96) (by omega))) mi_X6_letIn ml_RX7_96 (cc_70) (by decide) kl6 rfl ⟨Nat.le_of_ble_eq_true rfl, Nat.le_of_ble_eq_true rfl⟩ rfl hl.1 rfl (Nat.le_of_ble_eq_true rfl) dX7_on_149) (fun r149 v149 w149 H locs hp149 h => ?_)
                obtain ⟨hr149, hw149, hfl149, hwl149⟩ := hp149
                obtain ⟨-, rfl⟩ := Prod.mk.inj hw149
                replace hfl149 : frL _ v149 _ _ := hfl149
                exact g_iret X h dX7_on_152 ⟨(by rw [sOn, if_pos (by simp [c_53]), if_pos c_74, hkc, onS, ← hx96]; rw [if_neg (by rw [c_142]; decide), if_neg (by rw [c_142]; decide), if_pos c_142]; exact hr149), rfl, scC_trans hs96 (scC_L1 hj7 hfl149)⟩
            · exact absurd rfl c_121
          · exact absurd rfl c_100
        · skip
          rw [hr71, bI_0] at c_74
          refine lv_bipush (v := (-2)) hx hb dX7_on_77 (by decide) ?_
          exact g_iret X h dX7_on_79 ⟨by rw [sOn, if_pos (by simp [c_53]), if_neg (by rw [c_74]; simp)], rfl, scC_refl v⟩
      · skip
        rw [hr50, bI_0] at c_53
        refine lv_iload_n hx hb dX7_on_56 rfl (lv_at hl 1 rfl) ?_
        refine lv_if_ne (tgt := 67) hx hb dX7_on_57 (by decide) (fun c_57 => ?_) (fun c_57 => ?_)
        · exact absurd rfl c_57
        · skip
          refine lv_iload hx hb dX7_on_60 (lv_at hl 0 rfl) ?_
          refine lv_if_ne (tgt := 67) hx hb dX7_on_62 (by decide) (fun c_62 => ?_) (fun c_62 => ?_)
          · exact absurd rfl c_62
          · skip
            refine lv_iconst (v := (-1)) hx hb dX7_on_65 (by decide) ?_
            exact g_iret X h dX7_on_66 ⟨by simp [sOn, hT, hG, c_53], rfl, scC_refl v⟩
    · skip
      refine lv_aload_n hx hb dX7_on_29 rfl (lv_at hl 1 rfl) ?_
      refine lv_iload_n hx hb dX7_on_30 rfl (lv_at hl 3 rfl) ?_
      refine lv_bipush (v := 20) hx hb dX7_on_31 (by decide) ?_
      refine lv_isub hx hb dX7_on_33 ?_
      refine g_ki h (g_runV X h (As := [.int (x1 - 20)]) (rest := []) (c_X7_isPerson gl Z v w (x1 - 20) n hn h6) mi_X7_isPerson ml_RX7_76 (cc_0) (by decide) kl7 rfl ⟨Nat.le_of_ble_eq_true rfl, Nat.le_of_ble_eq_true rfl⟩ rfl hl.1 rfl (Nat.le_of_ble_eq_true rfl) dX7_on_34) (fun r34 v34 w34 H locs hp34 h => ?_)
      obtain ⟨hr34, hu34⟩ := hp34; obtain ⟨rfl, rfl⟩ := Prod.mk.inj hu34
      refine lv_if_eq (tgt := 44) hx hb dX7_on_37 (by decide) (fun c_37 => ?_) (fun c_37 => ?_)
      · skip
        rw [hr34, bI_0] at c_37
        have hG : isP (nI n) (x1 - 20) = false := c_37
        refine lv_iconst (v := 0) hx hb dX7_on_44 (by decide) ?_
        refine lv_istore (lv' := [(4, .int 0), (3, .int 0), (0, .ref (zg Z 0)), (1, .int x0), (2, .int x1)]) hx hb dX7_on_45 hl (by decide) rfl (fun ls hl => ?_)
        refine lv_iload_n hx hb dX7_on_47 rfl (lv_at hl 4 rfl) ?_
        refine lv_iconst (v := 0) hx hb dX7_on_48 (by decide) ?_
        refine lv_iconst (v := 2) hx hb dX7_on_49 (by decide) ?_
        refine g_ki h (g_runS X h (As := [.int x1, .int 0, .int 2]) (rest := []) (c_X7_isWithin gl Z v w x1 0 2) ms_X7_isWithin ml_RX7_58 ⟨Nat.le_of_ble_eq_true rfl, Nat.le_of_ble_eq_true rfl⟩ rfl hl.1 rfl (Nat.le_of_ble_eq_true rfl) dX7_on_50) (fun r50 v50 w50 H locs hp50 h => ?_)
        obtain ⟨hr50, hu50⟩ := hp50; obtain ⟨rfl, rfl⟩ := Prod.mk.inj hu50
        refine lv_if_ne (tgt := 67) hx hb dX7_on_53 (by decide) (fun c_53 => ?_) (fun c_53 => ?_)
        · skip
          rw [hr50, bI_n] at c_53
          refine lv_iload_n hx hb dX7_on_67 rfl (lv_at hl 3 rfl) ?_
          refine lv_iconst (v := 0) hx hb dX7_on_68 (by decide) ?_
          refine lv_bipush (v := 60) hx hb dX7_on_69 (by decide) ?_
          refine g_ki h (g_runS X h (As := [.int x0, .int 0, .int 60]) (rest := []) (c_X7_isWithin gl Z v w x0 0 60) ms_X7_isWithin ml_RX7_58 ⟨Nat.le_of_ble_eq_true rfl, Nat.le_of_ble_eq_true rfl⟩ rfl hl.1 rfl (Nat.le_of_ble_eq_true rfl) dX7_on_71) (fun r71 v71 w71 H locs hp71 h => ?_)
          obtain ⟨hr71, hu71⟩ := hp71; obtain ⟨rfl, rfl⟩ := Prod.mk.inj hu71
          refine lv_if_ne (tgt := 80) hx hb dX7_on_74 (by decide) (fun c_74 => ?_) (fun c_74 => ?_)
          · skip
            rw [hr71, bI_n] at c_74
            obtain ⟨k, hk, hk0, hk60, hkc⟩ := inR_nat (a := 0) (b := 60) rfl rfl (by decide) c_74
            refine lv_aload_n hx hb dX7_on_80 rfl (lv_at hl 2 rfl) ?_
            refine g_getr X h (k := 2) (t := 70) (cc_0) fr_RX7_27 rfl (by decide) (by decide) (by decide) dX7_on_81 ?_
            refine lv_aload_n hx hb dX7_on_84 rfl (lv_at hl 2 rfl) ?_
            refine g_getr X h (k := 1) (t := 51) (cc_0) fr_RX7_23 rfl (by decide) (by decide) (by decide) dX7_on_85 ?_
            refine g_kv h (g_runV X h (As := [.ref (zg Z 51)]) (rest := []) (c_X6_startAs gl Z v w 70 isW1 51 isW0 (by decide) n j h6 hj7 (CN.f hcn).2.2.2.1 (CN.f hcn).2.2.2.2.1) mi_X6_startAs ml_RX7_169 (cc_70) (by decide) kl6 rfl ⟨Nat.le_of_ble_eq_true rfl, Nat.le_of_ble_eq_true rfl⟩ rfl hl.1 rfl (Nat.le_of_ble_eq_true rfl) dX7_on_88) (fun v88 w88 H locs hp88 h => ?_)
            obtain ⟨hx88, hw88, hl688, hft88, hsw88⟩ := hp88
            obtain ⟨-, rfl⟩ := Prod.mk.inj hw88
            replace hx88 : xC v88 _ _ = _ := hx88
            replace hl688 : v88 _ 6 = _ := hl688
            replace hft88 : frT _ v88 _ := hft88
            replace hsw88 : stW v88 _ _ := hsw88
            obtain ⟨hs88, hc88, hX88⟩ := TC_start (scC_refl v) hcn hx88 hl688 hft88
            refine lv_aload_n hx hb dX7_on_91 rfl (lv_at hl 2 rfl) ?_
            refine g_getr X h (k := 2) (t := 70) (cc_0) fr_RX7_27 rfl (by decide) (by decide) (by decide) dX7_on_92 ?_
            refine lv_iload_n hx hb dX7_on_95 rfl (lv_at hl 3 rfl) ?_
            refine g_kv h (g_runV X h (As := [.int x0]) (rest := []) (c_X6_goDays gl Z v88 w x0 k hk 70 isW1 n B j L hc88 (by omega)) mi_X6_goDays ml_RX7_165 (cc_70) (by decide) kl6 rfl ⟨Nat.le_of_ble_eq_true rfl, Nat.le_of_ble_eq_true rfl⟩ rfl hl.1 rfl (Nat.le_of_ble_eq_true rfl) dX7_on_96) (fun v96 w96 H locs hp96 h => ?_)
            obtain ⟨hx96, hw96, hfd96⟩ := hp96
            obtain ⟨-, rfl⟩ := Prod.mk.inj hw96
            replace hx96 : xC v96 _ _ = _ := hx96
            replace hfd96 : frD _ v96 _ _ := hfd96
            rw [hX88] at hx96
            have hs96 := scC_trans hs88 (scC_D hj7 hfd96)
            refine lv_iload_n hx hb dX7_on_99 rfl (lv_at hl 1 rfl) ?_
            refine lv_if_eq (tgt := 119) hx hb dX7_on_100 (by decide) (fun c_100 => ?_) (fun c_100 => ?_)
            · skip
              refine lv_iload hx hb dX7_on_119 (lv_at hl 0 rfl) ?_
              refine lv_if_eq (tgt := 140) hx hb dX7_on_121 (by decide) (fun c_121 => ?_) (fun c_121 => ?_)
              · skip
                refine lv_iload_n hx hb dX7_on_140 rfl (lv_at hl 4 rfl) ?_
                refine lv_iconst (v := 2) hx hb dX7_on_141 (by decide) ?_
                refine lv_icmp_ne (tgt := 153) hx hb dX7_on_142 (by decide) (fun c_142 => ?_) (fun c_142 => ?_)
                · skip
                  refine lv_iload_n hx hb dX7_on_153 rfl (lv_at hl 4 rfl) ?_
                  refine lv_if_ne (tgt := 167) hx hb dX7_on_154 (by decide) (fun c_154 => ?_) (fun c_154 => ?_)
                  · skip
                    refine lv_aload_n hx hb dX7_on_167 rfl (lv_at hl 2 rfl) ?_
                    refine g_getr X h (k := 2) (t := 70) (cc_0) fr_RX7_27 rfl (by decide) (by decide) (by decide) dX7_on_168 ?_
                    refine g_geti X h (k := 2) (cc_70) fr_RX7_120 rfl (by decide) dX7_on_171 ?_
                    exact g_iret X h dX7_on_174 ⟨(by rw [sOn, if_pos (by simp [c_53]), if_pos c_74, hkc, onS, ← hx96]; rw [if_neg c_154, if_pos (by rcases inR_012 c_53 with z | z | z; exact absurd z c_154; exact z; exact absurd z c_142)]; rfl), rfl, hs96⟩
                  · skip
                    refine lv_aload_n hx hb dX7_on_157 rfl (lv_at hl 2 rfl) ?_
                    refine g_getr X h (k := 2) (t := 70) (cc_0) fr_RX7_27 rfl (by decide) (by decide) (by decide) dX7_on_158 ?_
                    refine g_geti X h (k := 1) (cc_70) fr_RX7_117 rfl (by decide) dX7_on_161 ?_
                    refine lv_goto (tgt := 174) hx hb dX7_on_164 (by decide) ?_
                    exact g_iret X h dX7_on_174 ⟨(by rw [sOn, if_pos (by simp [c_53]), if_pos c_74, hkc, onS, ← hx96]; rw [if_pos c_154]; rfl), rfl, hs96⟩
                · skip
                  refine lv_aload_n hx hb dX7_on_145 rfl (lv_at hl 2 rfl) ?_
                  refine g_getr X h (k := 2) (t := 70) (cc_0) fr_RX7_27 rfl (by decide) (by decide) (by decide) dX7_on_146 ?_
                  refine g_ki h (g_runV X h (As := []) (rest := []) (c_X6_letIn gl Z v96 w 70 isW1 n (B + k) j L (CW_day (by decide) hc88 hfd96 (by rw [hX88]; exact hx96) (by omega))) mi_X6_letIn ml_RX7_96 (cc_70) (by decide) kl6 rfl ⟨Nat.le_of_ble_eq_true rfl, Nat.le_of_ble_eq_true rfl⟩ rfl hl.1 rfl (Nat.le_of_ble_eq_true rfl) dX7_on_149) (fun r149 v149 w149 H locs hp149 h => ?_)
                  obtain ⟨hr149, hw149, hfl149, hwl149⟩ := hp149
                  obtain ⟨-, rfl⟩ := Prod.mk.inj hw149
                  replace hfl149 : frL _ v149 _ _ := hfl149
                  exact g_iret X h dX7_on_152 ⟨(by rw [sOn, if_pos (by simp [c_53]), if_pos c_74, hkc, onS, ← hx96]; rw [if_neg (by rw [c_142]; decide), if_neg (by rw [c_142]; decide), if_pos c_142]; exact hr149), rfl, scC_trans hs96 (scC_L1 hj7 hfl149)⟩
              · exact absurd rfl c_121
            · exact absurd rfl c_100
          · skip
            rw [hr71, bI_0] at c_74
            refine lv_bipush (v := (-2)) hx hb dX7_on_77 (by decide) ?_
            exact g_iret X h dX7_on_79 ⟨by rw [sOn, if_pos (by simp [c_53]), if_neg (by rw [c_74]; simp)], rfl, scC_refl v⟩
        · skip
          rw [hr50, bI_0] at c_53
          refine lv_iload_n hx hb dX7_on_56 rfl (lv_at hl 1 rfl) ?_
          refine lv_if_ne (tgt := 67) hx hb dX7_on_57 (by decide) (fun c_57 => ?_) (fun c_57 => ?_)
          · exact absurd rfl c_57
          · skip
            refine lv_iload hx hb dX7_on_60 (lv_at hl 0 rfl) ?_
            refine lv_if_ne (tgt := 67) hx hb dX7_on_62 (by decide) (fun c_62 => ?_) (fun c_62 => ?_)
            · exact absurd rfl c_62
            · skip
              refine lv_iconst (v := (-1)) hx hb dX7_on_65 (by decide) ?_
              exact g_iret X h dX7_on_66 ⟨by simp [sOn, hT, hG, c_53], rfl, scC_refl v⟩
      · skip
        rw [hr34, bI_n] at c_37
        have hG : isP (nI n) (x1 - 20) = true := c_37
        refine lv_iconst (v := 1) hx hb dX7_on_40 (by decide) ?_
        refine lv_goto (tgt := 45) hx hb dX7_on_41 (by decide) ?_
        refine lv_istore (lv' := [(4, .int 1), (3, .int 0), (0, .ref (zg Z 0)), (1, .int x0), (2, .int x1)]) hx hb dX7_on_45 hl (by decide) rfl (fun ls hl => ?_)
        refine lv_iload_n hx hb dX7_on_47 rfl (lv_at hl 4 rfl) ?_
        refine lv_iconst (v := 0) hx hb dX7_on_48 (by decide) ?_
        refine lv_iconst (v := 2) hx hb dX7_on_49 (by decide) ?_
        refine g_ki h (g_runS X h (As := [.int x1, .int 0, .int 2]) (rest := []) (c_X7_isWithin gl Z v w x1 0 2) ms_X7_isWithin ml_RX7_58 ⟨Nat.le_of_ble_eq_true rfl, Nat.le_of_ble_eq_true rfl⟩ rfl hl.1 rfl (Nat.le_of_ble_eq_true rfl) dX7_on_50) (fun r50 v50 w50 H locs hp50 h => ?_)
        obtain ⟨hr50, hu50⟩ := hp50; obtain ⟨rfl, rfl⟩ := Prod.mk.inj hu50
        refine lv_if_ne (tgt := 67) hx hb dX7_on_53 (by decide) (fun c_53 => ?_) (fun c_53 => ?_)
        · skip
          rw [hr50, bI_n] at c_53
          refine lv_iload_n hx hb dX7_on_67 rfl (lv_at hl 3 rfl) ?_
          refine lv_iconst (v := 0) hx hb dX7_on_68 (by decide) ?_
          refine lv_bipush (v := 60) hx hb dX7_on_69 (by decide) ?_
          refine g_ki h (g_runS X h (As := [.int x0, .int 0, .int 60]) (rest := []) (c_X7_isWithin gl Z v w x0 0 60) ms_X7_isWithin ml_RX7_58 ⟨Nat.le_of_ble_eq_true rfl, Nat.le_of_ble_eq_true rfl⟩ rfl hl.1 rfl (Nat.le_of_ble_eq_true rfl) dX7_on_71) (fun r71 v71 w71 H locs hp71 h => ?_)
          obtain ⟨hr71, hu71⟩ := hp71; obtain ⟨rfl, rfl⟩ := Prod.mk.inj hu71
          refine lv_if_ne (tgt := 80) hx hb dX7_on_74 (by decide) (fun c_74 => ?_) (fun c_74 => ?_)
          · skip
            rw [hr71, bI_n] at c_74
            obtain ⟨k, hk, hk0, hk60, hkc⟩ := inR_nat (a := 0) (b := 60) rfl rfl (by decide) c_74
            refine lv_aload_n hx hb dX7_on_80 rfl (lv_at hl 2 rfl) ?_
            refine g_getr X h (k := 2) (t := 70) (cc_0) fr_RX7_27 rfl (by decide) (by decide) (by decide) dX7_on_81 ?_
            refine lv_aload_n hx hb dX7_on_84 rfl (lv_at hl 2 rfl) ?_
            refine g_getr X h (k := 1) (t := 51) (cc_0) fr_RX7_23 rfl (by decide) (by decide) (by decide) dX7_on_85 ?_
            refine g_kv h (g_runV X h (As := [.ref (zg Z 51)]) (rest := []) (c_X6_startAs gl Z v w 70 isW1 51 isW0 (by decide) n j h6 hj7 (CN.f hcn).2.2.2.1 (CN.f hcn).2.2.2.2.1) mi_X6_startAs ml_RX7_169 (cc_70) (by decide) kl6 rfl ⟨Nat.le_of_ble_eq_true rfl, Nat.le_of_ble_eq_true rfl⟩ rfl hl.1 rfl (Nat.le_of_ble_eq_true rfl) dX7_on_88) (fun v88 w88 H locs hp88 h => ?_)
            obtain ⟨hx88, hw88, hl688, hft88, hsw88⟩ := hp88
            obtain ⟨-, rfl⟩ := Prod.mk.inj hw88
            replace hx88 : xC v88 _ _ = _ := hx88
            replace hl688 : v88 _ 6 = _ := hl688
            replace hft88 : frT _ v88 _ := hft88
            replace hsw88 : stW v88 _ _ := hsw88
            obtain ⟨hs88, hc88, hX88⟩ := TC_start (scC_refl v) hcn hx88 hl688 hft88
            refine lv_aload_n hx hb dX7_on_91 rfl (lv_at hl 2 rfl) ?_
            refine g_getr X h (k := 2) (t := 70) (cc_0) fr_RX7_27 rfl (by decide) (by decide) (by decide) dX7_on_92 ?_
            refine lv_iload_n hx hb dX7_on_95 rfl (lv_at hl 3 rfl) ?_
            refine g_kv h (g_runV X h (As := [.int x0]) (rest := []) (c_X6_goDays gl Z v88 w x0 k hk 70 isW1 n B j L hc88 (by omega)) mi_X6_goDays ml_RX7_165 (cc_70) (by decide) kl6 rfl ⟨Nat.le_of_ble_eq_true rfl, Nat.le_of_ble_eq_true rfl⟩ rfl hl.1 rfl (Nat.le_of_ble_eq_true rfl) dX7_on_96) (fun v96 w96 H locs hp96 h => ?_)
            obtain ⟨hx96, hw96, hfd96⟩ := hp96
            obtain ⟨-, rfl⟩ := Prod.mk.inj hw96
            replace hx96 : xC v96 _ _ = _ := hx96
            replace hfd96 : frD _ v96 _ _ := hfd96
            rw [hX88] at hx96
            have hs96 := scC_trans hs88 (scC_D hj7 hfd96)
            refine lv_iload_n hx hb dX7_on_99 rfl (lv_at hl 1 rfl) ?_
            refine lv_if_eq (tgt := 119) hx hb dX7_on_100 (by decide) (fun c_100 => ?_) (fun c_100 => ?_)
            · skip
              refine lv_iload hx hb dX7_on_119 (lv_at hl 0 rfl) ?_
              refine lv_if_eq (tgt := 140) hx hb dX7_on_121 (by decide) (fun c_121 => ?_) (fun c_121 => ?_)
              · exact absurd c_121 (by decide)
              · skip
                obtain ⟨kx, hkx, hkxn, hkxc⟩ := isP_nat (by omega) hG
                have h012 : ¬ x1 = 0 ∧ ¬ x1 = 1 ∧ ¬ x1 = 2 := ⟨fun z => c_26 (by rw [z]; decide), fun z => c_26 (by rw [z]; decide), fun z => c_26 (by rw [z]; decide)⟩
                refine lv_aload_n hx hb dX7_on_124 rfl (lv_at hl 2 rfl) ?_
                refine g_getr X h (k := 2) (t := 70) (cc_0) fr_RX7_27 rfl (by decide) (by decide) (by decide) dX7_on_125 ?_
                refine g_getr X h (k := 0) (t := 71) (cc_70) fr_RX7_62 rfl (by decide) (by decide) (by decide) dX7_on_128 ?_
                refine g_getr X h (k := 5) (t := 76) (cc_71) fr_RX7_90 rfl (by decide) (by decide) (by decide) dX7_on_131 ?_
                refine lv_iload_n hx hb dX7_on_134 rfl (lv_at hl 4 rfl) ?_
                refine lv_bipush (v := 20) hx hb dX7_on_135 (by decide) ?_
                refine lv_isub hx hb dX7_on_137 ?_
                refine g_iald X h (k := kx) (cc_76) hkx (by omega) (by decide) dX7_on_138 ?_
                exact g_iret X h dX7_on_139 ⟨(by rw [sOn, if_pos (by simp [hG]), if_pos c_74, hkc, onS, ← hx96]; rw [if_neg h012.1, if_neg h012.2.1, if_neg h012.2.2, if_neg (by rw [hT]; simp), hkxc]; exact (xC_got (v := v96) (b := 70) (n := n) (by omega)).symm), rfl, hs96⟩
            · exact absurd rfl c_100
          · skip
            rw [hr71, bI_0] at c_74
            refine lv_bipush (v := (-2)) hx hb dX7_on_77 (by decide) ?_
            exact g_iret X h dX7_on_79 ⟨by rw [sOn, if_pos (by simp [hG]), if_neg (by rw [c_74]; simp)], rfl, scC_refl v⟩
        · skip
          rw [hr50, bI_0] at c_53
          refine lv_iload_n hx hb dX7_on_56 rfl (lv_at hl 1 rfl) ?_
          refine lv_if_ne (tgt := 67) hx hb dX7_on_57 (by decide) (fun c_57 => ?_) (fun c_57 => ?_)
          · exact absurd rfl c_57
          · skip
            refine lv_iload hx hb dX7_on_60 (lv_at hl 0 rfl) ?_
            refine lv_if_ne (tgt := 67) hx hb dX7_on_62 (by decide) (fun c_62 => ?_) (fun c_62 => ?_)
            · skip
              refine lv_iload_n hx hb dX7_on_67 rfl (lv_at hl 3 rfl) ?_
              refine lv_iconst (v := 0) hx hb dX7_on_68 (by decide) ?_
              refine lv_bipush (v := 60) hx hb dX7_on_69 (by decide) ?_
              refine g_ki h (g_runS X h (As := [.int x0, .int 0, .int 60]) (rest := []) (c_X7_isWithin gl Z v w x0 0 60) ms_X7_isWithin ml_RX7_58 ⟨Nat.le_of_ble_eq_true rfl, Nat.le_of_ble_eq_true rfl⟩ rfl hl.1 rfl (Nat.le_of_ble_eq_true rfl) dX7_on_71) (fun r71 v71 w71 H locs hp71 h => ?_)
              obtain ⟨hr71, hu71⟩ := hp71; obtain ⟨rfl, rfl⟩ := Prod.mk.inj hu71
              refine lv_if_ne (tgt := 80) hx hb dX7_on_74 (by decide) (fun c_74 => ?_) (fun c_74 => ?_)
              · skip
                rw [hr71, bI_n] at c_74
                obtain ⟨k, hk, hk0, hk60, hkc⟩ := inR_nat (a := 0) (b := 60) rfl rfl (by decide) c_74
                refine lv_aload_n hx hb dX7_on_80 rfl (lv_at hl 2 rfl) ?_
                refine g_getr X h (k := 2) (t := 70) (cc_0) fr_RX7_27 rfl (by decide) (by decide) (by decide) dX7_on_81 ?_
                refine lv_aload_n hx hb dX7_on_84 rfl (lv_at hl 2 rfl) ?_
                refine g_getr X h (k := 1) (t := 51) (cc_0) fr_RX7_23 rfl (by decide) (by decide) (by decide) dX7_on_85 ?_
                refine g_kv h (g_runV X h (As := [.ref (zg Z 51)]) (rest := []) (c_X6_startAs gl Z v w 70 isW1 51 isW0 (by decide) n j h6 hj7 (CN.f hcn).2.2.2.1 (CN.f hcn).2.2.2.2.1) mi_X6_startAs ml_RX7_169 (cc_70) (by decide) kl6 rfl ⟨Nat.le_of_ble_eq_true rfl, Nat.le_of_ble_eq_true rfl⟩ rfl hl.1 rfl (Nat.le_of_ble_eq_true rfl) dX7_on_88) (fun v88 w88 H locs hp88 h => ?_)
                obtain ⟨hx88, hw88, hl688, hft88, hsw88⟩ := hp88
                obtain ⟨-, rfl⟩ := Prod.mk.inj hw88
                replace hx88 : xC v88 _ _ = _ := hx88
                replace hl688 : v88 _ 6 = _ := hl688
                replace hft88 : frT _ v88 _ := hft88
                replace hsw88 : stW v88 _ _ := hsw88
                obtain ⟨hs88, hc88, hX88⟩ := TC_start (scC_refl v) hcn hx88 hl688 hft88
                refine lv_aload_n hx hb dX7_on_91 rfl (lv_at hl 2 rfl) ?_
                refine g_getr X h (k := 2) (t := 70) (cc_0) fr_RX7_27 rfl (by decide) (by decide) (by decide) dX7_on_92 ?_
                refine lv_iload_n hx hb dX7_on_95 rfl (lv_at hl 3 rfl) ?_
                refine g_kv h (g_runV X h (As := [.int x0]) (rest := []) (c_X6_goDays gl Z v88 w x0 k hk 70 isW1 n B j L hc88 (by omega)) mi_X6_goDays ml_RX7_165 (cc_70) (by decide) kl6 rfl ⟨Nat.le_of_ble_eq_true rfl, Nat.le_of_ble_eq_true rfl⟩ rfl hl.1 rfl (Nat.le_of_ble_eq_true rfl) dX7_on_96) (fun v96 w96 H locs hp96 h => ?_)
                obtain ⟨hx96, hw96, hfd96⟩ := hp96
                obtain ⟨-, rfl⟩ := Prod.mk.inj hw96
                replace hx96 : xC v96 _ _ = _ := hx96
                replace hfd96 : frD _ v96 _ _ := hfd96
                rw [hX88] at hx96
                have hs96 := scC_trans hs88 (scC_D hj7 hfd96)
                refine lv_iload_n hx hb dX7_on_99 rfl (lv_at hl 1 rfl) ?_
                refine lv_if_eq (tgt := 119) hx hb dX7_on_100 (by decide) (fun c_100 => ?_) (fun c_100 => ?_)
                · skip
                  refine lv_iload hx hb dX7_on_119 (lv_at hl 0 rfl) ?_
                  refine lv_if_eq (tgt := 140) hx hb dX7_on_121 (by decide) (fun c_121 => ?_) (fun c_121 => ?_)
                  · exact absurd c_121 (by decide)
                  · skip
                    obtain ⟨kx, hkx, hkxn, hkxc⟩ := isP_nat (by omega) hG
                    have h012 : ¬ x1 = 0 ∧ ¬ x1 = 1 ∧ ¬ x1 = 2 := ⟨fun z => c_26 (by rw [z]; decide), fun z => c_26 (by rw [z]; decide), fun z => c_26 (by rw [z]; decide)⟩
                    refine lv_aload_n hx hb dX7_on_124 rfl (lv_at hl 2 rfl) ?_
                    refine g_getr X h (k := 2) (t := 70) (cc_0) fr_RX7_27 rfl (by decide) (by decide) (by decide) dX7_on_125 ?_
                    refine g_getr X h (k := 0) (t := 71) (cc_70) fr_RX7_62 rfl (by decide) (by decide) (by decide) dX7_on_128 ?_
                    refine g_getr X h (k := 5) (t := 76) (cc_71) fr_RX7_90 rfl (by decide) (by decide) (by decide) dX7_on_131 ?_
                    refine lv_iload_n hx hb dX7_on_134 rfl (lv_at hl 4 rfl) ?_
                    refine lv_bipush (v := 20) hx hb dX7_on_135 (by decide) ?_
                    refine lv_isub hx hb dX7_on_137 ?_
                    refine g_iald X h (k := kx) (cc_76) hkx (by omega) (by decide) dX7_on_138 ?_
                    exact g_iret X h dX7_on_139 ⟨(by rw [sOn, if_pos (by simp [hG]), if_pos c_74, hkc, onS, ← hx96]; rw [if_neg h012.1, if_neg h012.2.1, if_neg h012.2.2, if_neg (by rw [hT]; simp), hkxc]; exact (xC_got (v := v96) (b := 70) (n := n) (by omega)).symm), rfl, hs96⟩
                · exact absurd rfl c_100
              · skip
                rw [hr71, bI_0] at c_74
                refine lv_bipush (v := (-2)) hx hb dX7_on_77 (by decide) ?_
                exact g_iret X h dX7_on_79 ⟨by rw [sOn, if_pos (by simp [hG]), if_neg (by rw [c_74]; simp)], rfl, scC_refl v⟩
            · exact absurd c_62 (by decide)
  · skip
    refine lv_aload_n hx hb dX7_on_6 rfl (lv_at hl 0 rfl) ?_
    refine lv_iload_n hx hb dX7_on_7 rfl (lv_at hl 2 rfl) ?_
    refine lv_bipush (v := 10) hx hb dX7_on_8 (by decide) ?_
    refine lv_isub hx hb dX7_on_10 ?_
    refine g_ki h (g_runV X h (As := [.int (x1 - 10)]) (rest := []) (c_X7_isPerson gl Z v w (x1 - 10) n hn h6) mi_X7_isPerson ml_RX7_76 (cc_0) (by decide) kl7 rfl ⟨Nat.le_of_ble_eq_true rfl, Nat.le_of_ble_eq_true rfl⟩ rfl hl.1 rfl (Nat.le_of_ble_eq_true rfl) dX7_on_11) (fun r11 v11 w11 H locs hp11 h => ?_)
    obtain ⟨hr11, hu11⟩ := hp11; obtain ⟨rfl, rfl⟩ := Prod.mk.inj hu11
    refine lv_if_eq (tgt := 21) hx hb dX7_on_14 (by decide) (fun c_14 => ?_) (fun c_14 => ?_)
    · skip
      rw [hr11, bI_0] at c_14
      have hT : isP (nI n) (x1 - 10) = false := c_14
      refine lv_iconst (v := 0) hx hb dX7_on_21 (by decide) ?_
      refine lv_istore_n (lv' := [(3, .int 0), (0, .ref (zg Z 0)), (1, .int x0), (2, .int x1)]) hx hb dX7_on_22 rfl hl (by decide) rfl (fun ls hl => ?_)
      refine lv_iload_n hx hb dX7_on_23 rfl (lv_at hl 3 rfl) ?_
      refine lv_bipush (v := 20) hx hb dX7_on_24 (by decide) ?_
      refine lv_icmp_lt (tgt := 44) hx hb dX7_on_26 (by decide) (fun c_26 => ?_) (fun c_26 => ?_)
      · skip
        have hG : isP (nI n) (x1 - 20) = false := isP_lo (c := 20) h6 (by decide) c_26
        refine lv_iconst (v := 0) hx hb dX7_on_44 (by decide) ?_
        refine lv_istore (lv' := [(4, .int 0), (3, .int 0), (0, .ref (zg Z 0)), (1, .int x0), (2, .int x1)]) hx hb dX7_on_45 hl (by decide) rfl (fun ls hl => ?_)
        refine lv_iload_n hx hb dX7_on_47 rfl (lv_at hl 4 rfl) ?_
        refine lv_iconst (v := 0) hx hb dX7_on_48 (by decide) ?_
        refine lv_iconst (v := 2) hx hb dX7_on_49 (by decide) ?_
        refine g_ki h (g_runS X h (As := [.int x1, .int 0, .int 2]) (rest := []) (c_X7_isWithin gl Z v w x1 0 2) ms_X7_isWithin ml_RX7_58 ⟨Nat.le_of_ble_eq_true rfl, Nat.le_of_ble_eq_true rfl⟩ rfl hl.1 rfl (Nat.le_of_ble_eq_true rfl) dX7_on_50) (fun r50 v50 w50 H locs hp50 h => ?_)
        obtain ⟨hr50, hu50⟩ := hp50; obtain ⟨rfl, rfl⟩ := Prod.mk.inj hu50
        refine lv_if_ne (tgt := 67) hx hb dX7_on_53 (by decide) (fun c_53 => ?_) (fun c_53 => ?_)
        · skip
          rw [hr50, bI_n] at c_53
          refine lv_iload_n hx hb dX7_on_67 rfl (lv_at hl 3 rfl) ?_
          refine lv_iconst (v := 0) hx hb dX7_on_68 (by decide) ?_
          refine lv_bipush (v := 60) hx hb dX7_on_69 (by decide) ?_
          refine g_ki h (g_runS X h (As := [.int x0, .int 0, .int 60]) (rest := []) (c_X7_isWithin gl Z v w x0 0 60) ms_X7_isWithin ml_RX7_58 ⟨Nat.le_of_ble_eq_true rfl, Nat.le_of_ble_eq_true rfl⟩ rfl hl.1 rfl (Nat.le_of_ble_eq_true rfl) dX7_on_71) (fun r71 v71 w71 H locs hp71 h => ?_)
          obtain ⟨hr71, hu71⟩ := hp71; obtain ⟨rfl, rfl⟩ := Prod.mk.inj hu71
          refine lv_if_ne (tgt := 80) hx hb dX7_on_74 (by decide) (fun c_74 => ?_) (fun c_74 => ?_)
          · skip
            rw [hr71, bI_n] at c_74
            obtain ⟨k, hk, hk0, hk60, hkc⟩ := inR_nat (a := 0) (b := 60) rfl rfl (by decide) c_74
            refine lv_aload_n hx hb dX7_on_80 rfl (lv_at hl 2 rfl) ?_
            refine g_getr X h (k := 2) (t := 70) (cc_0) fr_RX7_27 rfl (by decide) (by decide) (by decide) dX7_on_81 ?_
            refine lv_aload_n hx hb dX7_on_84 rfl (lv_at hl 2 rfl) ?_
            refine g_getr X h (k := 1) (t := 51) (cc_0) fr_RX7_23 rfl (by decide) (by decide) (by decide) dX7_on_85 ?_
            refine g_kv h (g_runV X h (As := [.ref (zg Z 51)]) (rest := []) (c_X6_startAs gl Z v w 70 isW1 51 isW0 (by decide) n j h6 hj7 (CN.f hcn).2.2.2.1 (CN.f hcn).2.2.2.2.1) mi_X6_startAs ml_RX7_169 (cc_70) (by decide) kl6 rfl ⟨Nat.le_of_ble_eq_true rfl, Nat.le_of_ble_eq_true rfl⟩ rfl hl.1 rfl (Nat.le_of_ble_eq_true rfl) dX7_on_88) (fun v88 w88 H locs hp88 h => ?_)
            obtain ⟨hx88, hw88, hl688, hft88, hsw88⟩ := hp88
            obtain ⟨-, rfl⟩ := Prod.mk.inj hw88
            replace hx88 : xC v88 _ _ = _ := hx88
            replace hl688 : v88 _ 6 = _ := hl688
            replace hft88 : frT _ v88 _ := hft88
            replace hsw88 : stW v88 _ _ := hsw88
            obtain ⟨hs88, hc88, hX88⟩ := TC_start (scC_refl v) hcn hx88 hl688 hft88
            refine lv_aload_n hx hb dX7_on_91 rfl (lv_at hl 2 rfl) ?_
            refine g_getr X h (k := 2) (t := 70) (cc_0) fr_RX7_27 rfl (by decide) (by decide) (by decide) dX7_on_92 ?_
            refine lv_iload_n hx hb dX7_on_95 rfl (lv_at hl 3 rfl) ?_
            refine g_kv h (g_runV X h (As := [.int x0]) (rest := []) (c_X6_goDays gl Z v88 w x0 k hk 70 isW1 n B j L hc88 (by omega)) mi_X6_goDays ml_RX7_165 (cc_70) (by decide) kl6 rfl ⟨Nat.le_of_ble_eq_true rfl, Nat.le_of_ble_eq_true rfl⟩ rfl hl.1 rfl (Nat.le_of_ble_eq_true rfl) dX7_on_96) (fun v96 w96 H locs hp96 h => ?_)
            obtain ⟨hx96, hw96, hfd96⟩ := hp96
            obtain ⟨-, rfl⟩ := Prod.mk.inj hw96
            replace hx96 : xC v96 _ _ = _ := hx96
            replace hfd96 : frD _ v96 _ _ := hfd96
            rw [hX88] at hx96
            have hs96 := scC_trans hs88 (scC_D hj7 hfd96)
            refine lv_iload_n hx hb dX7_on_99 rfl (lv_at hl 1 rfl) ?_
            refine lv_if_eq (tgt := 119) hx hb dX7_on_100 (by decide) (fun c_100 => ?_) (fun c_100 => ?_)
            · skip
              refine lv_iload hx hb dX7_on_119 (lv_at hl 0 rfl) ?_
              refine lv_if_eq (tgt := 140) hx hb dX7_on_121 (by decide) (fun c_121 => ?_) (fun c_121 => ?_)
              · skip
                refine lv_iload_n hx hb dX7_on_140 rfl (lv_at hl 4 rfl) ?_
                refine lv_iconst (v := 2) hx hb dX7_on_141 (by decide) ?_
                refine lv_icmp_ne (tgt := 153) hx hb dX7_on_142 (by decide) (fun c_142 => ?_) (fun c_142 => ?_)
                · skip
                  refine lv_iload_n hx hb dX7_on_153 rfl (lv_at hl 4 rfl) ?_
                  refine lv_if_ne (tgt := 167) hx hb dX7_on_154 (by decide) (fun c_154 => ?_) (fun c_154 => ?_)
                  · skip
                    refine lv_aload_n hx hb dX7_on_167 rfl (lv_at hl 2 rfl) ?_
                    refine g_getr X h (k := 2) (t := 70) (cc_0) fr_RX7_27 rfl (by decide) (by decide) (by decide) dX7_on_168 ?_
                    refine g_geti X h (k := 2) (cc_70) fr_RX7_120 rfl (by decide) dX7_on_171 ?_
                    exact g_iret X h dX7_on_174 ⟨(by rw [sOn, if_pos (by simp [c_53]), if_pos c_74, hkc, onS, ← hx96]; rw [if_neg c_154, if_pos (by rcases inR_012 c_53 with z | z | z; exact absurd z c_154; exact z; exact absurd z c_142)]; rfl), rfl, hs96⟩
                  · skip
                    refine lv_aload_n hx hb dX7_on_157 rfl (lv_at hl 2 rfl) ?_
                    refine g_getr X h (k := 2) (t := 70) (cc_0) fr_RX7_27 rfl (by decide) (by decide) (by decide) dX7_on_158 ?_
                    refine g_geti X h (k := 1) (cc_70) fr_RX7_117 rfl (by decide) dX7_on_161 ?_
                    refine lv_goto (tgt := 174) hx hb dX7_on_164 (by decide) ?_
                    exact g_iret X h dX7_on_174 ⟨(by rw [sOn, if_pos (by simp [c_53]), if_pos c_74, hkc, onS, ← hx96]; rw [if_pos c_154]; rfl), rfl, hs96⟩
                · skip
                  refine lv_aload_n hx hb dX7_on_145 rfl (lv_at hl 2 rfl) ?_
                  refine g_getr X h (k := 2) (t := 70) (cc_0) fr_RX7_27 rfl (by decide) (by decide) (by decide) dX7_on_146 ?_
                  refine g_ki h (g_runV X h (As := []) (rest := []) (c_X6_letIn gl Z v96 w 70 isW1 n (B + k) j L (CW_day (by decide) hc88 hfd96 (by rw [hX88]; exact hx96) (by omega))) mi_X6_letIn ml_RX7_96 (cc_70) (by decide) kl6 rfl ⟨Nat.le_of_ble_eq_true rfl, Nat.le_of_ble_eq_true rfl⟩ rfl hl.1 rfl (Nat.le_of_ble_eq_true rfl) dX7_on_149) (fun r149 v149 w149 H locs hp149 h => ?_)
                  obtain ⟨hr149, hw149, hfl149, hwl149⟩ := hp149
                  obtain ⟨-, rfl⟩ := Prod.mk.inj hw149
                  replace hfl149 : frL _ v149 _ _ := hfl149
                  exact g_iret X h dX7_on_152 ⟨(by rw [sOn, if_pos (by simp [c_53]), if_pos c_74, hkc, onS, ← hx96]; rw [if_neg (by rw [c_142]; decide), if_neg (by rw [c_142]; decide), if_pos c_142]; exact hr149), rfl, scC_trans hs96 (scC_L1 hj7 hfl149)⟩
              · exact absurd rfl c_121
            · exact absurd rfl c_100
          · skip
            rw [hr71, bI_0] at c_74
            refine lv_bipush (v := (-2)) hx hb dX7_on_77 (by decide) ?_
            exact g_iret X h dX7_on_79 ⟨by rw [sOn, if_pos (by simp [c_53]), if_neg (by rw [c_74]; simp)], rfl, scC_refl v⟩
        · skip
          rw [hr50, bI_0] at c_53
          refine lv_iload_n hx hb dX7_on_56 rfl (lv_at hl 1 rfl) ?_
          refine lv_if_ne (tgt := 67) hx hb dX7_on_57 (by decide) (fun c_57 => ?_) (fun c_57 => ?_)
          · exact absurd rfl c_57
          · skip
            refine lv_iload hx hb dX7_on_60 (lv_at hl 0 rfl) ?_
            refine lv_if_ne (tgt := 67) hx hb dX7_on_62 (by decide) (fun c_62 => ?_) (fun c_62 => ?_)
            · exact absurd rfl c_62
            · skip
              refine lv_iconst (v := (-1)) hx hb dX7_on_65 (by decide) ?_
              exact g_iret X h dX7_on_66 ⟨by simp [sOn, hT, hG, c_53], rfl, scC_refl v⟩
      · skip
        refine lv_aload_n hx hb dX7_on_29 rfl (lv_at hl 1 rfl) ?_
        refine lv_iload_n hx hb dX7_on_30 rfl (lv_at hl 3 rfl) ?_
        refine lv_bipush (v := 20) hx hb dX7_on_31 (by decide) ?_
        refine lv_isub hx hb dX7_on_33 ?_
        refine g_ki h (g_runV X h (As := [.int (x1 - 20)]) (rest := []) (c_X7_isPerson gl Z v w (x1 - 20) n hn h6) mi_X7_isPerson ml_RX7_76 (cc_0) (by decide) kl7 rfl ⟨Nat.le_of_ble_eq_true rfl, Nat.le_of_ble_eq_true rfl⟩ rfl hl.1 rfl (Nat.le_of_ble_eq_true rfl) dX7_on_34) (fun r34 v34 w34 H locs hp34 h => ?_)
        obtain ⟨hr34, hu34⟩ := hp34; obtain ⟨rfl, rfl⟩ := Prod.mk.inj hu34
        refine lv_if_eq (tgt := 44) hx hb dX7_on_37 (by decide) (fun c_37 => ?_) (fun c_37 => ?_)
        · skip
          rw [hr34, bI_0] at c_37
          have hG : isP (nI n) (x1 - 20) = false := c_37
          refine lv_iconst (v := 0) hx hb dX7_on_44 (by decide) ?_
          refine lv_istore (lv' := [(4, .int 0), (3, .int 0), (0, .ref (zg Z 0)), (1, .int x0), (2, .int x1)]) hx hb dX7_on_45 hl (by decide) rfl (fun ls hl => ?_)
          refine lv_iload_n hx hb dX7_on_47 rfl (lv_at hl 4 rfl) ?_
          refine lv_iconst (v := 0) hx hb dX7_on_48 (by decide) ?_
          refine lv_iconst (v := 2) hx hb dX7_on_49 (by decide) ?_
          refine g_ki h (g_runS X h (As := [.int x1, .int 0, .int 2]) (rest := []) (c_X7_isWithin gl Z v w x1 0 2) ms_X7_isWithin ml_RX7_58 ⟨Nat.le_of_ble_eq_true rfl, Nat.le_of_ble_eq_true rfl⟩ rfl hl.1 rfl (Nat.le_of_ble_eq_true rfl) dX7_on_50) (fun r50 v50 w50 H locs hp50 h => ?_)
          obtain ⟨hr50, hu50⟩ := hp50; obtain ⟨rfl, rfl⟩ := Prod.mk.inj hu50
          refine lv_if_ne (tgt := 67) hx hb dX7_on_53 (by decide) (fun c_53 => ?_) (fun c_53 => ?_)
          · skip
            rw [hr50, bI_n] at c_53
            refine lv_iload_n hx hb dX7_on_67 rfl (lv_at hl 3 rfl) ?_
            refine lv_iconst (v := 0) hx hb dX7_on_68 (by decide) ?_
            refine lv_bipush (v := 60) hx hb dX7_on_69 (by decide) ?_
            refine g_ki h (g_runS X h (As := [.int x0, .int 0, .int 60]) (rest := []) (c_X7_isWithin gl Z v w x0 0 60) ms_X7_isWithin ml_RX7_58 ⟨Nat.le_of_ble_eq_true rfl, Nat.le_of_ble_eq_true rfl⟩ rfl hl.1 rfl (Nat.le_of_ble_eq_true rfl) dX7_on_71) (fun r71 v71 w71 H locs hp71 h => ?_)
            obtain ⟨hr71, hu71⟩ := hp71; obtain ⟨rfl, rfl⟩ := Prod.mk.inj hu71
            refine lv_if_ne (tgt := 80) hx hb dX7_on_74 (by decide) (fun c_74 => ?_) (fun c_74 => ?_)
            · skip
              rw [hr71, bI_n] at c_74
              obtain ⟨k, hk, hk0, hk60, hkc⟩ := inR_nat (a := 0) (b := 60) rfl rfl (by decide) c_74
              refine lv_aload_n hx hb dX7_on_80 rfl (lv_at hl 2 rfl) ?_
              refine g_getr X h (k := 2) (t := 70) (cc_0) fr_RX7_27 rfl (by decide) (by decide) (by decide) dX7_on_81 ?_
              refine lv_aload_n hx hb dX7_on_84 rfl (lv_at hl 2 rfl) ?_
              refine g_getr X h (k := 1) (t := 51) (cc_0) fr_RX7_23 rfl (by decide) (by decide) (by decide) dX7_on_85 ?_
              refine g_kv h (g_runV X h (As := [.ref (zg Z 51)]) (rest := []) (c_X6_startAs gl Z v w 70 isW1 51 isW0 (by decide) n j h6 hj7 (CN.f hcn).2.2.2.1 (CN.f hcn).2.2.2.2.1) mi_X6_startAs ml_RX7_169 (cc_70) (by decide) kl6 rfl ⟨Nat.le_of_ble_eq_true rfl, Nat.le_of_ble_eq_true rfl⟩ rfl hl.1 rfl (Nat.le_of_ble_eq_true rfl) dX7_on_88) (fun v88 w88 H locs hp88 h => ?_)
              obtain ⟨hx88, hw88, hl688, hft88, hsw88⟩ := hp88
              obtain ⟨-, rfl⟩ := Prod.mk.inj hw88
              replace hx88 : xC v88 _ _ = _ := hx88
              replace hl688 : v88 _ 6 = _ := hl688
              replace hft88 : frT _ v88 _ := hft88
              replace hsw88 : stW v88 _ _ := hsw88
              obtain ⟨hs88, hc88, hX88⟩ := TC_start (scC_refl v) hcn hx88 hl688 hft88
              refine lv_aload_n hx hb dX7_on_91 rfl (lv_at hl 2 rfl) ?_
              refine g_getr X h (k := 2) (t := 70) (cc_0) fr_RX7_27 rfl (by decide) (by decide) (by decide) dX7_on_92 ?_
              refine lv_iload_n hx hb dX7_on_95 rfl (lv_at hl 3 rfl) ?_
              refine g_kv h (g_runV X h (As := [.int x0]) (rest := []) (c_X6_goDays gl Z v88 w x0 k hk 70 isW1 n B j L hc88 (by omega)) mi_X6_goDays ml_RX7_165 (cc_70) (by decide) kl6 rfl ⟨Nat.le_of_ble_eq_true rfl, Nat.le_of_ble_eq_true rfl⟩ rfl hl.1 rfl (Nat.le_of_ble_eq_true rfl) dX7_on_96) (fun v96 w96 H locs hp96 h => ?_)
              obtain ⟨hx96, hw96, hfd96⟩ := hp96
              obtain ⟨-, rfl⟩ := Prod.mk.inj hw96
              replace hx96 : xC v96 _ _ = _ := hx96
              replace hfd96 : frD _ v96 _ _ := hfd96
              rw [hX88] at hx96
              have hs96 := scC_trans hs88 (scC_D hj7 hfd96)
              refine lv_iload_n hx hb dX7_on_99 rfl (lv_at hl 1 rfl) ?_
              refine lv_if_eq (tgt := 119) hx hb dX7_on_100 (by decide) (fun c_100 => ?_) (fun c_100 => ?_)
              · skip
                refine lv_iload hx hb dX7_on_119 (lv_at hl 0 rfl) ?_
                refine lv_if_eq (tgt := 140) hx hb dX7_on_121 (by decide) (fun c_121 => ?_) (fun c_121 => ?_)
                · skip
                  refine lv_iload_n hx hb dX7_on_140 rfl (lv_at hl 4 rfl) ?_
                  refine lv_iconst (v := 2) hx hb dX7_on_141 (by decide) ?_
                  refine lv_icmp_ne (tgt := 153) hx hb dX7_on_142 (by decide) (fun c_142 => ?_) (fun c_142 => ?_)
                  · skip
                    refine lv_iload_n hx hb dX7_on_153 rfl (lv_at hl 4 rfl) ?_
                    refine lv_if_ne (tgt := 167) hx hb dX7_on_154 (by decide) (fun c_154 => ?_) (fun c_154 => ?_)
                    · skip
                      refine lv_aload_n hx hb dX7_on_167 rfl (lv_at hl 2 rfl) ?_
                      refine g_getr X h (k := 2) (t := 70) (cc_0) fr_RX7_27 rfl (by decide) (by decide) (by decide) dX7_on_168 ?_
                      refine g_geti X h (k := 2) (cc_70) fr_RX7_120 rfl (by decide) dX7_on_171 ?_
                      exact g_iret X h dX7_on_174 ⟨(by rw [sOn, if_pos (by simp [c_53]), if_pos c_74, hkc, onS, ← hx96]; rw [if_neg c_154, if_pos (by rcases inR_012 c_53 with z | z | z; exact absurd z c_154; exact z; exact absurd z c_142)]; rfl), rfl, hs96⟩
                    · skip
                      refine lv_aload_n hx hb dX7_on_157 rfl (lv_at hl 2 rfl) ?_
                      refine g_getr X h (k := 2) (t := 70) (cc_0) fr_RX7_27 rfl (by decide) (by decide) (by decide) dX7_on_158 ?_
                      refine g_geti X h (k := 1) (cc_70) fr_RX7_117 rfl (by decide) dX7_on_161 ?_
                      refine lv_goto (tgt := 174) hx hb dX7_on_164 (by decide) ?_
                      exact g_iret X h dX7_on_174 ⟨(by rw [sOn, if_pos (by simp [c_53]), if_pos c_74, hkc, onS, ← hx96]; rw [if_pos c_154]; rfl), rfl, hs96⟩
                  · skip
                    refine lv_aload_n hx hb dX7_on_145 rfl (lv_at hl 2 rfl) ?_
                    refine g_getr X h (k := 2) (t := 70) (cc_0) fr_RX7_27 rfl (by decide) (by decide) (by decide) dX7_on_146 ?_
                    refine g_ki h (g_runV X h (As := []) (rest := []) (c_X6_letIn gl Z v96 w 70 isW1 n (B + k) j L (CW_day (by decide) hc88 hfd96 (by rw [hX88]; exact hx96) (by omega))) mi_X6_letIn ml_RX7_96 (cc_70) (by decide) kl6 rfl ⟨Nat.le_of_ble_eq_true rfl, Nat.le_of_ble_eq_true rfl⟩ rfl hl.1 rfl (Nat.le_of_ble_eq_true rfl) dX7_on_149) (fun r149 v149 w149 H locs hp149 h => ?_)
                    obtain ⟨hr149, hw149, hfl149, hwl149⟩ := hp149
                    obtain ⟨-, rfl⟩ := Prod.mk.inj hw149
                    replace hfl149 : frL _ v149 _ _ := hfl149
                    exact g_iret X h dX7_on_152 ⟨(by rw [sOn, if_pos (by simp [c_53]), if_pos c_74, hkc, onS, ← hx96]; rw [if_neg (by rw [c_142]; decide), if_neg (by rw [c_142]; decide), if_pos c_142]; exact hr149), rfl, scC_trans hs96 (scC_L1 hj7 hfl149)⟩
                · exact absurd rfl c_121
              · exact absurd rfl c_100
            · skip
              rw [hr71, bI_0] at c_74
              refine lv_bipush (v := (-2)) hx hb dX7_on_77 (by decide) ?_
              exact g_iret X h dX7_on_79 ⟨by rw [sOn, if_pos (by simp [c_53]), if_neg (by rw [c_74]; simp)], rfl, scC_refl v⟩
          · skip
            rw [hr50, bI_0] at c_53
            refine lv_iload_n hx hb dX7_on_56 rfl (lv_at hl 1 rfl) ?_
            refine lv_if_ne (tgt := 67) hx hb dX7_on_57 (by decide) (fun c_57 => ?_) (fun c_57 => ?_)
            · exact absurd rfl c_57
            · skip
              refine lv_iload hx hb dX7_on_60 (lv_at hl 0 rfl) ?_
              refine lv_if_ne (tgt := 67) hx hb dX7_on_62 (by decide) (fun c_62 => ?_) (fun c_62 => ?_)
              · exact absurd rfl c_62
              · skip
                refine lv_iconst (v := (-1)) hx hb dX7_on_65 (by decide) ?_
                exact g_iret X h dX7_on_66 ⟨by simp [sOn, hT, hG, c_53], rfl, scC_refl v⟩
        · skip
          rw [hr34, bI_n] at c_37
          have hG : isP (nI n) (x1 - 20) = true := c_37
          refine lv_iconst (v := 1) hx hb dX7_on_40 (by decide) ?_
          refine lv_goto (tgt := 45) hx hb dX7_on_41 (by decide) ?_
          refine lv_istore (lv' := [(4, .int 1), (3, .int 0), (0, .ref (zg Z 0)), (1, .int x0), (2, .int x1)]) hx hb dX7_on_45 hl (by decide) rfl (fun ls hl => ?_)
          refine lv_iload_n hx hb dX7_on_47 rfl (lv_at hl 4 rfl) ?_
          refine lv_iconst (v := 0) hx hb dX7_on_48 (by decide) ?_
          refine lv_iconst (v := 2) hx hb dX7_on_49 (by decide) ?_
          refine g_ki h (g_runS X h (As := [.int x1, .int 0, .int 2]) (rest := []) (c_X7_isWithin gl Z v w x1 0 2) ms_X7_isWithin ml_RX7_58 ⟨Nat.le_of_ble_eq_true rfl, Nat.le_of_ble_eq_true rfl⟩ rfl hl.1 rfl (Nat.le_of_ble_eq_true rfl) dX7_on_50) (fun r50 v50 w50 H locs hp50 h => ?_)
          obtain ⟨hr50, hu50⟩ := hp50; obtain ⟨rfl, rfl⟩ := Prod.mk.inj hu50
          refine lv_if_ne (tgt := 67) hx hb dX7_on_53 (by decide) (fun c_53 => ?_) (fun c_53 => ?_)
          · skip
            rw [hr50, bI_n] at c_53
            refine lv_iload_n hx hb dX7_on_67 rfl (lv_at hl 3 rfl) ?_
            refine lv_iconst (v := 0) hx hb dX7_on_68 (by decide) ?_
            refine lv_bipush (v := 60) hx hb dX7_on_69 (by decide) ?_
            refine g_ki h (g_runS X h (As := [.int x0, .int 0, .int 60]) (rest := []) (c_X7_isWithin gl Z v w x0 0 60) ms_X7_isWithin ml_RX7_58 ⟨Nat.le_of_ble_eq_true rfl, Nat.le_of_ble_eq_true rfl⟩ rfl hl.1 rfl (Nat.le_of_ble_eq_true rfl) dX7_on_71) (fun r71 v71 w71 H locs hp71 h => ?_)
            obtain ⟨hr71, hu71⟩ := hp71; obtain ⟨rfl, rfl⟩ := Prod.mk.inj hu71
            refine lv_if_ne (tgt := 80) hx hb dX7_on_74 (by decide) (fun c_74 => ?_) (fun c_74 => ?_)
            · skip
              rw [hr71, bI_n] at c_74
              obtain ⟨k, hk, hk0, hk60, hkc⟩ := inR_nat (a := 0) (b := 60) rfl rfl (by decide) c_74
              refine lv_aload_n hx hb dX7_on_80 rfl (lv_at hl 2 rfl) ?_
              refine g_getr X h (k := 2) (t := 70) (cc_0) fr_RX7_27 rfl (by decide) (by decide) (by decide) dX7_on_81 ?_
              refine lv_aload_n hx hb dX7_on_84 rfl (lv_at hl 2 rfl) ?_
              refine g_getr X h (k := 1) (t := 51) (cc_0) fr_RX7_23 rfl (by decide) (by decide) (by decide) dX7_on_85 ?_
              refine g_kv h (g_runV X h (As := [.ref (zg Z 51)]) (rest := []) (c_X6_startAs gl Z v w 70 isW1 51 isW0 (by decide) n j h6 hj7 (CN.f hcn).2.2.2.1 (CN.f hcn).2.2.2.2.1) mi_X6_startAs ml_RX7_169 (cc_70) (by decide) kl6 rfl ⟨Nat.le_of_ble_eq_true rfl, Nat.le_of_ble_eq_true rfl⟩ rfl hl.1 rfl (Nat.le_of_ble_eq_true rfl) dX7_on_88) (fun v88 w88 H locs hp88 h => ?_)
              obtain ⟨hx88, hw88, hl688, hft88, hsw88⟩ := hp88
              obtain ⟨-, rfl⟩ := Prod.mk.inj hw88
              replace hx88 : xC v88 _ _ = _ := hx88
              replace hl688 : v88 _ 6 = _ := hl688
              replace hft88 : frT _ v88 _ := hft88
              replace hsw88 : stW v88 _ _ := hsw88
              obtain ⟨hs88, hc88, hX88⟩ := TC_start (scC_refl v) hcn hx88 hl688 hft88
              refine lv_aload_n hx hb dX7_on_91 rfl (lv_at hl 2 rfl) ?_
              refine g_getr X h (k := 2) (t := 70) (cc_0) fr_RX7_27 rfl (by decide) (by decide) (by decide) dX7_on_92 ?_
              refine lv_iload_n hx hb dX7_on_95 rfl (lv_at hl 3 rfl) ?_
              refine g_kv h (g_runV X h (As := [.int x0]) (rest := []) (c_X6_goDays gl Z v88 w x0 k hk 70 isW1 n B j L hc88 (by omega)) mi_X6_goDays ml_RX7_165 (cc_70) (by decide) kl6 rfl ⟨Nat.le_of_ble_eq_true rfl, Nat.le_of_ble_eq_true rfl⟩ rfl hl.1 rfl (Nat.le_of_ble_eq_true rfl) dX7_on_96) (fun v96 w96 H locs hp96 h => ?_)
              obtain ⟨hx96, hw96, hfd96⟩ := hp96
              obtain ⟨-, rfl⟩ := Prod.mk.inj hw96
              replace hx96 : xC v96 _ _ = _ := hx96
              replace hfd96 : frD _ v96 _ _ := hfd96
              rw [hX88] at hx96
              have hs96 := scC_trans hs88 (scC_D hj7 hfd96)
              refine lv_iload_n hx hb dX7_on_99 rfl (lv_at hl 1 rfl) ?_
              refine lv_if_eq (tgt := 119) hx hb dX7_on_100 (by decide) (fun c_100 => ?_) (fun c_100 => ?_)
              · skip
                refine lv_iload hx hb dX7_on_119 (lv_at hl 0 rfl) ?_
                refine lv_if_eq (tgt := 140) hx hb dX7_on_121 (by decide) (fun c_121 => ?_) (fun c_121 => ?_)
                · exact absurd c_121 (by decide)
                · skip
                  obtain ⟨kx, hkx, hkxn, hkxc⟩ := isP_nat (by omega) hG
                  have h012 : ¬ x1 = 0 ∧ ¬ x1 = 1 ∧ ¬ x1 = 2 := ⟨fun z => c_26 (by rw [z]; decide), fun z => c_26 (by rw [z]; decide), fun z => c_26 (by rw [z]; decide)⟩
                  refine lv_aload_n hx hb dX7_on_124 rfl (lv_at hl 2 rfl) ?_
                  refine g_getr X h (k := 2) (t := 70) (cc_0) fr_RX7_27 rfl (by decide) (by decide) (by decide) dX7_on_125 ?_
                  refine g_getr X h (k := 0) (t := 71) (cc_70) fr_RX7_62 rfl (by decide) (by decide) (by decide) dX7_on_128 ?_
                  refine g_getr X h (k := 5) (t := 76) (cc_71) fr_RX7_90 rfl (by decide) (by decide) (by decide) dX7_on_131 ?_
                  refine lv_iload_n hx hb dX7_on_134 rfl (lv_at hl 4 rfl) ?_
                  refine lv_bipush (v := 20) hx hb dX7_on_135 (by decide) ?_
                  refine lv_isub hx hb dX7_on_137 ?_
                  refine g_iald X h (k := kx) (cc_76) hkx (by omega) (by decide) dX7_on_138 ?_
                  exact g_iret X h dX7_on_139 ⟨(by rw [sOn, if_pos (by simp [hG]), if_pos c_74, hkc, onS, ← hx96]; rw [if_neg h012.1, if_neg h012.2.1, if_neg h012.2.2, if_neg (by rw [hT]; simp), hkxc]; exact (xC_got (v := v96) (b := 70) (n := n) (by omega)).symm), rfl, hs96⟩
              · exact absurd rfl c_100
            · skip
              rw [hr71, bI_0] at c_74
              refine lv_bipush (v := (-2)) hx hb dX7_on_77 (by decide) ?_
              exact g_iret X h dX7_on_79 ⟨by rw [sOn, if_pos (by simp [hG]), if_neg (by rw [c_74]; simp)], rfl, scC_refl v⟩
          · skip
            rw [hr50, bI_0] at c_53
            refine lv_iload_n hx hb dX7_on_56 rfl (lv_at hl 1 rfl) ?_
            refine lv_if_ne (tgt := 67) hx hb dX7_on_57 (by decide) (fun c_57 => ?_) (fun c_57 => ?_)
            · exact absurd rfl c_57
            · skip
              refine lv_iload hx hb dX7_on_60 (lv_at hl 0 rfl) ?_
              refine lv_if_ne (tgt := 67) hx hb dX7_on_62 (by decide) (fun c_62 => ?_) (fun c_62 => ?_)
              · skip
                refine lv_iload_n hx hb dX7_on_67 rfl (lv_at hl 3 rfl) ?_
                refine lv_iconst (v := 0) hx hb dX7_on_68 (by decide) ?_
                refine lv_bipush (v := 60) hx hb dX7_on_69 (by decide) ?_
                refine g_ki h (g_runS X h (As := [.int x0, .int 0, .int 60]) (rest := []) (c_X7_isWithin gl Z v w x0 0 60) ms_X7_isWithin ml_RX7_58 ⟨Nat.le_of_ble_eq_true rfl, Nat.le_of_ble_eq_true rfl⟩ rfl hl.1 rfl (Nat.le_of_ble_eq_true rfl) dX7_on_71) (fun r71 v71 w71 H locs hp71 h => ?_)
                obtain ⟨hr71, hu71⟩ := hp71; obtain ⟨rfl, rfl⟩ := Prod.mk.inj hu71
                refine lv_if_ne (tgt := 80) hx hb dX7_on_74 (by decide) (fun c_74 => ?_) (fun c_74 => ?_)
                · skip
                  rw [hr71, bI_n] at c_74
                  obtain ⟨k, hk, hk0, hk60, hkc⟩ := inR_nat (a := 0) (b := 60) rfl rfl (by decide) c_74
                  refine lv_aload_n hx hb dX7_on_80 rfl (lv_at hl 2 rfl) ?_
                  refine g_getr X h (k := 2) (t := 70) (cc_0) fr_RX7_27 rfl (by decide) (by decide) (by decide) dX7_on_81 ?_
                  refine lv_aload_n hx hb dX7_on_84 rfl (lv_at hl 2 rfl) ?_
                  refine g_getr X h (k := 1) (t := 51) (cc_0) fr_RX7_23 rfl (by decide) (by decide) (by decide) dX7_on_85 ?_
                  refine g_kv h (g_runV X h (As := [.ref (zg Z 51)]) (rest := []) (c_X6_startAs gl Z v w 70 isW1 51 isW0 (by decide) n j h6 hj7 (CN.f hcn).2.2.2.1 (CN.f hcn).2.2.2.2.1) mi_X6_startAs ml_RX7_169 (cc_70) (by decide) kl6 rfl ⟨Nat.le_of_ble_eq_true rfl, Nat.le_of_ble_eq_true rfl⟩ rfl hl.1 rfl (Nat.le_of_ble_eq_true rfl) dX7_on_88) (fun v88 w88 H locs hp88 h => ?_)
                  obtain ⟨hx88, hw88, hl688, hft88, hsw88⟩ := hp88
                  obtain ⟨-, rfl⟩ := Prod.mk.inj hw88
                  replace hx88 : xC v88 _ _ = _ := hx88
                  replace hl688 : v88 _ 6 = _ := hl688
                  replace hft88 : frT _ v88 _ := hft88
                  replace hsw88 : stW v88 _ _ := hsw88
                  obtain ⟨hs88, hc88, hX88⟩ := TC_start (scC_refl v) hcn hx88 hl688 hft88
                  refine lv_aload_n hx hb dX7_on_91 rfl (lv_at hl 2 rfl) ?_
                  refine g_getr X h (k := 2) (t := 70) (cc_0) fr_RX7_27 rfl (by decide) (by decide) (by decide) dX7_on_92 ?_
                  refine lv_iload_n hx hb dX7_on_95 rfl (lv_at hl 3 rfl) ?_
                  refine g_kv h (g_runV X h (As := [.int x0]) (rest := []) (c_X6_goDays gl Z v88 w x0 k hk 70 isW1 n B j L hc88 (by omega)) mi_X6_goDays ml_RX7_165 (cc_70) (by decide) kl6 rfl ⟨Nat.le_of_ble_eq_true rfl, Nat.le_of_ble_eq_true rfl⟩ rfl hl.1 rfl (Nat.le_of_ble_eq_true rfl) dX7_on_96) (fun v96 w96 H locs hp96 h => ?_)
                  obtain ⟨hx96, hw96, hfd96⟩ := hp96
                  obtain ⟨-, rfl⟩ := Prod.mk.inj hw96
                  replace hx96 : xC v96 _ _ = _ := hx96
                  replace hfd96 : frD _ v96 _ _ := hfd96
                  rw [hX88] at hx96
                  have hs96 := scC_trans hs88 (scC_D hj7 hfd96)
                  refine lv_iload_n hx hb dX7_on_99 rfl (lv_at hl 1 rfl) ?_
                  refine lv_if_eq (tgt := 119) hx hb dX7_on_100 (by decide) (fun c_100 => ?_) (fun c_100 => ?_)
                  · skip
                    refine lv_iload hx hb dX7_on_119 (lv_at hl 0 rfl) ?_
                    refine lv_if_eq (tgt := 140) hx hb dX7_on_121 (by decide) (fun c_121 => ?_) (fun c_121 => ?_)
                    · exact absurd c_121 (by decide)
                    · skip
                      obtain ⟨kx, hkx, hkxn, hkxc⟩ := isP_nat (by omega) hG
                      have h012 : ¬ x1 = 0 ∧ ¬ x1 = 1 ∧ ¬ x1 = 2 := ⟨fun z => c_26 (by rw [z]; decide), fun z => c_26 (by rw [z]; decide), fun z => c_26 (by rw [z]; decide)⟩
                      refine lv_aload_n hx hb dX7_on_124 rfl (lv_at hl 2 rfl) ?_
                      refine g_getr X h (k := 2) (t := 70) (cc_0) fr_RX7_27 rfl (by decide) (by decide) (by decide) dX7_on_125 ?_
                      refine g_getr X h (k := 0) (t := 71) (cc_70) fr_RX7_62 rfl (by decide) (by decide) (by decide) dX7_on_128 ?_
                      refine g_getr X h (k := 5) (t := 76) (cc_71) fr_RX7_90 rfl (by decide) (by decide) (by decide) dX7_on_131 ?_
                      refine lv_iload_n hx hb dX7_on_134 rfl (lv_at hl 4 rfl) ?_
                      refine lv_bipush (v := 20) hx hb dX7_on_135 (by decide) ?_
                      refine lv_isub hx hb dX7_on_137 ?_
                      refine g_iald X h (k := kx) (cc_76) hkx (by omega) (by decide) dX7_on_138 ?_
                      exact g_iret X h dX7_on_139 ⟨(by rw [sOn, if_pos (by simp [hG]), if_pos c_74, hkc, onS, ← hx96]; rw [if_neg h012.1, if_neg h012.2.1, if_neg h012.2.2, if_neg (by rw [hT]; simp), hkxc]; exact (xC_got (v := v96) (b := 70) (n := n) (by omega)).symm), rfl, hs96⟩
                  · exact absurd rfl c_100
                · skip
                  rw [hr71, bI_0] at c_74
                  refine lv_bipush (v := (-2)) hx hb dX7_on_77 (by decide) ?_
                  exact g_iret X h dX7_on_79 ⟨by rw [sOn, if_pos (by simp [hG]), if_neg (by rw [c_74]; simp)], rfl, scC_refl v⟩
              · exact absurd c_62 (by decide)
    · skip
      rw [hr11, bI_n] at c_14
      have hT : isP (nI n) (x1 - 10) = true := c_14
      refine lv_iconst (v := 1) hx hb dX7_on_17 (by decide) ?_
      refine lv_goto (tgt := 22) hx hb dX7_on_18 (by decide) ?_
      refine lv_istore_n (lv' := [(3, .int 1), (0, .ref (zg Z 0)), (1, .int x0), (2, .int x1)]) hx hb dX7_on_22 rfl hl (by decide) rfl (fun ls hl => ?_)
      refine lv_iload_n hx hb dX7_on_23 rfl (lv_at hl 3 rfl) ?_
      refine lv_bipush (v := 20) hx hb dX7_on_24 (by decide) ?_
      refine lv_icmp_lt (tgt := 44) hx hb dX7_on_26 (by decide) (fun c_26 => ?_) (fun c_26 => ?_)
      · skip
        have hG : isP (nI n) (x1 - 20) = false := isP_lo (c := 20) h6 (by decide) c_26
        refine lv_iconst (v := 0) hx hb dX7_on_44 (by decide) ?_
        refine lv_istore (lv' := [(4, .int 0), (3, .int 1), (0, .ref (zg Z 0)), (1, .int x0), (2, .int x1)]) hx hb dX7_on_45 hl (by decide) rfl (fun ls hl => ?_)
        refine lv_iload_n hx hb dX7_on_47 rfl (lv_at hl 4 rfl) ?_
        refine lv_iconst (v := 0) hx hb dX7_on_48 (by decide) ?_
        refine lv_iconst (v := 2) hx hb dX7_on_49 (by decide) ?_
        refine g_ki h (g_runS X h (As := [.int x1, .int 0, .int 2]) (rest := []) (c_X7_isWithin gl Z v w x1 0 2) ms_X7_isWithin ml_RX7_58 ⟨Nat.le_of_ble_eq_true rfl, Nat.le_of_ble_eq_true rfl⟩ rfl hl.1 rfl (Nat.le_of_ble_eq_true rfl) dX7_on_50) (fun r50 v50 w50 H locs hp50 h => ?_)
        obtain ⟨hr50, hu50⟩ := hp50; obtain ⟨rfl, rfl⟩ := Prod.mk.inj hu50
        refine lv_if_ne (tgt := 67) hx hb dX7_on_53 (by decide) (fun c_53 => ?_) (fun c_53 => ?_)
        · skip
          rw [hr50, bI_n] at c_53
          refine lv_iload_n hx hb dX7_on_67 rfl (lv_at hl 3 rfl) ?_
          refine lv_iconst (v := 0) hx hb dX7_on_68 (by decide) ?_
          refine lv_bipush (v := 60) hx hb dX7_on_69 (by decide) ?_
          refine g_ki h (g_runS X h (As := [.int x0, .int 0, .int 60]) (rest := []) (c_X7_isWithin gl Z v w x0 0 60) ms_X7_isWithin ml_RX7_58 ⟨Nat.le_of_ble_eq_true rfl, Nat.le_of_ble_eq_true rfl⟩ rfl hl.1 rfl (Nat.le_of_ble_eq_true rfl) dX7_on_71) (fun r71 v71 w71 H locs hp71 h => ?_)
          obtain ⟨hr71, hu71⟩ := hp71; obtain ⟨rfl, rfl⟩ := Prod.mk.inj hu71
          refine lv_if_ne (tgt := 80) hx hb dX7_on_74 (by decide) (fun c_74 => ?_) (fun c_74 => ?_)
          · skip
            rw [hr71, bI_n] at c_74
            obtain ⟨k, hk, hk0, hk60, hkc⟩ := inR_nat (a := 0) (b := 60) rfl rfl (by decide) c_74
            refine lv_aload_n hx hb dX7_on_80 rfl (lv_at hl 2 rfl) ?_
            refine g_getr X h (k := 2) (t := 70) (cc_0) fr_RX7_27 rfl (by decide) (by decide) (by decide) dX7_on_81 ?_
            refine lv_aload_n hx hb dX7_on_84 rfl (lv_at hl 2 rfl) ?_
            refine g_getr X h (k := 1) (t := 51) (cc_0) fr_RX7_23 rfl (by decide) (by decide) (by decide) dX7_on_85 ?_
            refine g_kv h (g_runV X h (As := [.ref (zg Z 51)]) (rest := []) (c_X6_startAs gl Z v w 70 isW1 51 isW0 (by decide) n j h6 hj7 (CN.f hcn).2.2.2.1 (CN.f hcn).2.2.2.2.1) mi_X6_startAs ml_RX7_169 (cc_70) (by decide) kl6 rfl ⟨Nat.le_of_ble_eq_true rfl, Nat.le_of_ble_eq_true rfl⟩ rfl hl.1 rfl (Nat.le_of_ble_eq_true rfl) dX7_on_88) (fun v88 w88 H locs hp88 h => ?_)
            obtain ⟨hx88, hw88, hl688, hft88, hsw88⟩ := hp88
            obtain ⟨-, rfl⟩ := Prod.mk.inj hw88
            replace hx88 : xC v88 _ _ = _ := hx88
            replace hl688 : v88 _ 6 = _ := hl688
            replace hft88 : frT _ v88 _ := hft88
            replace hsw88 : stW v88 _ _ := hsw88
            obtain ⟨hs88, hc88, hX88⟩ := TC_start (scC_refl v) hcn hx88 hl688 hft88
            refine lv_aload_n hx hb dX7_on_91 rfl (lv_at hl 2 rfl) ?_
            refine g_getr X h (k := 2) (t := 70) (cc_0) fr_RX7_27 rfl (by decide) (by decide) (by decide) dX7_on_92 ?_
            refine lv_iload_n hx hb dX7_on_95 rfl (lv_at hl 3 rfl) ?_
            refine g_kv h (g_runV X h (As := [.int x0]) (rest := []) (c_X6_goDays gl Z v88 w x0 k hk 70 isW1 n B j L hc88 (by omega)) mi_X6_goDays ml_RX7_165 (cc_70) (by decide) kl6 rfl ⟨Nat.le_of_ble_eq_true rfl, Nat.le_of_ble_eq_true rfl⟩ rfl hl.1 rfl (Nat.le_of_ble_eq_true rfl) dX7_on_96) (fun v96 w96 H locs hp96 h => ?_)
            obtain ⟨hx96, hw96, hfd96⟩ := hp96
            obtain ⟨-, rfl⟩ := Prod.mk.inj hw96
            replace hx96 : xC v96 _ _ = _ := hx96
            replace hfd96 : frD _ v96 _ _ := hfd96
            rw [hX88] at hx96
            have hs96 := scC_trans hs88 (scC_D hj7 hfd96)
            refine lv_iload_n hx hb dX7_on_99 rfl (lv_at hl 1 rfl) ?_
            refine lv_if_eq (tgt := 119) hx hb dX7_on_100 (by decide) (fun c_100 => ?_) (fun c_100 => ?_)
            · exact absurd c_100 (by decide)
            · skip
              obtain ⟨kx, hkx, hkxn, hkxc⟩ := isP_nat (by omega) hT
              have h012 : ¬ x1 = 0 ∧ ¬ x1 = 1 ∧ ¬ x1 = 2 := ⟨fun z => c_3 (by rw [z]; decide), fun z => c_3 (by rw [z]; decide), fun z => c_3 (by rw [z]; decide)⟩
              refine lv_aload_n hx hb dX7_on_103 rfl (lv_at hl 2 rfl) ?_
              refine g_getr X h (k := 2) (t := 70) (cc_0) fr_RX7_27 rfl (by decide) (by decide) (by decide) dX7_on_104 ?_
              refine g_getr X h (k := 0) (t := 71) (cc_70) fr_RX7_62 rfl (by decide) (by decide) (by decide) dX7_on_107 ?_
              refine g_getr X h (k := 4) (t := 75) (cc_71) fr_RX7_87 rfl (by decide) (by decide) (by decide) dX7_on_110 ?_
              refine lv_iload_n hx hb dX7_on_113 rfl (lv_at hl 4 rfl) ?_
              refine lv_bipush (v := 10) hx hb dX7_on_114 (by decide) ?_
              refine lv_isub hx hb dX7_on_116 ?_
              refine g_iald X h (k := kx) (cc_75) hkx (by omega) (by decide) dX7_on_117 ?_
              exact g_iret X h dX7_on_118 ⟨(by rw [sOn, if_pos (by simp [hT]), if_pos c_74, hkc, onS, ← hx96]; rw [if_neg h012.1, if_neg h012.2.1, if_neg h012.2.2, if_pos hT, hkxc]; exact (xC_th (v := v96) (b := 70) (n := n) (by omega)).symm), rfl, hs96⟩
          · skip
            rw [hr71, bI_0] at c_74
            refine lv_bipush (v := (-2)) hx hb dX7_on_77 (by decide) ?_
            exact g_iret X h dX7_on_79 ⟨by rw [sOn, if_pos (by simp [hT]), if_neg (by rw [c_74]; simp)], rfl, scC_refl v⟩
        · skip
          rw [hr50, bI_0] at c_53
          refine lv_iload_n hx hb dX7_on_56 rfl (lv_at hl 1 rfl) ?_
          refine lv_if_ne (tgt := 67) hx hb dX7_on_57 (by decide) (fun c_57 => ?_) (fun c_57 => ?_)
          · skip
            refine lv_iload_n hx hb dX7_on_67 rfl (lv_at hl 3 rfl) ?_
            refine lv_iconst (v := 0) hx hb dX7_on_68 (by decide) ?_
            refine lv_bipush (v := 60) hx hb dX7_on_69 (by decide) ?_
            refine g_ki h (g_runS X h (As := [.int x0, .int 0, .int 60]) (rest := []) (c_X7_isWithin gl Z v w x0 0 60) ms_X7_isWithin ml_RX7_58 ⟨Nat.le_of_ble_eq_true rfl, Nat.le_of_ble_eq_true rfl⟩ rfl hl.1 rfl (Nat.le_of_ble_eq_true rfl) dX7_on_71) (fun r71 v71 w71 H locs hp71 h => ?_)
            obtain ⟨hr71, hu71⟩ := hp71; obtain ⟨rfl, rfl⟩ := Prod.mk.inj hu71
            refine lv_if_ne (tgt := 80) hx hb dX7_on_74 (by decide) (fun c_74 => ?_) (fun c_74 => ?_)
            · skip
              rw [hr71, bI_n] at c_74
              obtain ⟨k, hk, hk0, hk60, hkc⟩ := inR_nat (a := 0) (b := 60) rfl rfl (by decide) c_74
              refine lv_aload_n hx hb dX7_on_80 rfl (lv_at hl 2 rfl) ?_
              refine g_getr X h (k := 2) (t := 70) (cc_0) fr_RX7_27 rfl (by decide) (by decide) (by decide) dX7_on_81 ?_
              refine lv_aload_n hx hb dX7_on_84 rfl (lv_at hl 2 rfl) ?_
              refine g_getr X h (k := 1) (t := 51) (cc_0) fr_RX7_23 rfl (by decide) (by decide) (by decide) dX7_on_85 ?_
              refine g_kv h (g_runV X h (As := [.ref (zg Z 51)]) (rest := []) (c_X6_startAs gl Z v w 70 isW1 51 isW0 (by decide) n j h6 hj7 (CN.f hcn).2.2.2.1 (CN.f hcn).2.2.2.2.1) mi_X6_startAs ml_RX7_169 (cc_70) (by decide) kl6 rfl ⟨Nat.le_of_ble_eq_true rfl, Nat.le_of_ble_eq_true rfl⟩ rfl hl.1 rfl (Nat.le_of_ble_eq_true rfl) dX7_on_88) (fun v88 w88 H locs hp88 h => ?_)
              obtain ⟨hx88, hw88, hl688, hft88, hsw88⟩ := hp88
              obtain ⟨-, rfl⟩ := Prod.mk.inj hw88
              replace hx88 : xC v88 _ _ = _ := hx88
              replace hl688 : v88 _ 6 = _ := hl688
              replace hft88 : frT _ v88 _ := hft88
              replace hsw88 : stW v88 _ _ := hsw88
              obtain ⟨hs88, hc88, hX88⟩ := TC_start (scC_refl v) hcn hx88 hl688 hft88
              refine lv_aload_n hx hb dX7_on_91 rfl (lv_at hl 2 rfl) ?_
              refine g_getr X h (k := 2) (t := 70) (cc_0) fr_RX7_27 rfl (by decide) (by decide) (by decide) dX7_on_92 ?_
              refine lv_iload_n hx hb dX7_on_95 rfl (lv_at hl 3 rfl) ?_
              refine g_kv h (g_runV X h (As := [.int x0]) (rest := []) (c_X6_goDays gl Z v88 w x0 k hk 70 isW1 n B j L hc88 (by omega)) mi_X6_goDays ml_RX7_165 (cc_70) (by decide) kl6 rfl ⟨Nat.le_of_ble_eq_true rfl, Nat.le_of_ble_eq_true rfl⟩ rfl hl.1 rfl (Nat.le_of_ble_eq_true rfl) dX7_on_96) (fun v96 w96 H locs hp96 h => ?_)
              obtain ⟨hx96, hw96, hfd96⟩ := hp96
              obtain ⟨-, rfl⟩ := Prod.mk.inj hw96
              replace hx96 : xC v96 _ _ = _ := hx96
              replace hfd96 : frD _ v96 _ _ := hfd96
              rw [hX88] at hx96
              have hs96 := scC_trans hs88 (scC_D hj7 hfd96)
              refine lv_iload_n hx hb dX7_on_99 rfl (lv_at hl 1 rfl) ?_
              refine lv_if_eq (tgt := 119) hx hb dX7_on_100 (by decide) (fun c_100 => ?_) (fun c_100 => ?_)
              · exact absurd c_100 (by decide)
              · skip
                obtain ⟨kx, hkx, hkxn, hkxc⟩ := isP_nat (by omega) hT
                have h012 : ¬ x1 = 0 ∧ ¬ x1 = 1 ∧ ¬ x1 = 2 := ⟨fun z => c_3 (by rw [z]; decide), fun z => c_3 (by rw [z]; decide), fun z => c_3 (by rw [z]; decide)⟩
                refine lv_aload_n hx hb dX7_on_103 rfl (lv_at hl 2 rfl) ?_
                refine g_getr X h (k := 2) (t := 70) (cc_0) fr_RX7_27 rfl (by decide) (by decide) (by decide) dX7_on_104 ?_
                refine g_getr X h (k := 0) (t := 71) (cc_70) fr_RX7_62 rfl (by decide) (by decide) (by decide) dX7_on_107 ?_
                refine g_getr X h (k := 4) (t := 75) (cc_71) fr_RX7_87 rfl (by decide) (by decide) (by decide) dX7_on_110 ?_
                refine lv_iload_n hx hb dX7_on_113 rfl (lv_at hl 4 rfl) ?_
                refine lv_bipush (v := 10) hx hb dX7_on_114 (by decide) ?_
                refine lv_isub hx hb dX7_on_116 ?_
                refine g_iald X h (k := kx) (cc_75) hkx (by omega) (by decide) dX7_on_117 ?_
                exact g_iret X h dX7_on_118 ⟨(by rw [sOn, if_pos (by simp [hT]), if_pos c_74, hkc, onS, ← hx96]; rw [if_neg h012.1, if_neg h012.2.1, if_neg h012.2.2, if_pos hT, hkxc]; exact (xC_th (v := v96) (b := 70) (n := n) (by omega)).symm), rfl, hs96⟩
            · skip
              rw [hr71, bI_0] at c_74
              refine lv_bipush (v := (-2)) hx hb dX7_on_77 (by decide) ?_
              exact g_iret X h dX7_on_79 ⟨by rw [sOn, if_pos (by simp [hT]), if_neg (by rw [c_74]; simp)], rfl, scC_refl v⟩
          · exact absurd c_57 (by decide)
      · skip
        refine lv_aload_n hx hb dX7_on_29 rfl (lv_at hl 1 rfl) ?_
        refine lv_iload_n hx hb dX7_on_30 rfl (lv_at hl 3 rfl) ?_
        refine lv_bipush (v := 20) hx hb dX7_on_31 (by decide) ?_
        refine lv_isub hx hb dX7_on_33 ?_
        refine g_ki h (g_runV X h (As := [.int (x1 - 20)]) (rest := []) (c_X7_isPerson gl Z v w (x1 - 20) n hn h6) mi_X7_isPerson ml_RX7_76 (cc_0) (by decide) kl7 rfl ⟨Nat.le_of_ble_eq_true rfl, Nat.le_of_ble_eq_true rfl⟩ rfl hl.1 rfl (Nat.le_of_ble_eq_true rfl) dX7_on_34) (fun r34 v34 w34 H locs hp34 h => ?_)
        obtain ⟨hr34, hu34⟩ := hp34; obtain ⟨rfl, rfl⟩ := Prod.mk.inj hu34
        refine lv_if_eq (tgt := 44) hx hb dX7_on_37 (by decide) (fun c_37 => ?_) (fun c_37 => ?_)
        · skip
          rw [hr34, bI_0] at c_37
          have hG : isP (nI n) (x1 - 20) = false := c_37
          refine lv_iconst (v := 0) hx hb dX7_on_44 (by decide) ?_
          refine lv_istore (lv' := [(4, .int 0), (3, .int 1), (0, .ref (zg Z 0)), (1, .int x0), (2, .int x1)]) hx hb dX7_on_45 hl (by decide) rfl (fun ls hl => ?_)
          refine lv_iload_n hx hb dX7_on_47 rfl (lv_at hl 4 rfl) ?_
          refine lv_iconst (v := 0) hx hb dX7_on_48 (by decide) ?_
          refine lv_iconst (v := 2) hx hb dX7_on_49 (by decide) ?_
          refine g_ki h (g_runS X h (As := [.int x1, .int 0, .int 2]) (rest := []) (c_X7_isWithin gl Z v w x1 0 2) ms_X7_isWithin ml_RX7_58 ⟨Nat.le_of_ble_eq_true rfl, Nat.le_of_ble_eq_true rfl⟩ rfl hl.1 rfl (Nat.le_of_ble_eq_true rfl) dX7_on_50) (fun r50 v50 w50 H locs hp50 h => ?_)
          obtain ⟨hr50, hu50⟩ := hp50; obtain ⟨rfl, rfl⟩ := Prod.mk.inj hu50
          refine lv_if_ne (tgt := 67) hx hb dX7_on_53 (by decide) (fun c_53 => ?_) (fun c_53 => ?_)
          · skip
            rw [hr50, bI_n] at c_53
            refine lv_iload_n hx hb dX7_on_67 rfl (lv_at hl 3 rfl) ?_
            refine lv_iconst (v := 0) hx hb dX7_on_68 (by decide) ?_
            refine lv_bipush (v := 60) hx hb dX7_on_69 (by decide) ?_
            refine g_ki h (g_runS X h (As := [.int x0, .int 0, .int 60]) (rest := []) (c_X7_isWithin gl Z v w x0 0 60) ms_X7_isWithin ml_RX7_58 ⟨Nat.le_of_ble_eq_true rfl, Nat.le_of_ble_eq_true rfl⟩ rfl hl.1 rfl (Nat.le_of_ble_eq_true rfl) dX7_on_71) (fun r71 v71 w71 H locs hp71 h => ?_)
            obtain ⟨hr71, hu71⟩ := hp71; obtain ⟨rfl, rfl⟩ := Prod.mk.inj hu71
            refine lv_if_ne (tgt := 80) hx hb dX7_on_74 (by decide) (fun c_74 => ?_) (fun c_74 => ?_)
            · skip
              rw [hr71, bI_n] at c_74
              obtain ⟨k, hk, hk0, hk60, hkc⟩ := inR_nat (a := 0) (b := 60) rfl rfl (by decide) c_74
              refine lv_aload_n hx hb dX7_on_80 rfl (lv_at hl 2 rfl) ?_
              refine g_getr X h (k := 2) (t := 70) (cc_0) fr_RX7_27 rfl (by decide) (by decide) (by decide) dX7_on_81 ?_
              refine lv_aload_n hx hb dX7_on_84 rfl (lv_at hl 2 rfl) ?_
              refine g_getr X h (k := 1) (t := 51) (cc_0) fr_RX7_23 rfl (by decide) (by decide) (by decide) dX7_on_85 ?_
              refine g_kv h (g_runV X h (As := [.ref (zg Z 51)]) (rest := []) (c_X6_startAs gl Z v w 70 isW1 51 isW0 (by decide) n j h6 hj7 (CN.f hcn).2.2.2.1 (CN.f hcn).2.2.2.2.1) mi_X6_startAs ml_RX7_169 (cc_70) (by decide) kl6 rfl ⟨Nat.le_of_ble_eq_true rfl, Nat.le_of_ble_eq_true rfl⟩ rfl hl.1 rfl (Nat.le_of_ble_eq_true rfl) dX7_on_88) (fun v88 w88 H locs hp88 h => ?_)
              obtain ⟨hx88, hw88, hl688, hft88, hsw88⟩ := hp88
              obtain ⟨-, rfl⟩ := Prod.mk.inj hw88
              replace hx88 : xC v88 _ _ = _ := hx88
              replace hl688 : v88 _ 6 = _ := hl688
              replace hft88 : frT _ v88 _ := hft88
              replace hsw88 : stW v88 _ _ := hsw88
              obtain ⟨hs88, hc88, hX88⟩ := TC_start (scC_refl v) hcn hx88 hl688 hft88
              refine lv_aload_n hx hb dX7_on_91 rfl (lv_at hl 2 rfl) ?_
              refine g_getr X h (k := 2) (t := 70) (cc_0) fr_RX7_27 rfl (by decide) (by decide) (by decide) dX7_on_92 ?_
              refine lv_iload_n hx hb dX7_on_95 rfl (lv_at hl 3 rfl) ?_
              refine g_kv h (g_runV X h (As := [.int x0]) (rest := []) (c_X6_goDays gl Z v88 w x0 k hk 70 isW1 n B j L hc88 (by omega)) mi_X6_goDays ml_RX7_165 (cc_70) (by decide) kl6 rfl ⟨Nat.le_of_ble_eq_true rfl, Nat.le_of_ble_eq_true rfl⟩ rfl hl.1 rfl (Nat.le_of_ble_eq_true rfl) dX7_on_96) (fun v96 w96 H locs hp96 h => ?_)
              obtain ⟨hx96, hw96, hfd96⟩ := hp96
              obtain ⟨-, rfl⟩ := Prod.mk.inj hw96
              replace hx96 : xC v96 _ _ = _ := hx96
              replace hfd96 : frD _ v96 _ _ := hfd96
              rw [hX88] at hx96
              have hs96 := scC_trans hs88 (scC_D hj7 hfd96)
              refine lv_iload_n hx hb dX7_on_99 rfl (lv_at hl 1 rfl) ?_
              refine lv_if_eq (tgt := 119) hx hb dX7_on_100 (by decide) (fun c_100 => ?_) (fun c_100 => ?_)
              · exact absurd c_100 (by decide)
              · skip
                obtain ⟨kx, hkx, hkxn, hkxc⟩ := isP_nat (by omega) hT
                have h012 : ¬ x1 = 0 ∧ ¬ x1 = 1 ∧ ¬ x1 = 2 := ⟨fun z => c_3 (by rw [z]; decide), fun z => c_3 (by rw [z]; decide), fun z => c_3 (by rw [z]; decide)⟩
                refine lv_aload_n hx hb dX7_on_103 rfl (lv_at hl 2 rfl) ?_
                refine g_getr X h (k := 2) (t := 70) (cc_0) fr_RX7_27 rfl (by decide) (by decide) (by decide) dX7_on_104 ?_
                refine g_getr X h (k := 0) (t := 71) (cc_70) fr_RX7_62 rfl (by decide) (by decide) (by decide) dX7_on_107 ?_
                refine g_getr X h (k := 4) (t := 75) (cc_71) fr_RX7_87 rfl (by decide) (by decide) (by decide) dX7_on_110 ?_
                refine lv_iload_n hx hb dX7_on_113 rfl (lv_at hl 4 rfl) ?_
                refine lv_bipush (v := 10) hx hb dX7_on_114 (by decide) ?_
                refine lv_isub hx hb dX7_on_116 ?_
                refine g_iald X h (k := kx) (cc_75) hkx (by omega) (by decide) dX7_on_117 ?_
                exact g_iret X h dX7_on_118 ⟨(by rw [sOn, if_pos (by simp [hT]), if_pos c_74, hkc, onS, ← hx96]; rw [if_neg h012.1, if_neg h012.2.1, if_neg h012.2.2, if_pos hT, hkxc]; exact (xC_th (v := v96) (b := 70) (n := n) (by omega)).symm), rfl, hs96⟩
            · skip
              rw [hr71, bI_0] at c_74
              refine lv_bipush (v := (-2)) hx hb dX7_on_77 (by decide) ?_
              exact g_iret X h dX7_on_79 ⟨by rw [sOn, if_pos (by simp [hT]), if_neg (by rw [c_74]; simp)], rfl, scC_refl v⟩
          · skip
            rw [hr50, bI_0] at c_53
            refine lv_iload_n hx hb dX7_on_56 rfl (lv_at hl 1 rfl) ?_
            refine lv_if_ne (tgt := 67) hx hb dX7_on_57 (by decide) (fun c_57 => ?_) (fun c_57 => ?_)
            · skip
              refine lv_iload_n hx hb dX7_on_67 rfl (lv_at hl 3 rfl) ?_
              refine lv_iconst (v := 0) hx hb dX7_on_68 (by decide) ?_
              refine lv_bipush (v := 60) hx hb dX7_on_69 (by decide) ?_
              refine g_ki h (g_runS X h (As := [.int x0, .int 0, .int 60]) (rest := []) (c_X7_isWithin gl Z v w x0 0 60) ms_X7_isWithin ml_RX7_58 ⟨Nat.le_of_ble_eq_true rfl, Nat.le_of_ble_eq_true rfl⟩ rfl hl.1 rfl (Nat.le_of_ble_eq_true rfl) dX7_on_71) (fun r71 v71 w71 H locs hp71 h => ?_)
              obtain ⟨hr71, hu71⟩ := hp71; obtain ⟨rfl, rfl⟩ := Prod.mk.inj hu71
              refine lv_if_ne (tgt := 80) hx hb dX7_on_74 (by decide) (fun c_74 => ?_) (fun c_74 => ?_)
              · skip
                rw [hr71, bI_n] at c_74
                obtain ⟨k, hk, hk0, hk60, hkc⟩ := inR_nat (a := 0) (b := 60) rfl rfl (by decide) c_74
                refine lv_aload_n hx hb dX7_on_80 rfl (lv_at hl 2 rfl) ?_
                refine g_getr X h (k := 2) (t := 70) (cc_0) fr_RX7_27 rfl (by decide) (by decide) (by decide) dX7_on_81 ?_
                refine lv_aload_n hx hb dX7_on_84 rfl (lv_at hl 2 rfl) ?_
                refine g_getr X h (k := 1) (t := 51) (cc_0) fr_RX7_23 rfl (by decide) (by decide) (by decide) dX7_on_85 ?_
                refine g_kv h (g_runV X h (As := [.ref (zg Z 51)]) (rest := []) (c_X6_startAs gl Z v w 70 isW1 51 isW0 (by decide) n j h6 hj7 (CN.f hcn).2.2.2.1 (CN.f hcn).2.2.2.2.1) mi_X6_startAs ml_RX7_169 (cc_70) (by decide) kl6 rfl ⟨Nat.le_of_ble_eq_true rfl, Nat.le_of_ble_eq_true rfl⟩ rfl hl.1 rfl (Nat.le_of_ble_eq_true rfl) dX7_on_88) (fun v88 w88 H locs hp88 h => ?_)
                obtain ⟨hx88, hw88, hl688, hft88, hsw88⟩ := hp88
                obtain ⟨-, rfl⟩ := Prod.mk.inj hw88
                replace hx88 : xC v88 _ _ = _ := hx88
                replace hl688 : v88 _ 6 = _ := hl688
                replace hft88 : frT _ v88 _ := hft88
                replace hsw88 : stW v88 _ _ := hsw88
                obtain ⟨hs88, hc88, hX88⟩ := TC_start (scC_refl v) hcn hx88 hl688 hft88
                refine lv_aload_n hx hb dX7_on_91 rfl (lv_at hl 2 rfl) ?_
                refine g_getr X h (k := 2) (t := 70) (cc_0) fr_RX7_27 rfl (by decide) (by decide) (by decide) dX7_on_92 ?_
                refine lv_iload_n hx hb dX7_on_95 rfl (lv_at hl 3 rfl) ?_
                refine g_kv h (g_runV X h (As := [.int x0]) (rest := []) (c_X6_goDays gl Z v88 w x0 k hk 70 isW1 n B j L hc88 (by omega)) mi_X6_goDays ml_RX7_165 (cc_70) (by decide) kl6 rfl ⟨Nat.le_of_ble_eq_true rfl, Nat.le_of_ble_eq_true rfl⟩ rfl hl.1 rfl (Nat.le_of_ble_eq_true rfl) dX7_on_96) (fun v96 w96 H locs hp96 h => ?_)
                obtain ⟨hx96, hw96, hfd96⟩ := hp96
                obtain ⟨-, rfl⟩ := Prod.mk.inj hw96
                replace hx96 : xC v96 _ _ = _ := hx96
                replace hfd96 : frD _ v96 _ _ := hfd96
                rw [hX88] at hx96
                have hs96 := scC_trans hs88 (scC_D hj7 hfd96)
                refine lv_iload_n hx hb dX7_on_99 rfl (lv_at hl 1 rfl) ?_
                refine lv_if_eq (tgt := 119) hx hb dX7_on_100 (by decide) (fun c_100 => ?_) (fun c_100 => ?_)
                · exact absurd c_100 (by decide)
                · skip
                  obtain ⟨kx, hkx, hkxn, hkxc⟩ := isP_nat (by omega) hT
                  have h012 : ¬ x1 = 0 ∧ ¬ x1 = 1 ∧ ¬ x1 = 2 := ⟨fun z => c_3 (by rw [z]; decide), fun z => c_3 (by rw [z]; decide), fun z => c_3 (by rw [z]; decide)⟩
                  refine lv_aload_n hx hb dX7_on_103 rfl (lv_at hl 2 rfl) ?_
                  refine g_getr X h (k := 2) (t := 70) (cc_0) fr_RX7_27 rfl (by decide) (by decide) (by decide) dX7_on_104 ?_
                  refine g_getr X h (k := 0) (t := 71) (cc_70) fr_RX7_62 rfl (by decide) (by decide) (by decide) dX7_on_107 ?_
                  refine g_getr X h (k := 4) (t := 75) (cc_71) fr_RX7_87 rfl (by decide) (by decide) (by decide) dX7_on_110 ?_
                  refine lv_iload_n hx hb dX7_on_113 rfl (lv_at hl 4 rfl) ?_
                  refine lv_bipush (v := 10) hx hb dX7_on_114 (by decide) ?_
                  refine lv_isub hx hb dX7_on_116 ?_
                  refine g_iald X h (k := kx) (cc_75) hkx (by omega) (by decide) dX7_on_117 ?_
                  exact g_iret X h dX7_on_118 ⟨(by rw [sOn, if_pos (by simp [hT]), if_pos c_74, hkc, onS, ← hx96]; rw [if_neg h012.1, if_neg h012.2.1, if_neg h012.2.2, if_pos hT, hkxc]; exact (xC_th (v := v96) (b := 70) (n := n) (by omega)).symm), rfl, hs96⟩
              · skip
                rw [hr71, bI_0] at c_74
                refine lv_bipush (v := (-2)) hx hb dX7_on_77 (by decide) ?_
                exact g_iret X h dX7_on_79 ⟨by rw [sOn, if_pos (by simp [hT]), if_neg (by rw [c_74]; simp)], rfl, scC_refl v⟩
            · exact absurd c_57 (by decide)
        · skip
          rw [hr34, bI_n] at c_37
          have hG : isP (nI n) (x1 - 20) = true := c_37
          refine lv_iconst (v := 1) hx hb dX7_on_40 (by decide) ?_
          refine lv_goto (tgt := 45) hx hb dX7_on_41 (by decide) ?_
          refine lv_istore (lv' := [(4, .int 1), (3, .int 1), (0, .ref (zg Z 0)), (1, .int x0), (2, .int x1)]) hx hb dX7_on_45 hl (by decide) rfl (fun ls hl => ?_)
          refine lv_iload_n hx hb dX7_on_47 rfl (lv_at hl 4 rfl) ?_
          refine lv_iconst (v := 0) hx hb dX7_on_48 (by decide) ?_
          refine lv_iconst (v := 2) hx hb dX7_on_49 (by decide) ?_
          refine g_ki h (g_runS X h (As := [.int x1, .int 0, .int 2]) (rest := []) (c_X7_isWithin gl Z v w x1 0 2) ms_X7_isWithin ml_RX7_58 ⟨Nat.le_of_ble_eq_true rfl, Nat.le_of_ble_eq_true rfl⟩ rfl hl.1 rfl (Nat.le_of_ble_eq_true rfl) dX7_on_50) (fun r50 v50 w50 H locs hp50 h => ?_)
          obtain ⟨hr50, hu50⟩ := hp50; obtain ⟨rfl, rfl⟩ := Prod.mk.inj hu50
          refine lv_if_ne (tgt := 67) hx hb dX7_on_53 (by decide) (fun c_53 => ?_) (fun c_53 => ?_)
          · skip
            rw [hr50, bI_n] at c_53
            refine lv_iload_n hx hb dX7_on_67 rfl (lv_at hl 3 rfl) ?_
            refine lv_iconst (v := 0) hx hb dX7_on_68 (by decide) ?_
            refine lv_bipush (v := 60) hx hb dX7_on_69 (by decide) ?_
            refine g_ki h (g_runS X h (As := [.int x0, .int 0, .int 60]) (rest := []) (c_X7_isWithin gl Z v w x0 0 60) ms_X7_isWithin ml_RX7_58 ⟨Nat.le_of_ble_eq_true rfl, Nat.le_of_ble_eq_true rfl⟩ rfl hl.1 rfl (Nat.le_of_ble_eq_true rfl) dX7_on_71) (fun r71 v71 w71 H locs hp71 h => ?_)
            obtain ⟨hr71, hu71⟩ := hp71; obtain ⟨rfl, rfl⟩ := Prod.mk.inj hu71
            refine lv_if_ne (tgt := 80) hx hb dX7_on_74 (by decide) (fun c_74 => ?_) (fun c_74 => ?_)
            · skip
              rw [hr71, bI_n] at c_74
              obtain ⟨k, hk, hk0, hk60, hkc⟩ := inR_nat (a := 0) (b := 60) rfl rfl (by decide) c_74
              refine lv_aload_n hx hb dX7_on_80 rfl (lv_at hl 2 rfl) ?_
              refine g_getr X h (k := 2) (t := 70) (cc_0) fr_RX7_27 rfl (by decide) (by decide) (by decide) dX7_on_81 ?_
              refine lv_aload_n hx hb dX7_on_84 rfl (lv_at hl 2 rfl) ?_
              refine g_getr X h (k := 1) (t := 51) (cc_0) fr_RX7_23 rfl (by decide) (by decide) (by decide) dX7_on_85 ?_
              refine g_kv h (g_runV X h (As := [.ref (zg Z 51)]) (rest := []) (c_X6_startAs gl Z v w 70 isW1 51 isW0 (by decide) n j h6 hj7 (CN.f hcn).2.2.2.1 (CN.f hcn).2.2.2.2.1) mi_X6_startAs ml_RX7_169 (cc_70) (by decide) kl6 rfl ⟨Nat.le_of_ble_eq_true rfl, Nat.le_of_ble_eq_true rfl⟩ rfl hl.1 rfl (Nat.le_of_ble_eq_true rfl) dX7_on_88) (fun v88 w88 H locs hp88 h => ?_)
              obtain ⟨hx88, hw88, hl688, hft88, hsw88⟩ := hp88
              obtain ⟨-, rfl⟩ := Prod.mk.inj hw88
              replace hx88 : xC v88 _ _ = _ := hx88
              replace hl688 : v88 _ 6 = _ := hl688
              replace hft88 : frT _ v88 _ := hft88
              replace hsw88 : stW v88 _ _ := hsw88
              obtain ⟨hs88, hc88, hX88⟩ := TC_start (scC_refl v) hcn hx88 hl688 hft88
              refine lv_aload_n hx hb dX7_on_91 rfl (lv_at hl 2 rfl) ?_
              refine g_getr X h (k := 2) (t := 70) (cc_0) fr_RX7_27 rfl (by decide) (by decide) (by decide) dX7_on_92 ?_
              refine lv_iload_n hx hb dX7_on_95 rfl (lv_at hl 3 rfl) ?_
              refine g_kv h (g_runV X h (As := [.int x0]) (rest := []) (c_X6_goDays gl Z v88 w x0 k hk 70 isW1 n B j L hc88 (by omega)) mi_X6_goDays ml_RX7_165 (cc_70) (by decide) kl6 rfl ⟨Nat.le_of_ble_eq_true rfl, Nat.le_of_ble_eq_true rfl⟩ rfl hl.1 rfl (Nat.le_of_ble_eq_true rfl) dX7_on_96) (fun v96 w96 H locs hp96 h => ?_)
              obtain ⟨hx96, hw96, hfd96⟩ := hp96
              obtain ⟨-, rfl⟩ := Prod.mk.inj hw96
              replace hx96 : xC v96 _ _ = _ := hx96
              replace hfd96 : frD _ v96 _ _ := hfd96
              rw [hX88] at hx96
              have hs96 := scC_trans hs88 (scC_D hj7 hfd96)
              refine lv_iload_n hx hb dX7_on_99 rfl (lv_at hl 1 rfl) ?_
              refine lv_if_eq (tgt := 119) hx hb dX7_on_100 (by decide) (fun c_100 => ?_) (fun c_100 => ?_)
              · exact absurd c_100 (by decide)
              · skip
                obtain ⟨kx, hkx, hkxn, hkxc⟩ := isP_nat (by omega) hT
                have h012 : ¬ x1 = 0 ∧ ¬ x1 = 1 ∧ ¬ x1 = 2 := ⟨fun z => c_3 (by rw [z]; decide), fun z => c_3 (by rw [z]; decide), fun z => c_3 (by rw [z]; decide)⟩
                refine lv_aload_n hx hb dX7_on_103 rfl (lv_at hl 2 rfl) ?_
                refine g_getr X h (k := 2) (t := 70) (cc_0) fr_RX7_27 rfl (by decide) (by decide) (by decide) dX7_on_104 ?_
                refine g_getr X h (k := 0) (t := 71) (cc_70) fr_RX7_62 rfl (by decide) (by decide) (by decide) dX7_on_107 ?_
                refine g_getr X h (k := 4) (t := 75) (cc_71) fr_RX7_87 rfl (by decide) (by decide) (by decide) dX7_on_110 ?_
                refine lv_iload_n hx hb dX7_on_113 rfl (lv_at hl 4 rfl) ?_
                refine lv_bipush (v := 10) hx hb dX7_on_114 (by decide) ?_
                refine lv_isub hx hb dX7_on_116 ?_
                refine g_iald X h (k := kx) (cc_75) hkx (by omega) (by decide) dX7_on_117 ?_
                exact g_iret X h dX7_on_118 ⟨(by rw [sOn, if_pos (by simp [hT]), if_pos c_74, hkc, onS, ← hx96]; rw [if_neg h012.1, if_neg h012.2.1, if_neg h012.2.2, if_pos hT, hkxc]; exact (xC_th (v := v96) (b := 70) (n := n) (by omega)).symm), rfl, hs96⟩
            · skip
              rw [hr71, bI_0] at c_74
              refine lv_bipush (v := (-2)) hx hb dX7_on_77 (by decide) ?_
              exact g_iret X h dX7_on_79 ⟨by rw [sOn, if_pos (by simp [hT]), if_neg (by rw [c_74]; simp)], rfl, scC_refl v⟩
          · skip
            rw [hr50, bI_0] at c_53
            refine lv_iload_n hx hb dX7_on_56 rfl (lv_at hl 1 rfl) ?_
            refine lv_if_ne (tgt := 67) hx hb dX7_on_57 (by decide) (fun c_57 => ?_) (fun c_57 => ?_)
            · skip
              refine lv_iload_n hx hb dX7_on_67 rfl (lv_at hl 3 rfl) ?_
              refine lv_iconst (v := 0) hx hb dX7_on_68 (by decide) ?_
              refine lv_bipush (v := 60) hx hb dX7_on_69 (by decide) ?_
              refine g_ki h (g_runS X h (As := [.int x0, .int 0, .int 60]) (rest := []) (c_X7_isWithin gl Z v w x0 0 60) ms_X7_isWithin ml_RX7_58 ⟨Nat.le_of_ble_eq_true rfl, Nat.le_of_ble_eq_true rfl⟩ rfl hl.1 rfl (Nat.le_of_ble_eq_true rfl) dX7_on_71) (fun r71 v71 w71 H locs hp71 h => ?_)
              obtain ⟨hr71, hu71⟩ := hp71; obtain ⟨rfl, rfl⟩ := Prod.mk.inj hu71
              refine lv_if_ne (tgt := 80) hx hb dX7_on_74 (by decide) (fun c_74 => ?_) (fun c_74 => ?_)
              · skip
                rw [hr71, bI_n] at c_74
                obtain ⟨k, hk, hk0, hk60, hkc⟩ := inR_nat (a := 0) (b := 60) rfl rfl (by decide) c_74
                refine lv_aload_n hx hb dX7_on_80 rfl (lv_at hl 2 rfl) ?_
                refine g_getr X h (k := 2) (t := 70) (cc_0) fr_RX7_27 rfl (by decide) (by decide) (by decide) dX7_on_81 ?_
                refine lv_aload_n hx hb dX7_on_84 rfl (lv_at hl 2 rfl) ?_
                refine g_getr X h (k := 1) (t := 51) (cc_0) fr_RX7_23 rfl (by decide) (by decide) (by decide) dX7_on_85 ?_
                refine g_kv h (g_runV X h (As := [.ref (zg Z 51)]) (rest := []) (c_X6_startAs gl Z v w 70 isW1 51 isW0 (by decide) n j h6 hj7 (CN.f hcn).2.2.2.1 (CN.f hcn).2.2.2.2.1) mi_X6_startAs ml_RX7_169 (cc_70) (by decide) kl6 rfl ⟨Nat.le_of_ble_eq_true rfl, Nat.le_of_ble_eq_true rfl⟩ rfl hl.1 rfl (Nat.le_of_ble_eq_true rfl) dX7_on_88) (fun v88 w88 H locs hp88 h => ?_)
                obtain ⟨hx88, hw88, hl688, hft88, hsw88⟩ := hp88
                obtain ⟨-, rfl⟩ := Prod.mk.inj hw88
                replace hx88 : xC v88 _ _ = _ := hx88
                replace hl688 : v88 _ 6 = _ := hl688
                replace hft88 : frT _ v88 _ := hft88
                replace hsw88 : stW v88 _ _ := hsw88
                obtain ⟨hs88, hc88, hX88⟩ := TC_start (scC_refl v) hcn hx88 hl688 hft88
                refine lv_aload_n hx hb dX7_on_91 rfl (lv_at hl 2 rfl) ?_
                refine g_getr X h (k := 2) (t := 70) (cc_0) fr_RX7_27 rfl (by decide) (by decide) (by decide) dX7_on_92 ?_
                refine lv_iload_n hx hb dX7_on_95 rfl (lv_at hl 3 rfl) ?_
                refine g_kv h (g_runV X h (As := [.int x0]) (rest := []) (c_X6_goDays gl Z v88 w x0 k hk 70 isW1 n B j L hc88 (by omega)) mi_X6_goDays ml_RX7_165 (cc_70) (by decide) kl6 rfl ⟨Nat.le_of_ble_eq_true rfl, Nat.le_of_ble_eq_true rfl⟩ rfl hl.1 rfl (Nat.le_of_ble_eq_true rfl) dX7_on_96) (fun v96 w96 H locs hp96 h => ?_)
                obtain ⟨hx96, hw96, hfd96⟩ := hp96
                obtain ⟨-, rfl⟩ := Prod.mk.inj hw96
                replace hx96 : xC v96 _ _ = _ := hx96
                replace hfd96 : frD _ v96 _ _ := hfd96
                rw [hX88] at hx96
                have hs96 := scC_trans hs88 (scC_D hj7 hfd96)
                refine lv_iload_n hx hb dX7_on_99 rfl (lv_at hl 1 rfl) ?_
                refine lv_if_eq (tgt := 119) hx hb dX7_on_100 (by decide) (fun c_100 => ?_) (fun c_100 => ?_)
                · exact absurd c_100 (by decide)
                · skip
                  obtain ⟨kx, hkx, hkxn, hkxc⟩ := isP_nat (by omega) hT
                  have h012 : ¬ x1 = 0 ∧ ¬ x1 = 1 ∧ ¬ x1 = 2 := ⟨fun z => c_3 (by rw [z]; decide), fun z => c_3 (by rw [z]; decide), fun z => c_3 (by rw [z]; decide)⟩
                  refine lv_aload_n hx hb dX7_on_103 rfl (lv_at hl 2 rfl) ?_
                  refine g_getr X h (k := 2) (t := 70) (cc_0) fr_RX7_27 rfl (by decide) (by decide) (by decide) dX7_on_104 ?_
                  refine g_getr X h (k := 0) (t := 71) (cc_70) fr_RX7_62 rfl (by decide) (by decide) (by decide) dX7_on_107 ?_
                  refine g_getr X h (k := 4) (t := 75) (cc_71) fr_RX7_87 rfl (by decide) (by decide) (by decide) dX7_on_110 ?_
                  refine lv_iload_n hx hb dX7_on_113 rfl (lv_at hl 4 rfl) ?_
                  refine lv_bipush (v := 10) hx hb dX7_on_114 (by decide) ?_
                  refine lv_isub hx hb dX7_on_116 ?_
                  refine g_iald X h (k := kx) (cc_75) hkx (by omega) (by decide) dX7_on_117 ?_
                  exact g_iret X h dX7_on_118 ⟨(by rw [sOn, if_pos (by simp [hT]), if_pos c_74, hkc, onS, ← hx96]; rw [if_neg h012.1, if_neg h012.2.1, if_neg h012.2.2, if_pos hT, hkxc]; exact (xC_th (v := v96) (b := 70) (n := n) (by omega)).symm), rfl, hs96⟩
              · skip
                rw [hr71, bI_0] at c_74
                refine lv_bipush (v := (-2)) hx hb dX7_on_77 (by decide) ?_
                exact g_iret X h dX7_on_79 ⟨by rw [sOn, if_pos (by simp [hT]), if_neg (by rw [c_74]; simp)], rfl, scC_refl v⟩
            · exact absurd c_57 (by decide)

set_option maxRecDepth 100000 in
set_option maxHeartbeats 1000000 in
theorem c_X7_aim (gl : Launch) (Z : PL) (v : VV) (w : WV) (n : Nat) (B : Nat) (j : Nat) (L : LND) (hcn : CN v n B j L) (hB40 : B + 40 < 1000000) : CT gl yX7_aim cX7_aim 4 (some .int) 5 124 Z [.ref (zg Z 0)] v w (Qi Z (fun r u => r = (aimF (xC v 51 n) L n n).2 ∧ (u.1, w) = u ∧ scC v u.1)) := by
  refine g_met (by decide) (Nat.le_of_ble_eq_true rfl) ?_
  intro gp ge gs gm ga gb gh gc X h ls hl
  have hx := X.1
  have hb := X.2.1
  have hl : lv_has ls 4 [(0, .ref (zg Z 0))] := hl
  obtain ⟨hn, h6, hj7, hland, hst, hrx, hB⟩ := CN.f hcn
  refine lv_bipush (v := (-5)) hx hb dX7_aim_0 (by decide) ?_
  refine lv_istore_n (lv' := [(1, .int (-5)), (0, .ref (zg Z 0))]) hx hb dX7_aim_2 rfl hl (by decide) rfl (fun ls hl => ?_)
  refine lv_iconst (v := (-1)) hx hb dX7_aim_3 (by decide) ?_
  refine lv_istore_n (lv' := [(2, .int (-1)), (1, .int (-5)), (0, .ref (zg Z 0))]) hx hb dX7_aim_4 rfl hl (by decide) rfl (fun ls hl => ?_)
  refine lv_iconst (v := 0) hx hb dX7_aim_5 (by decide) ?_
  refine lv_istore_n (lv' := [(3, .int 0), (2, .int (-1)), (1, .int (-5)), (0, .ref (zg Z 0))]) hx hb dX7_aim_6 rfl hl (by decide) rfl (fun ls hl => ?_)
  have L7 : ∀ (n7 : Nat) (i : Nat) (x1 x2 x3 : Int32) (va : VV), (x3 = nI i) → (i ≤ n) → ((x2, x1) = aimF (xC v 51 n) L n i) → (scC v va) → n - i < n7 → ∀ (H : Heap) (locs : List Loc), HS Z gs va w H locs → ∀ ls : Array Slot, lv_has ls 4 [(0, .ref (zg Z 0)), (1, .int x1), (2, .int x2), (3, .int x3)] → W gp gl ge (rmm 5 124) gs gm ga gb gh gc H locs 0 0 (MQ gb (Qi Z (fun r u => r = (aimF (xC v 51 n) L n n).2 ∧ (u.1, w) = u ∧ scC v u.1)) ga gs 0 0 (zA Z)) (F0 gm 7 ls []) := by
    intro n7
    induction n7 with
    | zero => intro i x1 x2 x3 va hi3 hi hai hsa hmu; exact absurd hmu (Nat.not_lt_zero _)
    | succ n7 ih7 =>
      intro i x1 x2 x3 va hi3 hi hai hsa hmu7 H locs h ls hl
      refine lv_iload_n hx hb dX7_aim_7 rfl (lv_at hl 3 rfl) ?_
      refine lv_aload_n hx hb dX7_aim_8 rfl (lv_at hl 0 rfl) ?_
      refine g_getr X h (k := 1) (t := 51) (cc_0) fr_RX7_23 rfl (by decide) (by decide) (by decide) dX7_aim_9 ?_
      refine g_getr X h (k := 0) (t := 52) (cc_51) fr_RX7_62 rfl (by decide) (by decide) (by decide) dX7_aim_12 ?_
      refine g_geti X h (k := 0) (cc_52) fr_RX7_66 rfl (by decide) dX7_aim_15 ?_
      refine g_tr (y := (v 52 0)) (by rw [sq_at hsa (i := 52) (by omega) (by omega) (by omega)]) ?_
      refine lv_icmp_ge (tgt := 86) hx hb dX7_aim_18 (by decide) (fun c_18 => ?_) (fun c_18 => ?_)
      · skip
        have hin := nI_le1 (a := n) (b := i) hn hi3 (by omega) (by omega) c_18
        refine lv_iload_n hx hb dX7_aim_86 rfl (lv_at hl 1 rfl) ?_
        exact g_iret X h dX7_aim_87 ⟨by rw [show n = i by omega, ← show (x2, x1) = aimF (xC v 51 i) L i i from (by rw [show i = n by omega] at hai ⊢; exact hai)], rfl, hsa⟩
      · skip
        have hin := nI_le0 (a := n) (b := i) hn hi3 (by omega) (by omega) c_18
        refine lv_aload_n hx hb dX7_aim_21 rfl (lv_at hl 0 rfl) ?_
        refine g_getr X h (k := 2) (t := 70) (cc_0) fr_RX7_27 rfl (by decide) (by decide) (by decide) dX7_aim_22 ?_
        refine lv_aload_n hx hb dX7_aim_25 rfl (lv_at hl 0 rfl) ?_
        refine g_getr X h (k := 1) (t := 51) (cc_0) fr_RX7_23 rfl (by decide) (by decide) (by decide) dX7_aim_26 ?_
        refine g_kv h (g_runV X h (As := [.ref (zg Z 51)]) (rest := []) (c_X6_startAs gl Z va w 70 isW1 51 isW0 (by decide) n j h6 hj7 (CN.f (CN_sc hsa hcn)).2.2.2.1 (CN.f (CN_sc hsa hcn)).2.2.2.2.1) mi_X6_startAs ml_RX7_169 (cc_70) (by decide) kl6 rfl ⟨Nat.le_of_ble_eq_true rfl, Nat.le_of_ble_eq_true rfl⟩ rfl hl.1 rfl (Nat.le_of_ble_eq_true rfl) dX7_aim_29) (fun v29 w29 H locs hp29 h => ?_)
        obtain ⟨hx29, hw29, hl629, hft29, hsw29⟩ := hp29
        obtain ⟨-, rfl⟩ := Prod.mk.inj hw29
        replace hx29 : xC v29 _ _ = _ := hx29
        replace hl629 : v29 _ 6 = _ := hl629
        replace hft29 : frT _ v29 _ := hft29
        replace hsw29 : stW v29 _ _ := hsw29
        obtain ⟨hs29, hc29, hX29⟩ := TC_start hsa hcn hx29 hl629 hft29
        refine lv_aload_n hx hb dX7_aim_32 rfl (lv_at hl 0 rfl) ?_
        refine g_getr X h (k := 2) (t := 70) (cc_0) fr_RX7_27 rfl (by decide) (by decide) (by decide) dX7_aim_33 ?_
        refine g_getr X h (k := 4) (t := 78) (cc_70) fr_RX7_126 rfl (by decide) (by decide) (by decide) dX7_aim_36 ?_
        refine lv_iconst (v := 0) hx hb dX7_aim_39 (by decide) ?_
        refine lv_iload_n hx hb dX7_aim_40 rfl (lv_at hl 3 rfl) ?_
        refine g_iast X h (k := 0) (cc_78) rfl (by omega) (by decide) dX7_aim_41 (fun v41 H locs ev41 h => ?_)
        refine lv_aload_n hx hb dX7_aim_42 rfl (lv_at hl 0 rfl) ?_
        refine g_getr X h (k := 2) (t := 70) (cc_0) fr_RX7_27 rfl (by decide) (by decide) (by decide) dX7_aim_43 ?_
        refine lv_iconst (v := 1) hx hb dX7_aim_46 (by decide) ?_
        refine g_puti X h (k := 5) (cc_70) fp_RX7_123 rfl (by decide) dX7_aim_47 (fun v47 H locs ev47 h => ?_)
        have hx47 : xC v47 70 n = aimX (xC v 51 n) i := by rw [ev47, xC_up_pl, ev41, xT_rnd (by omega), hX29, hi3]; exact aim_x
        have hc47 : CW v47 70 n B j L := CW70 hc29 (fun i hi => by rw [ev47, up2_ne (by omega), ev41, up2_ne (by omega)]) (by rw [ev47, up2_slot (by decide), ev41, up2_ne (by decide)]) (by rw [ev47, up2_ne (by decide), ev41, up2_ne (by decide)]) (by rw [hx47]; exact RX_aim hin hrx)
        have hs47 : scC v v47 := by rw [ev47, ev41]; exact scC_up (scC_up hs29 (by decide)) (by decide)
        refine lv_aload_n hx hb dX7_aim_50 rfl (lv_at hl 0 rfl) ?_
        refine g_getr X h (k := 2) (t := 70) (cc_0) fr_RX7_27 rfl (by decide) (by decide) (by decide) dX7_aim_51 ?_
        refine lv_bipush (v := 40) hx hb dX7_aim_54 (by decide) ?_
        refine g_kv h (g_runV X h (As := [.int 40]) (rest := []) (c_X6_goDays gl Z v47 w 40 40 rfl 70 isW1 n B j L hc47 (by omega)) mi_X6_goDays ml_RX7_165 (cc_70) (by decide) kl6 rfl ⟨Nat.le_of_ble_eq_true rfl, Nat.le_of_ble_eq_true rfl⟩ rfl hl.1 rfl (Nat.le_of_ble_eq_true rfl) dX7_aim_56) (fun v56 w56 H locs hp56 h => ?_)
        obtain ⟨hx56, hw56, hfd56⟩ := hp56
        obtain ⟨-, rfl⟩ := Prod.mk.inj hw56
        replace hx56 : xC v56 _ _ = _ := hx56
        replace hfd56 : frD _ v56 _ _ := hfd56
        rw [hx47] at hx56
        have hs56 := scC_trans hs47 (scC_D hj7 hfd56)
        refine lv_aload_n hx hb dX7_aim_59 rfl (lv_at hl 0 rfl) ?_
        refine g_getr X h (k := 2) (t := 70) (cc_0) fr_RX7_27 rfl (by decide) (by decide) (by decide) dX7_aim_60 ?_
        refine g_geti X h (k := 1) (cc_70) fr_RX7_117 rfl (by decide) dX7_aim_63 ?_
        refine lv_iload_n hx hb dX7_aim_66 rfl (lv_at hl 2 rfl) ?_
        refine lv_icmp_le (tgt := 80) hx hb dX7_aim_67 (by decide) (fun c_67 => ?_) (fun c_67 => ?_)
        · skip
          refine lv_iinc (v := (x3 + 1)) (lv' := [(3, .int (x3 + 1)), (0, .ref (zg Z 0)), (1, .int x1), (2, .int x2)]) hx hb dX7_aim_80 hl (k := 3) rfl rfl (by decide) rfl (fun ls hl => ?_)
          refine lv_goto (tgt := 7) hx hb dX7_aim_83 (by decide) ?_
          exact ih7 (i + 1) x1 x2 (x3 + 1) v56 (by rw [hi3]; exact nI_1 _) (by omega) (aim_s hai (show v56 70 1 = _ from congrFun (congrFun hx56 0) 1) hi3 (Or.inl ⟨c_67, rfl, rfl⟩)) hs56 (by omega) _ _ h ls (lv_sub hl [1, 2, 3, 0] rfl)
        · skip
          refine lv_aload_n hx hb dX7_aim_70 rfl (lv_at hl 0 rfl) ?_
          refine g_getr X h (k := 2) (t := 70) (cc_0) fr_RX7_27 rfl (by decide) (by decide) (by decide) dX7_aim_71 ?_
          refine g_geti X h (k := 1) (cc_70) fr_RX7_117 rfl (by decide) dX7_aim_74 ?_
          refine lv_topi (fun x2_77 ex2_77 => ?_)
          refine lv_istore_n (lv' := [(2, .int x2_77), (0, .ref (zg Z 0)), (1, .int x1), (3, .int x3)]) hx hb dX7_aim_77 rfl hl (by decide) rfl (fun ls hl => ?_)
          refine lv_iload_n hx hb dX7_aim_78 rfl (lv_at hl 3 rfl) ?_
          refine lv_istore_n (lv' := [(1, .int x3), (2, .int x2_77), (0, .ref (zg Z 0)), (3, .int x3)]) hx hb dX7_aim_79 rfl hl (by decide) rfl (fun ls hl => ?_)
          refine lv_iinc (v := (x3 + 1)) (lv' := [(3, .int (x3 + 1)), (1, .int x3), (2, .int x2_77), (0, .ref (zg Z 0))]) hx hb dX7_aim_80 hl (k := 3) rfl rfl (by decide) rfl (fun ls hl => ?_)
          refine lv_goto (tgt := 7) hx hb dX7_aim_83 (by decide) ?_
          exact ih7 (i + 1) x3 x2_77 (x3 + 1) v56 (by rw [hi3]; exact nI_1 _) (by omega) (aim_s hai (show v56 70 1 = _ from congrFun (congrFun hx56 0) 1) hi3 (Or.inr ⟨c_67, ex2_77, rfl⟩)) hs56 (by omega) _ _ h ls (lv_sub hl [3, 1, 2, 0] rfl)
  exact L7 (n - 0 + 1) 0 (-5) (-1) 0 v rfl (Nat.zero_le _) rfl (scC_refl v) (Nat.lt_succ_self _) _ _ h ls (lv_sub hl [3, 2, 1, 0] rfl)

set_option maxRecDepth 100000 in
set_option maxHeartbeats 1000000 in
theorem c_X7_enough (gl : Launch) (Z : PL) (v : VV) (w : WV) (x0 : Int32) (n : Nat) (B : Nat) (j : Nat) (L : LND) (hcn : CN v n B j L) (hB60 : B + 60 < 1000000) : CT gl yX7_enough cX7_enough 3 (some .int) 5 124 Z [.ref (zg Z 0), .int x0] v w (Qi Z (fun r u => r = sEnough (xC v 51 n) L n x0 ∧ (u.1, w) = u ∧ scC v u.1)) := by
  refine g_met (by decide) (Nat.le_of_ble_eq_true rfl) ?_
  intro gp ge gs gm ga gb gh gc X h ls hl
  have hx := X.1
  have hb := X.2.1
  have hl : lv_has ls 3 [(0, .ref (zg Z 0)), (1, .int x0)] := hl
  obtain ⟨hn, h6, hj7, hland, hst, hrx, hB⟩ := CN.f hcn
  refine lv_iload_n hx hb dX7_enough_0 rfl (lv_at hl 1 rfl) ?_
  refine lv_iconst (v := 1) hx hb dX7_enough_1 (by decide) ?_
  refine lv_bipush (v := 20) hx hb dX7_enough_2 (by decide) ?_
  refine g_ki h (g_runS X h (As := [.int x0, .int 1, .int 20]) (rest := []) (c_X7_isWithin gl Z v w x0 1 20) ms_X7_isWithin ml_RX7_58 ⟨Nat.le_of_ble_eq_true rfl, Nat.le_of_ble_eq_true rfl⟩ rfl hl.1 rfl (Nat.le_of_ble_eq_true rfl) dX7_enough_4) (fun r4 v4 w4 H locs hp4 h => ?_)
  obtain ⟨hr4, hu4⟩ := hp4; obtain ⟨rfl, rfl⟩ := Prod.mk.inj hu4
  refine lv_if_ne (tgt := 13) hx hb dX7_enough_7 (by decide) (fun c_7 => ?_) (fun c_7 => ?_)
  · skip
    rw [hr4, bI_n] at c_7
    obtain ⟨k, hk, hkl, hkn, hkc⟩ := inR_nat (a := 1) (b := 20) rfl rfl (by decide) c_7
    refine lv_iconst (v := 0) hx hb dX7_enough_13 (by decide) ?_
    refine lv_istore_n (lv' := [(2, .int 0), (0, .ref (zg Z 0)), (1, .int x0)]) hx hb dX7_enough_14 rfl hl (by decide) rfl (fun ls hl => ?_)
    have L15 : ∀ (n15 : Nat) (i : Nat) (x2 : Int32) (va : VV), (x2 = nI i) → (i ≤ 41) → (minD (enP (xC v 51 n) L n k) 40 41 = minD (enP (xC v 51 n) L n k) 40 (41 - i)) → (scC v va) → 41 - i < n15 → ∀ (H : Heap) (locs : List Loc), HS Z gs va w H locs → ∀ ls : Array Slot, lv_has ls 3 [(0, .ref (zg Z 0)), (1, .int x0), (2, .int x2)] → W gp gl ge (rmm 5 124) gs gm ga gb gh gc H locs 0 0 (MQ gb (Qi Z (fun r u => r = sEnough (xC v 51 n) L n x0 ∧ (u.1, w) = u ∧ scC v u.1)) ga gs 0 0 (zA Z)) (F0 gm 15 ls []) := by
      intro n15
      induction n15 with
      | zero => intro i x2 va hi2 hi hmi hsa hmu; exact absurd hmu (Nat.not_lt_zero _)
      | succ n15 ih15 =>
        intro i x2 va hi2 hi hmi hsa hmu15 H locs h ls hl
        refine lv_iload_n hx hb dX7_enough_15 rfl (lv_at hl 2 rfl) ?_
        refine lv_bipush (v := 40) hx hb dX7_enough_16 (by decide) ?_
        refine lv_icmp_gt (tgt := 66) hx hb dX7_enough_18 (by decide) (fun c_18 => ?_) (fun c_18 => ?_)
        · skip
          have hi40 := nI_lt1 (a := 40) (b := i) rfl hi2 (by omega) (by omega) c_18
          refine lv_bipush (v := (-5)) hx hb dX7_enough_66 (by decide) ?_
          exact g_iret X h dX7_enough_68 ⟨by rw [sEnough, if_pos c_7, hkc, hmi, show i = 41 by omega]; rfl, rfl, hsa⟩
        · skip
          have hi40 := nI_lt0 (a := 40) (b := i) rfl hi2 (by omega) (by omega) c_18
          refine lv_aload_n hx hb dX7_enough_21 rfl (lv_at hl 0 rfl) ?_
          refine g_getr X h (k := 2) (t := 70) (cc_0) fr_RX7_27 rfl (by decide) (by decide) (by decide) dX7_enough_22 ?_
          refine lv_aload_n hx hb dX7_enough_25 rfl (lv_at hl 0 rfl) ?_
          refine g_getr X h (k := 1) (t := 51) (cc_0) fr_RX7_23 rfl (by decide) (by decide) (by decide) dX7_enough_26 ?_
          refine g_kv h (g_runV X h (As := [.ref (zg Z 51)]) (rest := []) (c_X6_startAs gl Z va w 70 isW1 51 isW0 (by decide) n j h6 hj7 (CN.f (CN_sc hsa hcn)).2.2.2.1 (CN.f (CN_sc hsa hcn)).2.2.2.2.1) mi_X6_startAs ml_RX7_169 (cc_70) (by decide) kl6 rfl ⟨Nat.le_of_ble_eq_true rfl, Nat.le_of_ble_eq_true rfl⟩ rfl hl.1 rfl (Nat.le_of_ble_eq_true rfl) dX7_enough_29) (fun v29 w29 H locs hp29 h => ?_)
          obtain ⟨hx29, hw29, hl629, hft29, hsw29⟩ := hp29
          obtain ⟨-, rfl⟩ := Prod.mk.inj hw29
          replace hx29 : xC v29 _ _ = _ := hx29
          replace hl629 : v29 _ 6 = _ := hl629
          replace hft29 : frT _ v29 _ := hft29
          replace hsw29 : stW v29 _ _ := hsw29
          obtain ⟨hs29, hc29, hX29⟩ := TC_start hsa hcn hx29 hl629 hft29
          refine lv_aload_n hx hb dX7_enough_32 rfl (lv_at hl 0 rfl) ?_
          refine g_getr X h (k := 2) (t := 70) (cc_0) fr_RX7_27 rfl (by decide) (by decide) (by decide) dX7_enough_33 ?_
          refine lv_iload_n hx hb dX7_enough_36 rfl (lv_at hl 2 rfl) ?_
          refine g_puti X h (k := 8) (cc_70) fp_RX7_153 rfl (by decide) dX7_enough_37 (fun v37 H locs ev37 h => ?_)
          have hx37 : xC v37 70 n = up2 (xC v 51 n) 0 6 (nI i) := by rw [ev37, xC_up_pk, hX29, hi2]
          have hc37 : CW v37 70 n B j L := CW70 hc29 (fun i hi => by rw [ev37, up2_ne (by omega)]) (by rw [ev37, up2_slot (by decide)]) (by rw [ev37, up2_ne (by decide)]) (by rw [hx37]; exact RX_pk (by omega) hrx)
          have hs37 : scC v v37 := by rw [ev37]; exact scC_up hs29 (by decide)
          refine lv_aload_n hx hb dX7_enough_40 rfl (lv_at hl 0 rfl) ?_
          refine g_getr X h (k := 2) (t := 70) (cc_0) fr_RX7_27 rfl (by decide) (by decide) (by decide) dX7_enough_41 ?_
          refine lv_iload_n hx hb dX7_enough_44 rfl (lv_at hl 1 rfl) ?_
          refine g_kv h (g_runV X h (As := [.int x0]) (rest := []) (c_X6_goDays gl Z v37 w x0 k hk 70 isW1 n B j L hc37 (by omega)) mi_X6_goDays ml_RX7_165 (cc_70) (by decide) kl6 rfl ⟨Nat.le_of_ble_eq_true rfl, Nat.le_of_ble_eq_true rfl⟩ rfl hl.1 rfl (Nat.le_of_ble_eq_true rfl) dX7_enough_45) (fun v45 w45 H locs hp45 h => ?_)
          obtain ⟨hx45, hw45, hfd45⟩ := hp45
          obtain ⟨-, rfl⟩ := Prod.mk.inj hw45
          replace hx45 : xC v45 _ _ = _ := hx45
          replace hfd45 : frD _ v45 _ _ := hfd45
          rw [hx37] at hx45
          have hs45 := scC_trans hs37 (scC_D hj7 hfd45)
          refine lv_aload_n hx hb dX7_enough_48 rfl (lv_at hl 0 rfl) ?_
          refine g_getr X h (k := 2) (t := 70) (cc_0) fr_RX7_27 rfl (by decide) (by decide) (by decide) dX7_enough_49 ?_
          refine g_ki h (g_runV X h (As := []) (rest := []) (c_X6_isGone gl Z v45 w 70 isW1 n (B + k) (by rw [hx45]; exact RX_daysS h6 (RX_pk (by omega) hrx) k (by omega))) mi_X6_isGone ml_RX7_162 (cc_70) (by decide) kl6 rfl ⟨Nat.le_of_ble_eq_true rfl, Nat.le_of_ble_eq_true rfl⟩ rfl hl.1 rfl (Nat.le_of_ble_eq_true rfl) dX7_enough_52) (fun r52 v52 w52 H locs hp52 h => ?_)
          obtain ⟨hr52, hu52⟩ := hp52; obtain ⟨rfl, rfl⟩ := Prod.mk.inj hu52
          rw [hx45] at hr52
          refine lv_if_ne (tgt := 60) hx hb dX7_enough_55 (by decide) (fun c_55 => ?_) (fun c_55 => ?_)
          · skip
            rw [hr52, bI_n] at c_55
            refine lv_iinc (v := (x2 + 1)) (lv' := [(2, .int (x2 + 1)), (0, .ref (zg Z 0)), (1, .int x0)]) hx hb dX7_enough_60 hl (k := 2) rfl rfl (by decide) rfl (fun ls hl => ?_)
            refine lv_goto (tgt := 15) hx hb dX7_enough_63 (by decide) ?_
            exact ih15 (i + 1) (x2 + 1) v45 (by rw [hi2]; exact nI_1 _) (by omega) (by rw [hmi, minD_i hi40, if_neg (by rw [enP, goneS, helS, c_55]; simp)]) hs45 (by omega) _ _ h ls (lv_sub hl [1, 2, 0] rfl)
          · skip
            rw [hr52, bI_0] at c_55
            refine lv_iload_n hx hb dX7_enough_58 rfl (lv_at hl 2 rfl) ?_
            exact g_iret X h dX7_enough_59 ⟨by rw [sEnough, if_pos c_7, hkc, hmi, minD_i hi40, if_pos (by rw [enP, goneS, helS, c_55]; rfl)]; exact hi2, rfl, hs45⟩
    exact L15 (41 - 0 + 1) 0 0 v rfl (by omega) rfl (scC_refl v) (Nat.lt_succ_self _) _ _ h ls (lv_sub hl [1, 2, 0] rfl)
  · skip
    rw [hr4, bI_0] at c_7
    refine lv_bipush (v := (-2)) hx hb dX7_enough_10 (by decide) ?_
    exact g_iret X h dX7_enough_12 ⟨by simp [sEnough, c_7], rfl, scC_refl v⟩

set_option maxRecDepth 100000 in
set_option maxHeartbeats 1000000 in
theorem c_X7_bears (gl : Launch) (Z : PL) (v : VV) (w : WV) (x0 : Int32) (n : Nat) (B : Nat) (j : Nat) (L : LND) (hcn : CN v n B j L) (hB60 : B + 60 < 1000000) : CT gl yX7_bears cX7_bears 3 (some .int) 5 124 Z [.ref (zg Z 0), .int x0] v w (Qi Z (fun r u => r = sBears (xC v 51 n) L n x0 ∧ (u.1, w) = u ∧ scC v u.1)) := by
  refine g_met (by decide) (Nat.le_of_ble_eq_true rfl) ?_
  intro gp ge gs gm ga gb gh gc X h ls hl
  have hx := X.1
  have hb := X.2.1
  have hl : lv_has ls 3 [(0, .ref (zg Z 0)), (1, .int x0)] := hl
  obtain ⟨hn, h6, hj7, hland, hst, hrx, hB⟩ := CN.f hcn
  refine lv_iload_n hx hb dX7_bears_0 rfl (lv_at hl 1 rfl) ?_
  refine lv_iconst (v := 1) hx hb dX7_bears_1 (by decide) ?_
  refine lv_bipush (v := 20) hx hb dX7_bears_2 (by decide) ?_
  refine g_ki h (g_runS X h (As := [.int x0, .int 1, .int 20]) (rest := []) (c_X7_isWithin gl Z v w x0 1 20) ms_X7_isWithin ml_RX7_58 ⟨Nat.le_of_ble_eq_true rfl, Nat.le_of_ble_eq_true rfl⟩ rfl hl.1 rfl (Nat.le_of_ble_eq_true rfl) dX7_bears_4) (fun r4 v4 w4 H locs hp4 h => ?_)
  obtain ⟨hr4, hu4⟩ := hp4; obtain ⟨rfl, rfl⟩ := Prod.mk.inj hu4
  refine lv_if_ne (tgt := 13) hx hb dX7_bears_7 (by decide) (fun c_7 => ?_) (fun c_7 => ?_)
  · skip
    rw [hr4, bI_n] at c_7
    obtain ⟨k, hk, hkl, hkn, hkc⟩ := inR_nat (a := 1) (b := 20) rfl rfl (by decide) c_7
    refine lv_bipush (v := 40) hx hb dX7_bears_13 (by decide) ?_
    refine lv_istore_n (lv' := [(2, .int 40), (0, .ref (zg Z 0)), (1, .int x0)]) hx hb dX7_bears_15 rfl hl (by decide) rfl (fun ls hl => ?_)
    have L16 : ∀ (n16 : Nat) (i : Nat) (x2 : Int32) (va : VV), (x2 = dn 40 i) → (i ≤ 41) → (maxU (beP (xC v 51 n) L n k) 41 = maxU (beP (xC v 51 n) L n k) (41 - i)) → (scC v va) → 41 - i < n16 → ∀ (H : Heap) (locs : List Loc), HS Z gs va w H locs → ∀ ls : Array Slot, lv_has ls 3 [(0, .ref (zg Z 0)), (1, .int x0), (2, .int x2)] → W gp gl ge (rmm 5 124) gs gm ga gb gh gc H locs 0 0 (MQ gb (Qi Z (fun r u => r = sBears (xC v 51 n) L n x0 ∧ (u.1, w) = u ∧ scC v u.1)) ga gs 0 0 (zA Z)) (F0 gm 16 ls []) := by
      intro n16
      induction n16 with
      | zero => intro i x2 va hi2 hi hmi hsa hmu; exact absurd hmu (Nat.not_lt_zero _)
      | succ n16 ih16 =>
        intro i x2 va hi2 hi hmi hsa hmu16 H locs h ls hl
        refine lv_iload_n hx hb dX7_bears_16 rfl (lv_at hl 2 rfl) ?_
        refine lv_if_lt (tgt := 65) hx hb dX7_bears_17 (by decide) (fun c_17 => ?_) (fun c_17 => ?_)
        · skip
          have hi40 := dn_neg (top := 40) (k := i) (by decide) (by rw [← hi2]; exact c_17)
          refine lv_bipush (v := (-5)) hx hb dX7_bears_65 (by decide) ?_
          exact g_iret X h dX7_bears_67 ⟨by rw [sBears, if_pos c_7, hkc, hmi, show i = 41 by omega]; rfl, rfl, hsa⟩
        · skip
          have hi40 := dn_pos (top := 40) (k := i) (by rw [← hi2]; exact c_17)
          have hi2n : x2 = nI (40 - i) := hi2.trans (dn_at hi40)
          refine lv_aload_n hx hb dX7_bears_20 rfl (lv_at hl 0 rfl) ?_
          refine g_getr X h (k := 2) (t := 70) (cc_0) fr_RX7_27 rfl (by decide) (by decide) (by decide) dX7_bears_21 ?_
          refine lv_aload_n hx hb dX7_bears_24 rfl (lv_at hl 0 rfl) ?_
          refine g_getr X h (k := 1) (t := 51) (cc_0) fr_RX7_23 rfl (by decide) (by decide) (by decide) dX7_bears_25 ?_
          refine g_kv h (g_runV X h (As := [.ref (zg Z 51)]) (rest := []) (c_X6_startAs gl Z va w 70 isW1 51 isW0 (by decide) n j h6 hj7 (CN.f (CN_sc hsa hcn)).2.2.2.1 (CN.f (CN_sc hsa hcn)).2.2.2.2.1) mi_X6_startAs ml_RX7_169 (cc_70) (by decide) kl6 rfl ⟨Nat.le_of_ble_eq_true rfl, Nat.le_of_ble_eq_true rfl⟩ rfl hl.1 rfl (Nat.le_of_ble_eq_true rfl) dX7_bears_28) (fun v28 w28 H locs hp28 h => ?_)
          obtain ⟨hx28, hw28, hl628, hft28, hsw28⟩ := hp28
          obtain ⟨-, rfl⟩ := Prod.mk.inj hw28
          replace hx28 : xC v28 _ _ = _ := hx28
          replace hl628 : v28 _ 6 = _ := hl628
          replace hft28 : frT _ v28 _ := hft28
          replace hsw28 : stW v28 _ _ := hsw28
          obtain ⟨hs28, hc28, hX28⟩ := TC_start hsa hcn hx28 hl628 hft28
          refine lv_aload_n hx hb dX7_bears_31 rfl (lv_at hl 0 rfl) ?_
          refine g_getr X h (k := 2) (t := 70) (cc_0) fr_RX7_27 rfl (by decide) (by decide) (by decide) dX7_bears_32 ?_
          refine lv_iload_n hx hb dX7_bears_35 rfl (lv_at hl 2 rfl) ?_
          refine g_puti X h (k := 7) (cc_70) fp_RX7_150 rfl (by decide) dX7_bears_36 (fun v36 H locs ev36 h => ?_)
          have hx36 : xC v36 70 n = up2 (xC v 51 n) 0 5 (nI (40 - i)) := by rw [ev36, xC_up_cd, hX28, hi2n]
          have hc36 : CW v36 70 n B j L := CW70 hc28 (fun i hi => by rw [ev36, up2_ne (by omega)]) (by rw [ev36, up2_slot (by decide)]) (by rw [ev36, up2_ne (by decide)]) (by rw [hx36]; exact RX_cd hrx)
          have hs36 : scC v v36 := by rw [ev36]; exact scC_up hs28 (by decide)
          refine lv_aload_n hx hb dX7_bears_39 rfl (lv_at hl 0 rfl) ?_
          refine g_getr X h (k := 2) (t := 70) (cc_0) fr_RX7_27 rfl (by decide) (by decide) (by decide) dX7_bears_40 ?_
          refine lv_iload_n hx hb dX7_bears_43 rfl (lv_at hl 1 rfl) ?_
          refine g_kv h (g_runV X h (As := [.int x0]) (rest := []) (c_X6_goDays gl Z v36 w x0 k hk 70 isW1 n B j L hc36 (by omega)) mi_X6_goDays ml_RX7_165 (cc_70) (by decide) kl6 rfl ⟨Nat.le_of_ble_eq_true rfl, Nat.le_of_ble_eq_true rfl⟩ rfl hl.1 rfl (Nat.le_of_ble_eq_true rfl) dX7_bears_44) (fun v44 w44 H locs hp44 h => ?_)
          obtain ⟨hx44, hw44, hfd44⟩ := hp44
          obtain ⟨-, rfl⟩ := Prod.mk.inj hw44
          replace hx44 : xC v44 _ _ = _ := hx44
          replace hfd44 : frD _ v44 _ _ := hfd44
          rw [hx36] at hx44
          have hs44 := scC_trans hs36 (scC_D hj7 hfd44)
          refine lv_aload_n hx hb dX7_bears_47 rfl (lv_at hl 0 rfl) ?_
          refine g_getr X h (k := 2) (t := 70) (cc_0) fr_RX7_27 rfl (by decide) (by decide) (by decide) dX7_bears_48 ?_
          refine g_ki h (g_runV X h (As := []) (rest := []) (c_X6_isGone gl Z v44 w 70 isW1 n (B + k) (by rw [hx44]; exact RX_daysS h6 (RX_cd hrx) k (by omega))) mi_X6_isGone ml_RX7_162 (cc_70) (by decide) kl6 rfl ⟨Nat.le_of_ble_eq_true rfl, Nat.le_of_ble_eq_true rfl⟩ rfl hl.1 rfl (Nat.le_of_ble_eq_true rfl) dX7_bears_51) (fun r51 v51 w51 H locs hp51 h => ?_)
          obtain ⟨hr51, hu51⟩ := hp51; obtain ⟨rfl, rfl⟩ := Prod.mk.inj hu51
          rw [hx44] at hr51
          refine lv_if_ne (tgt := 59) hx hb dX7_bears_54 (by decide) (fun c_54 => ?_) (fun c_54 => ?_)
          · skip
            rw [hr51, bI_n] at c_54
            refine lv_iinc (v := (x2 + (-1))) (lv' := [(2, .int (x2 + (-1))), (0, .ref (zg Z 0)), (1, .int x0)]) hx hb dX7_bears_59 hl (k := 2) rfl rfl (by decide) rfl (fun ls hl => ?_)
            refine lv_goto (tgt := 16) hx hb dX7_bears_62 (by decide) ?_
            exact ih16 (i + 1) (x2 + (-1)) v44 (by rw [hi2]; exact dn_s hi40 (by decide)) (by omega) (by rw [hmi, maxU_i hi40, if_neg (by rw [beP, goneS, helS, c_54]; simp)]) hs44 (by omega) _ _ h ls (lv_sub hl [1, 2, 0] rfl)
          · skip
            rw [hr51, bI_0] at c_54
            refine lv_iload_n hx hb dX7_bears_57 rfl (lv_at hl 2 rfl) ?_
            exact g_iret X h dX7_bears_58 ⟨by rw [sBears, if_pos c_7, hkc, hmi, maxU_i hi40, if_pos (by rw [beP, goneS, helS, c_54]; rfl)]; exact hi2n, rfl, hs44⟩
    exact L16 (41 - 0 + 1) 0 40 v rfl (by omega) rfl (scC_refl v) (Nat.lt_succ_self _) _ _ h ls (lv_sub hl [1, 2, 0] rfl)
  · skip
    rw [hr4, bI_0] at c_7
    refine lv_bipush (v := (-2)) hx hb dX7_bears_10 (by decide) ?_
    exact g_iret X h dX7_bears_12 ⟨by simp [sBears, c_7], rfl, scC_refl v⟩
