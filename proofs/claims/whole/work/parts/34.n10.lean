/-! the class: the rest of what is asked -/
theorem worst_dummy : True := trivial
theorem sw_x {v u : VV} {n i j : Nat} (hi : i < 6) (hj : j < 6) : up2 (up2 (xC v 51 n) 7 i (v 59 j)) 7 j (v 59 i) = swapX (xC v 51 n) i j := by
  rw [swapX, show v 59 j = xC v 51 n 7 j from (xC_rnd (b := 51) hj).symm, show v 59 i = xC v 51 n 7 i from (xC_rnd (b := 51) hi).symm]
theorem CW_gone {u : VV} {n B j : Nat} {L : LND} (h : CW u 70 n B j L) : RX n B (xC u 70 n) := h.2.2.2.2.1
/-- checked so far: all of SEEN behind fewer than d days -/
def fareI (X : VV) (L : LND) (n z d : Nat) (sh sd : Nat → Int32) : Prop := ∀ i, i < z → (sd i).toNatClampNeg < d → helS X L n (sd i).toNatClampNeg = sh i
theorem fare_end {X : VV} {L : LND} {n z d : Nat} {sh sd : Nat → Int32} (h : fareI X L n z d sh sd) (hd : ∀ i, i < z → (sd i).toNatClampNeg < d) : seenS X L n sh sd z = true := (seenS_iff z).mpr (fun i hi => h i hi (hd i hi))
theorem fare_no {X : VV} {L : LND} {n z i : Nat} {sh sd : Nat → Int32} (hi : i < z) (h : ¬ helS X L n (sd i).toNatClampNeg = sh i) : seenS X L n sh sd z = false := by
  cases hq : seenS X L n sh sd z with
  | false => rfl
  | true => exact absurd ((seenS_iff z).mp hq i hi) h
theorem wasP_X {v : VV} {n p g : Nat} : up2 (xC v 51 n) 3 p (nI g) = up2 (xC v 51 n) 3 p (nI g) := rfl
set_option maxRecDepth 100000 in
set_option maxHeartbeats 1000000 in
theorem c_X7_swap (gl : Launch) (Z : PL) (v : VV) (w : WV) (n : Nat) (B : Nat) (j : Nat) (L : LND) (hcn : CN v n B j L) (hB40 : B + 40 < 1000000) : CT gl yX7_swap cX7_swap 5 (some .int) 5 124 Z [.ref (zg Z 0)] v w (Qi Z (fun r u => r = sSwap (xC v 51 n) L n ∧ (u.1, w) = u ∧ scC v u.1)) := by
  refine g_met (by decide) (Nat.le_of_ble_eq_true rfl) ?_
  intro gp ge gs gm ga gb gh gc X h ls hl
  have hx := X.1
  have hb := X.2.1
  have hl : lv_has ls 5 [(0, .ref (zg Z 0))] := hl
  obtain ⟨hn, h6, hj7, hland, hst, hrx, hB⟩ := CN.f hcn
  obtain ⟨q, hq6, hq, hqr⟩ := id hrx.2.2.2.2.1
  replace hq : v 51 5 = nI q := hq
  obtain ⟨S0, hS0⟩ : ∃ Y : Nat → Int32 × Int32, Y = swapO (xC v 51 n) L n q := ⟨_, rfl⟩
  refine lv_bipush (v := (-5)) hx hb dX7_swap_0 (by decide) ?_
  refine lv_istore_n (lv' := [(1, .int (-5)), (0, .ref (zg Z 0))]) hx hb dX7_swap_2 rfl hl (by decide) rfl (fun ls hl => ?_)
  refine lv_aload_n hx hb dX7_swap_3 rfl (lv_at hl 1 rfl) ?_
  refine g_getr X h (k := 2) (t := 70) (cc_0) fr_RX7_27 rfl (by decide) (by decide) (by decide) dX7_swap_4 ?_
  refine lv_aload_n hx hb dX7_swap_7 rfl (lv_at hl 1 rfl) ?_
  refine g_getr X h (k := 1) (t := 51) (cc_0) fr_RX7_23 rfl (by decide) (by decide) (by decide) dX7_swap_8 ?_
  refine g_kv h (g_runV X h (As := [.ref (zg Z 51)]) (rest := []) (c_X6_startAs gl Z v w 70 isW1 51 isW0 (by decide) n j h6 hj7 (CN.f hcn).2.2.2.1 (CN.f hcn).2.2.2.2.1) mi_X6_startAs ml_RX7_169 (cc_70) (by decide) kl6 rfl ⟨Nat.le_of_ble_eq_true rfl, Nat.le_of_ble_eq_true rfl⟩ rfl hl.1 rfl (Nat.le_of_ble_eq_true rfl) dX7_swap_11) (fun v11 w11 H locs hp11 h => ?_)
  obtain ⟨hx11, hw11, hl611, hft11, hsw11⟩ := hp11
  obtain ⟨-, rfl⟩ := Prod.mk.inj hw11
  replace hx11 : xC v11 _ _ = _ := hx11
  replace hl611 : v11 _ 6 = _ := hl611
  replace hft11 : frT _ v11 _ := hft11
  replace hsw11 : stW v11 _ _ := hsw11
  obtain ⟨hs11, hc11, hX11⟩ := TC_start (scC_refl v) hcn hx11 hl611 hft11
  refine lv_aload_n hx hb dX7_swap_14 rfl (lv_at hl 1 rfl) ?_
  refine g_getr X h (k := 2) (t := 70) (cc_0) fr_RX7_27 rfl (by decide) (by decide) (by decide) dX7_swap_15 ?_
  refine lv_bipush (v := 40) hx hb dX7_swap_18 (by decide) ?_
  refine g_kv h (g_runV X h (As := [.int 40]) (rest := []) (c_X6_goDays gl Z v11 w 40 40 rfl 70 isW1 n B j L hc11 (by omega)) mi_X6_goDays ml_RX7_165 (cc_70) (by decide) kl6 rfl ⟨Nat.le_of_ble_eq_true rfl, Nat.le_of_ble_eq_true rfl⟩ rfl hl.1 rfl (Nat.le_of_ble_eq_true rfl) dX7_swap_20) (fun v20 w20 H locs hp20 h => ?_)
  obtain ⟨hx20, hw20, hfd20⟩ := hp20
  obtain ⟨-, rfl⟩ := Prod.mk.inj hw20
  replace hx20 : xC v20 _ _ = _ := hx20
  replace hfd20 : frD _ v20 _ _ := hfd20
  rw [hX11] at hx20
  have hs20 := scC_trans hs11 (scC_D hj7 hfd20)
  refine lv_aload_n hx hb dX7_swap_23 rfl (lv_at hl 1 rfl) ?_
  refine g_getr X h (k := 2) (t := 70) (cc_0) fr_RX7_27 rfl (by decide) (by decide) (by decide) dX7_swap_24 ?_
  refine g_geti X h (k := 1) (cc_70) fr_RX7_117 rfl (by decide) dX7_swap_27 ?_
  refine lv_topi (fun x2_30 ex2_30 => ?_)
  refine lv_istore_n (lv' := [(2, .int x2_30), (1, .int (-5)), (0, .ref (zg Z 0))]) hx hb dX7_swap_30 rfl hl (by decide) rfl (fun ls hl => ?_)
  refine lv_iconst (v := 0) hx hb dX7_swap_31 (by decide) ?_
  refine lv_istore_n (lv' := [(3, .int 0), (2, .int x2_30), (1, .int (-5)), (0, .ref (zg Z 0))]) hx hb dX7_swap_32 rfl hl (by decide) rfl (fun ls hl => ?_)
  have L33 : ∀ (n33 : Nat) (i : Nat) (x1 x2 x3 : Int32) (va : VV), (x3 = nI i) → (i ≤ q) → ((x2, x1) = S0 i) → (scC v va) → q - i < n33 → ∀ (H : Heap) (locs : List Loc), HS Z gs va w H locs → ∀ ls : Array Slot, lv_has ls 5 [(0, .ref (zg Z 0)), (1, .int x1), (2, .int x2), (3, .int x3)] → W gp gl ge (rmm 5 124) gs gm ga gb gh gc H locs 0 0 (MQ gb (Qi Z (fun r u => r = sSwap (xC v 51 n) L n ∧ (u.1, w) = u ∧ scC v u.1)) ga gs 0 0 (zA Z)) (F0 gm 33 ls []) := by
    intro n33
    induction n33 with
    | zero => intro i x1 x2 x3 va hi3 hi hai hsa hmu; exact absurd hmu (Nat.not_lt_zero _)
    | succ n33 ih33 =>
      intro i x1 x2 x3 va hi3 hi hai hsa hmu33 H locs h ls hl
      refine lv_iload_n hx hb dX7_swap_33 rfl (lv_at hl 3 rfl) ?_
      refine lv_aload_n hx hb dX7_swap_34 rfl (lv_at hl 0 rfl) ?_
      refine g_getr X h (k := 1) (t := 51) (cc_0) fr_RX7_23 rfl (by decide) (by decide) (by decide) dX7_swap_35 ?_
      refine g_geti X h (k := 5) (cc_51) fr_RX7_123 rfl (by decide) dX7_swap_38 ?_
      refine g_tr (y := (v 51 5)) (by rw [sq_at hsa (i := 51) (by omega) (by omega) (by omega)]) ?_
      refine lv_icmp_ge (tgt := 158) hx hb dX7_swap_41 (by decide) (fun c_41 => ?_) (fun c_41 => ?_)
      · skip
        have hiq := nI_le1 (a := q) (b := i) hq hi3 (by omega) (by omega) c_41
        refine lv_iload_n hx hb dX7_swap_158 rfl (lv_at hl 1 rfl) ?_
        exact g_iret X h dX7_swap_159 ⟨by rw [show i = q by omega, hS0] at hai; rw [sSwap, show xC v 51 n 0 4 = nI q from hq, nI_clamp (by omega), ← hai], rfl, hsa⟩
      · skip
        have hiq := nI_le0 (a := q) (b := i) hq hi3 (by omega) (by omega) c_41
        refine lv_iload_n hx hb dX7_swap_44 rfl (lv_at hl 3 rfl) ?_
        refine lv_iconst (v := 1) hx hb dX7_swap_45 (by decide) ?_
        refine lv_iadd hx hb dX7_swap_46 ?_
        refine lv_topi (fun x4_47 ex4_47 => ?_)
        refine lv_istore (lv' := [(4, .int x4_47), (0, .ref (zg Z 0)), (1, .int x1), (2, .int x2), (3, .int x3)]) hx hb dX7_swap_47 hl (by decide) rfl (fun ls hl => ?_)
        have L49 : ∀ (n49 : Nat) (kk : Nat) (x1 x2 x4 : Int32) (vb : VV), (x4 = nI (i + 1 + kk)) → (i + 1 + kk ≤ q) → ((x2, x1) = swapI (xC v 51 n) L n i (S0 i) kk) → (scC v vb) → q - kk < n49 → ∀ (H : Heap) (locs : List Loc), HS Z gs vb w H locs → ∀ ls : Array Slot, lv_has ls 5 [(0, .ref (zg Z 0)), (1, .int x1), (2, .int x2), (3, .int x3), (4, .int x4)] → W gp gl ge (rmm 5 124) gs gm ga gb gh gc H locs 0 0 (MQ gb (Qi Z (fun r u => r = sSwap (xC v 51 n) L n ∧ (u.1, w) = u ∧ scC v u.1)) ga gs 0 0 (zA Z)) (F0 gm 49 ls []) := by
          intro n49
          induction n49 with
          | zero => intro kk x1 x2 x4 vb hi4 hkk hbi hsb hmu; exact absurd hmu (Nat.not_lt_zero _)
          | succ n49 ih49 =>
            intro kk x1 x2 x4 vb hi4 hkk hbi hsb hmu49 H locs h ls hl
            refine lv_iload hx hb dX7_swap_49 (lv_at hl 4 rfl) ?_
            refine lv_aload_n hx hb dX7_swap_51 rfl (lv_at hl 0 rfl) ?_
            refine g_getr X h (k := 1) (t := 51) (cc_0) fr_RX7_23 rfl (by decide) (by decide) (by decide) dX7_swap_52 ?_
            refine g_geti X h (k := 5) (cc_51) fr_RX7_123 rfl (by decide) dX7_swap_55 ?_
            refine g_tr (y := (v 51 5)) (by rw [sq_at hsb (i := 51) (by omega) (by omega) (by omega)]) ?_
            refine lv_icmp_ge (tgt := 152) hx hb dX7_swap_58 (by decide) (fun c_58 => ?_) (fun c_58 => ?_)
            · skip
              have hjq := nI_le1 (a := q) (b := (i + 1 + kk)) hq hi4 (by omega) (by omega) c_58
              refine lv_iinc (v := (x3 + 1)) (lv' := [(3, .int (x3 + 1)), (0, .ref (zg Z 0)), (1, .int x1), (2, .int x2), (4, .int x4)]) hx hb dX7_swap_152 hl (k := 3) rfl rfl (by decide) rfl (fun ls hl => ?_)
              refine lv_goto (tgt := 33) hx hb dX7_swap_155 (by decide) ?_
              exact ih33 (i + 1) x1 x2 (x3 + 1) vb (by rw [hi3]; exact nI_1 _) (by omega) (by rw [hbi, hS0, swapO, show kk = q - (i + 1) by omega]) hsb (by omega) _ _ h ls (lv_sub hl [1, 2, 3, 0] rfl)
            · skip
              have hjq := nI_le0 (a := q) (b := (i + 1 + kk)) hq hi4 (by omega) (by omega) c_58
              refine lv_aload_n hx hb dX7_swap_61 rfl (lv_at hl 0 rfl) ?_
              refine g_getr X h (k := 2) (t := 70) (cc_0) fr_RX7_27 rfl (by decide) (by decide) (by decide) dX7_swap_62 ?_
              refine lv_aload_n hx hb dX7_swap_65 rfl (lv_at hl 0 rfl) ?_
              refine g_getr X h (k := 1) (t := 51) (cc_0) fr_RX7_23 rfl (by decide) (by decide) (by decide) dX7_swap_66 ?_
              refine g_kv h (g_runV X h (As := [.ref (zg Z 51)]) (rest := []) (c_X6_startAs gl Z vb w 70 isW1 51 isW0 (by decide) n j h6 hj7 (CN.f (CN_sc hsb hcn)).2.2.2.1 (CN.f (CN_sc hsb hcn)).2.2.2.2.1) mi_X6_startAs ml_RX7_169 (cc_70) (by decide) kl6 rfl ⟨Nat.le_of_ble_eq_true rfl, Nat.le_of_ble_eq_true rfl⟩ rfl hl.1 rfl (Nat.le_of_ble_eq_true rfl) dX7_swap_69) (fun v69 w69 H locs hp69 h => ?_)
              obtain ⟨hx69, hw69, hl669, hft69, hsw69⟩ := hp69
              obtain ⟨-, rfl⟩ := Prod.mk.inj hw69
              replace hx69 : xC v69 _ _ = _ := hx69
              replace hl669 : v69 _ 6 = _ := hl669
              replace hft69 : frT _ v69 _ := hft69
              replace hsw69 : stW v69 _ _ := hsw69
              obtain ⟨hs69, hc69, hX69⟩ := TC_start hsb hcn hx69 hl669 hft69
              refine lv_aload_n hx hb dX7_swap_72 rfl (lv_at hl 0 rfl) ?_
              refine g_getr X h (k := 2) (t := 70) (cc_0) fr_RX7_27 rfl (by decide) (by decide) (by decide) dX7_swap_73 ?_
              refine g_getr X h (k := 4) (t := 78) (cc_70) fr_RX7_126 rfl (by decide) (by decide) (by decide) dX7_swap_76 ?_
              refine lv_iload_n hx hb dX7_swap_79 rfl (lv_at hl 3 rfl) ?_
              refine lv_aload_n hx hb dX7_swap_80 rfl (lv_at hl 0 rfl) ?_
              refine g_getr X h (k := 1) (t := 51) (cc_0) fr_RX7_23 rfl (by decide) (by decide) (by decide) dX7_swap_81 ?_
              refine g_getr X h (k := 4) (t := 59) (cc_51) fr_RX7_126 rfl (by decide) (by decide) (by decide) dX7_swap_84 ?_
              refine lv_iload hx hb dX7_swap_87 (lv_at hl 4 rfl) ?_
              refine g_iald X h (k := (i + 1 + kk)) (cc_59) hi4 (by omega) (by decide) dX7_swap_89 ?_
              refine g_tr (y := (v 59 (i + 1 + kk))) (by rw [hft69 59 (by omega), sq_at hsb (i := 59) (by omega) (by omega) (by omega)]) ?_
              refine g_iast X h (k := i) (cc_78) hi3 (by omega) (by decide) dX7_swap_90 (fun v90 H locs ev90 h => ?_)
              refine lv_aload_n hx hb dX7_swap_91 rfl (lv_at hl 0 rfl) ?_
              refine g_getr X h (k := 2) (t := 70) (cc_0) fr_RX7_27 rfl (by decide) (by decide) (by decide) dX7_swap_92 ?_
              refine g_getr X h (k := 4) (t := 78) (cc_70) fr_RX7_126 rfl (by decide) (by decide) (by decide) dX7_swap_95 ?_
              refine lv_iload hx hb dX7_swap_98 (lv_at hl 4 rfl) ?_
              refine lv_aload_n hx hb dX7_swap_100 rfl (lv_at hl 0 rfl) ?_
              refine g_getr X h (k := 1) (t := 51) (cc_0) fr_RX7_23 rfl (by decide) (by decide) (by decide) dX7_swap_101 ?_
              refine g_getr X h (k := 4) (t := 59) (cc_51) fr_RX7_126 rfl (by decide) (by decide) (by decide) dX7_swap_104 ?_
              refine lv_iload_n hx hb dX7_swap_107 rfl (lv_at hl 3 rfl) ?_
              refine g_iald X h (k := i) (cc_59) hi3 (by omega) (by decide) dX7_swap_108 ?_
              refine g_tr (y := (v 59 i)) (by rw [ev90, up2_ne (by omega), hft69 59 (by omega), sq_at hsb (i := 59) (by omega) (by omega) (by omega)]) ?_
              refine g_iast X h (k := (i + 1 + kk)) (cc_78) hi4 (by omega) (by decide) dX7_swap_109 (fun v109 H locs ev109 h => ?_)
              have hx109 : xC v109 70 n = swapX (xC v 51 n) i (i + 1 + kk) := by rw [ev109, xT_rnd (by omega), ev90, xT_rnd (by omega), hX69]; exact sw_x (u := v) (by omega) (by omega)
              have hc109 : CW v109 70 n B j L := CW70 hc69 (fun i hi => by rw [ev109, up2_ne (by omega), ev90, up2_ne (by omega)]) (by rw [ev109, up2_ne (by decide), ev90, up2_ne (by decide)]) (by rw [ev109, up2_ne (by decide), ev90, up2_ne (by decide)]) (by rw [hx109]; exact RX_swap hq hq6 hiq (by omega) hrx)
              have hs109 : scC v v109 := by rw [ev109, ev90]; exact scC_up (scC_up hs69 (by decide)) (by decide)
              refine lv_aload_n hx hb dX7_swap_110 rfl (lv_at hl 0 rfl) ?_
              refine g_getr X h (k := 2) (t := 70) (cc_0) fr_RX7_27 rfl (by decide) (by decide) (by decide) dX7_swap_111 ?_
              refine lv_bipush (v := 40) hx hb dX7_swap_114 (by decide) ?_
              refine g_kv h (g_runV X h (As := [.int 40]) (rest := []) (c_X6_goDays gl Z v109 w 40 40 rfl 70 isW1 n B j L hc109 (by omega)) mi_X6_goDays ml_RX7_165 (cc_70) (by decide) kl6 rfl ⟨Nat.le_of_ble_eq_true rfl, Nat.le_of_ble_eq_true rfl⟩ rfl hl.1 rfl (Nat.le_of_ble_eq_true rfl) dX7_swap_116) (fun v116 w116 H locs hp116 h => ?_)
              obtain ⟨hx116, hw116, hfd116⟩ := hp116
              obtain ⟨-, rfl⟩ := Prod.mk.inj hw116
              replace hx116 : xC v116 _ _ = _ := hx116
              replace hfd116 : frD _ v116 _ _ := hfd116
              rw [hx109] at hx116
              have hs116 := scC_trans hs109 (scC_D hj7 hfd116)
              refine lv_aload_n hx hb dX7_swap_119 rfl (lv_at hl 0 rfl) ?_
              refine g_getr X h (k := 2) (t := 70) (cc_0) fr_RX7_27 rfl (by decide) (by decide) (by decide) dX7_swap_120 ?_
              refine g_geti X h (k := 1) (cc_70) fr_RX7_117 rfl (by decide) dX7_swap_123 ?_
              refine lv_iload_n hx hb dX7_swap_126 rfl (lv_at hl 2 rfl) ?_
              refine lv_icmp_le (tgt := 146) hx hb dX7_swap_127 (by decide) (fun c_127 => ?_) (fun c_127 => ?_)
              · skip
                refine lv_iinc (v := (x4 + 1)) (lv' := [(4, .int (x4 + 1)), (0, .ref (zg Z 0)), (1, .int x1), (2, .int x2), (3, .int x3)]) hx hb dX7_swap_146 hl (k := 4) rfl rfl (by decide) rfl (fun ls hl => ?_)
                refine lv_goto (tgt := 49) hx hb dX7_swap_149 (by decide) ?_
                exact ih49 (kk + 1) x1 x2 (x4 + 1) v116 (by rw [hi4]; exact nI_1 _) (by omega) (swap_s hbi (show v116 70 1 = _ from congrFun (congrFun hx116 0) 1) hi3 hi4 (Or.inl ⟨c_127, rfl, rfl⟩)) hs116 (by omega) _ _ h ls (lv_sub hl [1, 2, 3, 4, 0] rfl)
              · skip
                refine lv_aload_n hx hb dX7_swap_130 rfl (lv_at hl 0 rfl) ?_
                refine g_getr X h (k := 2) (t := 70) (cc_0) fr_RX7_27 rfl (by decide) (by decide) (by decide) dX7_swap_131 ?_
                refine g_geti X h (k := 1) (cc_70) fr_RX7_117 rfl (by decide) dX7_swap_134 ?_
                refine lv_topi (fun x2_137 ex2_137 => ?_)
                refine lv_istore_n (lv' := [(2, .int x2_137), (0, .ref (zg Z 0)), (1, .int x1), (3, .int x3), (4, .int x4)]) hx hb dX7_swap_137 rfl hl (by decide) rfl (fun ls hl => ?_)
                refine lv_bipush (v := 10) hx hb dX7_swap_138 (by decide) ?_
                refine lv_iload_n hx hb dX7_swap_140 rfl (lv_at hl 3 rfl) ?_
                refine lv_imul hx hb dX7_swap_141 ?_
                refine lv_iload hx hb dX7_swap_142 (lv_at hl 4 rfl) ?_
                refine lv_iadd hx hb dX7_swap_144 ?_
                refine lv_topi (fun x1_145 ex1_145 => ?_)
                refine lv_istore_n (lv' := [(1, .int x1_145), (2, .int x2_137), (0, .ref (zg Z 0)), (3, .int x3), (4, .int x4)]) hx hb dX7_swap_145 rfl hl (by decide) rfl (fun ls hl => ?_)
                refine lv_iinc (v := (x4 + 1)) (lv' := [(4, .int (x4 + 1)), (1, .int x1_145), (2, .int x2_137), (0, .ref (zg Z 0)), (3, .int x3)]) hx hb dX7_swap_146 hl (k := 4) rfl rfl (by decide) rfl (fun ls hl => ?_)
                refine lv_goto (tgt := 49) hx hb dX7_swap_149 (by decide) ?_
                exact ih49 (kk + 1) x1_145 x2_137 (x4 + 1) v116 (by rw [hi4]; exact nI_1 _) (by omega) (swap_s hbi (show v116 70 1 = _ from congrFun (congrFun hx116 0) 1) hi3 hi4 (Or.inr ⟨c_127, ex2_137, ex1_145⟩)) hs116 (by omega) _ _ h ls (lv_sub hl [3, 1, 2, 4, 0] rfl)
        exact L49 (q - 0 + 1) 0 x1 x2 x4_47 va (by rw [ex4_47, hi3]; exact nI_1 _) (by omega) hai hsa (Nat.lt_succ_self _) _ _ h ls (lv_sub hl [1, 2, 3, 4, 0] rfl)
  exact L33 (q - 0 + 1) 0 (-5) x2_30 0 v20 rfl (Nat.zero_le _) (by rw [hS0, ex2_30]; show _ = (wellS _ _ _, _); rw [wellS, helS, ← show v20 70 1 = daysS (xC v 51 n) L n 40 0 1 from congrFun (congrFun hx20 0) 1]) hs20 (Nat.lt_succ_self _) _ _ h ls (lv_sub hl [3, 2, 1, 0] rfl)

set_option maxRecDepth 100000 in
set_option maxHeartbeats 1000000 in
theorem c_X7_isGoneWithout (gl : Launch) (Z : PL) (v : VV) (w : WV) (x0 : Int32) (p : Nat) (hp : x0 = nI p) (x1 : Int32) (k : Nat) (hk : x1 = nI k) (n : Nat) (B : Nat) (j : Nat) (L : LND) (hcn : CN v n B j L) (hpn : p < n) (hBk : B + k < 1000000) : CT gl yX7_isGoneWithout cX7_isGoneWithout 3 (some .boolean) 5 124 Z [.ref (zg Z 0), .int x0, .int x1] v w (Qi Z (fun r u => r = bI (gwS (xC v 51 n) L n k p) ∧ (u.1, w) = u ∧ scC v u.1)) := by
  refine g_met (by decide) (Nat.le_of_ble_eq_true rfl) ?_
  intro gp ge gs gm ga gb gh gc X h ls hl
  have hx := X.1
  have hb := X.2.1
  have hl : lv_has ls 3 [(0, .ref (zg Z 0)), (1, .int x0), (2, .int x1)] := hl
  obtain ⟨hn, h6, hj7, hland, hst, hrx, hB⟩ := CN.f hcn
  refine lv_aload_n hx hb dX7_isGoneWithout_0 rfl (lv_at hl 0 rfl) ?_
  refine g_getr X h (k := 2) (t := 70) (cc_0) fr_RX7_27 rfl (by decide) (by decide) (by decide) dX7_isGoneWithout_1 ?_
  refine lv_aload_n hx hb dX7_isGoneWithout_4 rfl (lv_at hl 0 rfl) ?_
  refine g_getr X h (k := 1) (t := 51) (cc_0) fr_RX7_23 rfl (by decide) (by decide) (by decide) dX7_isGoneWithout_5 ?_
  refine g_kv h (g_runV X h (As := [.ref (zg Z 51)]) (rest := []) (c_X6_startAs gl Z v w 70 isW1 51 isW0 (by decide) n j h6 hj7 (CN.f hcn).2.2.2.1 (CN.f hcn).2.2.2.2.1) mi_X6_startAs ml_RX7_169 (cc_70) (by decide) kl6 rfl ⟨Nat.le_of_ble_eq_true rfl, Nat.le_of_ble_eq_true rfl⟩ rfl hl.1 rfl (Nat.le_of_ble_eq_true rfl) dX7_isGoneWithout_8) (fun v8 w8 H locs hp8 h => ?_)
  obtain ⟨hx8, hw8, hl68, hft8, hsw8⟩ := hp8
  obtain ⟨-, rfl⟩ := Prod.mk.inj hw8
  replace hx8 : xC v8 _ _ = _ := hx8
  replace hl68 : v8 _ 6 = _ := hl68
  replace hft8 : frT _ v8 _ := hft8
  replace hsw8 : stW v8 _ _ := hsw8
  obtain ⟨hs8, hc8, hX8⟩ := TC_start (scC_refl v) hcn hx8 hl68 hft8
  refine lv_aload_n hx hb dX7_isGoneWithout_11 rfl (lv_at hl 0 rfl) ?_
  refine g_getr X h (k := 2) (t := 70) (cc_0) fr_RX7_27 rfl (by decide) (by decide) (by decide) dX7_isGoneWithout_12 ?_
  refine g_getr X h (k := 0) (t := 71) (cc_70) fr_RX7_62 rfl (by decide) (by decide) (by decide) dX7_isGoneWithout_15 ?_
  refine lv_iload_n hx hb dX7_isGoneWithout_18 rfl (lv_at hl 1 rfl) ?_
  refine lv_iconst (v := 1) hx hb dX7_isGoneWithout_19 (by decide) ?_
  refine g_kv h (g_runV X h (As := [.int x0, .int 1]) (rest := []) (c_X3_setDead gl Z v8 w x0 p hp 1 (by omega) 71 (isWE isW1)) mi_X3_setDead ml_RX7_110 (cc_71) (by decide) kl3 rfl ⟨Nat.le_of_ble_eq_true rfl, Nat.le_of_ble_eq_true rfl⟩ rfl hl.1 rfl (Nat.le_of_ble_eq_true rfl) dX7_isGoneWithout_20) (fun v20 w20 H locs hp20 h => ?_)
  obtain ⟨hv20, rfl⟩ := Prod.mk.inj hp20
  replace hv20 := hv20.symm
  have hx20 : xC v20 70 n = up2 (xC v 51 n) 5 p 1 := by rw [hv20, xT_dead (by omega), hX8]; rfl
  have hc20 : CW v20 70 n B j L := CW70 hc8 (fun i hi => by rw [hv20, up2_ne (by omega)]) (by rw [hv20, up2_ne (by decide)]) (by rw [hv20, up2_slot (by decide)]) (by rw [hx20]; exact RX_dead hrx)
  have hs20 : scC v v20 := by rw [hv20]; exact scC_up hs8 (by decide)
  refine lv_aload_n hx hb dX7_isGoneWithout_23 rfl (lv_at hl 0 rfl) ?_
  refine g_getr X h (k := 2) (t := 70) (cc_0) fr_RX7_27 rfl (by decide) (by decide) (by decide) dX7_isGoneWithout_24 ?_
  refine lv_iload_n hx hb dX7_isGoneWithout_27 rfl (lv_at hl 2 rfl) ?_
  refine g_kv h (g_runV X h (As := [.int x1]) (rest := []) (c_X6_goDays gl Z v20 w x1 k hk 70 isW1 n B j L hc20 hBk) mi_X6_goDays ml_RX7_165 (cc_70) (by decide) kl6 rfl ⟨Nat.le_of_ble_eq_true rfl, Nat.le_of_ble_eq_true rfl⟩ rfl hl.1 rfl (Nat.le_of_ble_eq_true rfl) dX7_isGoneWithout_28) (fun v28 w28 H locs hp28 h => ?_)
  obtain ⟨hx28, hw28, hfd28⟩ := hp28
  obtain ⟨-, rfl⟩ := Prod.mk.inj hw28
  replace hx28 : xC v28 _ _ = _ := hx28
  replace hfd28 : frD _ v28 _ _ := hfd28
  rw [hx20] at hx28
  have hs28 := scC_trans hs20 (scC_D hj7 hfd28)
  refine lv_aload_n hx hb dX7_isGoneWithout_31 rfl (lv_at hl 0 rfl) ?_
  refine g_getr X h (k := 2) (t := 70) (cc_0) fr_RX7_27 rfl (by decide) (by decide) (by decide) dX7_isGoneWithout_32 ?_
  refine g_ki h (g_runV X h (As := []) (rest := []) (c_X6_isGone gl Z v28 w 70 isW1 n (B + k) (by rw [hx28]; exact RX_daysS h6 (RX_dead hrx) k (by omega))) mi_X6_isGone ml_RX7_162 (cc_70) (by decide) kl6 rfl ⟨Nat.le_of_ble_eq_true rfl, Nat.le_of_ble_eq_true rfl⟩ rfl hl.1 rfl (Nat.le_of_ble_eq_true rfl) dX7_isGoneWithout_35) (fun r35 v35 w35 H locs hp35 h => ?_)
  obtain ⟨hr35, hu35⟩ := hp35; obtain ⟨rfl, rfl⟩ := Prod.mk.inj hu35
  rw [hx28] at hr35
  exact g_nret X h dX7_isGoneWithout_38 (by rw [hr35]; exact nar_bI _) ⟨hr35, rfl, hs28⟩

set_option maxRecDepth 100000 in
set_option maxHeartbeats 1000000 in
theorem c_X7_whose (gl : Launch) (Z : PL) (v : VV) (w : WV) (x0 : Int32) (n : Nat) (B : Nat) (j : Nat) (L : LND) (hcn : CN v n B j L) (hB60 : B + 60 < 1000000) : CT gl yX7_whose cX7_whose 4 (some .int) 6 146 Z [.ref (zg Z 0), .int x0] v w (Qi Z (fun r u => r = sWhose (xC v 51 n) L n x0 ∧ (u.1, w) = u ∧ scC v u.1)) := by
  refine g_met (by decide) (Nat.le_of_ble_eq_true rfl) ?_
  intro gp ge gs gm ga gb gh gc X h ls hl
  have hx := X.1
  have hb := X.2.1
  have hl : lv_has ls 4 [(0, .ref (zg Z 0)), (1, .int x0)] := hl
  obtain ⟨hn, h6, hj7, hland, hst, hrx, hB⟩ := CN.f hcn
  refine lv_iload_n hx hb dX7_whose_0 rfl (lv_at hl 1 rfl) ?_
  refine lv_iconst (v := 1) hx hb dX7_whose_1 (by decide) ?_
  refine lv_bipush (v := 60) hx hb dX7_whose_2 (by decide) ?_
  refine g_ki h (g_runS X h (As := [.int x0, .int 1, .int 60]) (rest := []) (c_X7_isWithin gl Z v w x0 1 60) ms_X7_isWithin ml_RX7_58 ⟨Nat.le_of_ble_eq_true rfl, Nat.le_of_ble_eq_true rfl⟩ rfl hl.1 rfl (Nat.le_of_ble_eq_true rfl) dX7_whose_4) (fun r4 v4 w4 H locs hp4 h => ?_)
  obtain ⟨hr4, hu4⟩ := hp4; obtain ⟨rfl, rfl⟩ := Prod.mk.inj hu4
  refine lv_if_ne (tgt := 13) hx hb dX7_whose_7 (by decide) (fun c_7 => ?_) (fun c_7 => ?_)
  · skip
    rw [hr4, bI_n] at c_7
    obtain ⟨k, hk, hkl, hkn, hkc⟩ := inR_nat (a := 1) (b := 60) rfl rfl (by decide) c_7
    refine lv_aload_n hx hb dX7_whose_13 rfl (lv_at hl 0 rfl) ?_
    refine g_getr X h (k := 2) (t := 70) (cc_0) fr_RX7_27 rfl (by decide) (by decide) (by decide) dX7_whose_14 ?_
    refine lv_aload_n hx hb dX7_whose_17 rfl (lv_at hl 0 rfl) ?_
    refine g_getr X h (k := 1) (t := 51) (cc_0) fr_RX7_23 rfl (by decide) (by decide) (by decide) dX7_whose_18 ?_
    refine g_kv h (g_runV X h (As := [.ref (zg Z 51)]) (rest := []) (c_X6_startAs gl Z v w 70 isW1 51 isW0 (by decide) n j h6 hj7 (CN.f hcn).2.2.2.1 (CN.f hcn).2.2.2.2.1) mi_X6_startAs ml_RX7_169 (cc_70) (by decide) kl6 rfl ⟨Nat.le_of_ble_eq_true rfl, Nat.le_of_ble_eq_true rfl⟩ rfl hl.1 rfl (Nat.le_of_ble_eq_true rfl) dX7_whose_21) (fun v21 w21 H locs hp21 h => ?_)
    obtain ⟨hx21, hw21, hl621, hft21, hsw21⟩ := hp21
    obtain ⟨-, rfl⟩ := Prod.mk.inj hw21
    replace hx21 : xC v21 _ _ = _ := hx21
    replace hl621 : v21 _ 6 = _ := hl621
    replace hft21 : frT _ v21 _ := hft21
    replace hsw21 : stW v21 _ _ := hsw21
    obtain ⟨hs21, hc21, hX21⟩ := TC_start (scC_refl v) hcn hx21 hl621 hft21
    refine lv_aload_n hx hb dX7_whose_24 rfl (lv_at hl 0 rfl) ?_
    refine g_getr X h (k := 2) (t := 70) (cc_0) fr_RX7_27 rfl (by decide) (by decide) (by decide) dX7_whose_25 ?_
    refine lv_iload_n hx hb dX7_whose_28 rfl (lv_at hl 1 rfl) ?_
    refine g_kv h (g_runV X h (As := [.int x0]) (rest := []) (c_X6_goDays gl Z v21 w x0 k hk 70 isW1 n B j L hc21 (by omega)) mi_X6_goDays ml_RX7_165 (cc_70) (by decide) kl6 rfl ⟨Nat.le_of_ble_eq_true rfl, Nat.le_of_ble_eq_true rfl⟩ rfl hl.1 rfl (Nat.le_of_ble_eq_true rfl) dX7_whose_29) (fun v29 w29 H locs hp29 h => ?_)
    obtain ⟨hx29, hw29, hfd29⟩ := hp29
    obtain ⟨-, rfl⟩ := Prod.mk.inj hw29
    replace hx29 : xC v29 _ _ = _ := hx29
    replace hfd29 : frD _ v29 _ _ := hfd29
    rw [hX21] at hx29
    have hs29 := scC_trans hs21 (scC_D hj7 hfd29)
    refine lv_aload_n hx hb dX7_whose_32 rfl (lv_at hl 0 rfl) ?_
    refine g_getr X h (k := 2) (t := 70) (cc_0) fr_RX7_27 rfl (by decide) (by decide) (by decide) dX7_whose_33 ?_
    refine g_ki h (g_runV X h (As := []) (rest := []) (c_X6_isGone gl Z v29 w 70 isW1 n (B + k) (by rw [hx29]; exact RX_daysS h6 hrx k (by omega))) mi_X6_isGone ml_RX7_162 (cc_70) (by decide) kl6 rfl ⟨Nat.le_of_ble_eq_true rfl, Nat.le_of_ble_eq_true rfl⟩ rfl hl.1 rfl (Nat.le_of_ble_eq_true rfl) dX7_whose_36) (fun r36 v36 w36 H locs hp36 h => ?_)
    obtain ⟨hr36, hu36⟩ := hp36; obtain ⟨rfl, rfl⟩ := Prod.mk.inj hu36
    rw [hx29] at hr36
    refine lv_if_eq (tgt := 44) hx hb dX7_whose_39 (by decide) (fun c_39 => ?_) (fun c_39 => ?_)
    · skip
      rw [hr36, bI_0] at c_39
      refine lv_iconst (v := 0) hx hb dX7_whose_44 (by decide) ?_
      refine lv_istore_n (lv' := [(2, .int 0), (0, .ref (zg Z 0)), (1, .int x0)]) hx hb dX7_whose_45 rfl hl (by decide) rfl (fun ls hl => ?_)
      refine lv_iconst (v := 0) hx hb dX7_whose_46 (by decide) ?_
      refine lv_istore_n (lv' := [(3, .int 0), (2, .int 0), (0, .ref (zg Z 0)), (1, .int x0)]) hx hb dX7_whose_47 rfl hl (by decide) rfl (fun ls hl => ?_)
      have L48 : ∀ (n48 : Nat) (i : Nat) (x2 x3 : Int32) (va : VV), (x3 = nI i) → (i ≤ n) → (x2 = whoF (xC v 51 n) L n k i) → (scC v va) → n - i < n48 → ∀ (H : Heap) (locs : List Loc), HS Z gs va w H locs → ∀ ls : Array Slot, lv_has ls 4 [(0, .ref (zg Z 0)), (1, .int x0), (2, .int x2), (3, .int x3)] → W gp gl ge (rmm 6 146) gs gm ga gb gh gc H locs 0 0 (MQ gb (Qi Z (fun r u => r = sWhose (xC v 51 n) L n x0 ∧ (u.1, w) = u ∧ scC v u.1)) ga gs 0 0 (zA Z)) (F0 gm 48 ls []) := by
        intro n48
        induction n48 with
        | zero => intro i x2 x3 va hi3 hi hx2 hsa hmu; exact absurd hmu (Nat.not_lt_zero _)
        | succ n48 ih48 =>
          intro i x2 x3 va hi3 hi hx2 hsa hmu48 H locs h ls hl
          refine lv_iload_n hx hb dX7_whose_48 rfl (lv_at hl 3 rfl) ?_
          refine lv_aload_n hx hb dX7_whose_49 rfl (lv_at hl 0 rfl) ?_
          refine g_getr X h (k := 1) (t := 51) (cc_0) fr_RX7_23 rfl (by decide) (by decide) (by decide) dX7_whose_50 ?_
          refine g_getr X h (k := 0) (t := 52) (cc_51) fr_RX7_62 rfl (by decide) (by decide) (by decide) dX7_whose_53 ?_
          refine g_geti X h (k := 0) (cc_52) fr_RX7_66 rfl (by decide) dX7_whose_56 ?_
          refine g_tr (y := (v 52 0)) (by rw [sq_at hsa (i := 52) (by omega) (by omega) (by omega)]) ?_
          refine lv_icmp_ge (tgt := 97) hx hb dX7_whose_59 (by decide) (fun c_59 => ?_) (fun c_59 => ?_)
          · skip
            have hin := nI_le1 (a := n) (b := i) hn hi3 (by omega) (by omega) c_59
            refine lv_iload_n hx hb dX7_whose_97 rfl (lv_at hl 2 rfl) ?_
            exact g_iret X h dX7_whose_98 ⟨by rw [sWhose, if_pos c_7, hkc, if_neg (by rw [goneS, helS, c_39]; simp), hx2, show i = n by omega], rfl, hsa⟩
          · skip
            have hin := nI_le0 (a := n) (b := i) hn hi3 (by omega) (by omega) c_59
            refine lv_aload_n hx hb dX7_whose_62 rfl (lv_at hl 0 rfl) ?_
            refine g_getr X h (k := 1) (t := 51) (cc_0) fr_RX7_23 rfl (by decide) (by decide) (by decide) dX7_whose_63 ?_
            refine g_getr X h (k := 0) (t := 52) (cc_51) fr_RX7_62 rfl (by decide) (by decide) (by decide) dX7_whose_66 ?_
            refine lv_iload_n hx hb dX7_whose_69 rfl (lv_at hl 3 rfl) ?_
            refine g_ki h (g_runV X h (As := [.int x3]) (rest := []) (c_X3_isDead gl Z va w x3 i hi3 (by omega) 52 (isWE isW0)) mi_X3_isDead ml_RX7_93 (cc_52) (by decide) kl3 rfl ⟨Nat.le_of_ble_eq_true rfl, Nat.le_of_ble_eq_true rfl⟩ rfl hl.1 rfl (Nat.le_of_ble_eq_true rfl) dX7_whose_70) (fun r70 v70 w70 H locs hp70 h => ?_)
            obtain ⟨hr70, hu70⟩ := hp70; obtain ⟨rfl, rfl⟩ := Prod.mk.inj hu70
            rw [sq_at hsa (i := 52) (by omega) (by omega) (by omega)] at hr70
            refine lv_if_ne (tgt := 91) hx hb dX7_whose_73 (by decide) (fun c_73 => ?_) (fun c_73 => ?_)
            · skip
              rw [hr70, bI_n] at c_73
              refine lv_iinc (v := (x3 + 1)) (lv' := [(3, .int (x3 + 1)), (0, .ref (zg Z 0)), (1, .int x0), (2, .int x2)]) hx hb dX7_whose_91 hl (k := 3) rfl rfl (by decide) rfl (fun ls hl => ?_)
              refine lv_goto (tgt := 48) hx hb dX7_whose_94 (by decide) ?_
              exact ih48 (i + 1) x2 (x3 + 1) va (by rw [hi3]; exact nI_1 _) (by omega) (by rw [hx2, whoF, if_neg (fun z => by have z1 := z.1; rw [xC_dead (by omega)] at z1; rw [show dB (v (51 + 1) 7) i = bI (bt (v 52 7) i) from rfl, c_73] at z1; exact absurd z1 (by decide))]) hsa (by omega) _ _ h ls (lv_sub hl [1, 2, 3, 0] rfl)
            · skip
              rw [hr70, bI_0] at c_73
              refine lv_aload_n hx hb dX7_whose_76 rfl (lv_at hl 0 rfl) ?_
              refine lv_iload_n hx hb dX7_whose_77 rfl (lv_at hl 3 rfl) ?_
              refine lv_iload_n hx hb dX7_whose_78 rfl (lv_at hl 1 rfl) ?_
              refine g_ki h (g_runV X h (As := [.int x3, .int x0]) (rest := []) (c_X7_isGoneWithout gl Z va w x3 i hi3 x0 k hk n B j L (CN_sc hsa hcn) hin (by omega)) mi_X7_isGoneWithout ml_RX7_176 (cc_0) (by decide) kl7 rfl ⟨Nat.le_of_ble_eq_true rfl, Nat.le_of_ble_eq_true rfl⟩ rfl hl.1 rfl (Nat.le_of_ble_eq_true rfl) dX7_whose_79) (fun r79 v79 w79 H locs hp79 h => ?_)
              obtain ⟨hr79, hw79, hs79⟩ := hp79
              obtain ⟨-, rfl⟩ := Prod.mk.inj hw79
              replace hs79 : scC _ v79 := hs79
              rw [xC_sc hsa] at hr79
              refine lv_if_eq (tgt := 91) hx hb dX7_whose_82 (by decide) (fun c_82 => ?_) (fun c_82 => ?_)
              · skip
                rw [hr79, bI_0] at c_82
                refine lv_iinc (v := (x3 + 1)) (lv' := [(3, .int (x3 + 1)), (0, .ref (zg Z 0)), (1, .int x0), (2, .int x2)]) hx hb dX7_whose_91 hl (k := 3) rfl rfl (by decide) rfl (fun ls hl => ?_)
                refine lv_goto (tgt := 48) hx hb dX7_whose_94 (by decide) ?_
                exact ih48 (i + 1) x2 (x3 + 1) v79 (by rw [hi3]; exact nI_1 _) (by omega) (by rw [hx2, whoF, if_neg (fun z => by rw [z.2] at c_82; cases c_82)]) (scC_trans hsa hs79) (by omega) _ _ h ls (lv_sub hl [1, 2, 3, 0] rfl)
              · skip
                rw [hr79, bI_n] at c_82
                refine lv_iload_n hx hb dX7_whose_85 rfl (lv_at hl 2 rfl) ?_
                refine lv_iconst (v := 1) hx hb dX7_whose_86 (by decide) ?_
                refine lv_iload_n hx hb dX7_whose_87 rfl (lv_at hl 3 rfl) ?_
                refine lv_ishl hx hb dX7_whose_88 ?_
                refine lv_ior hx hb dX7_whose_89 ?_
                refine lv_topi (fun x2_90 ex2_90 => ?_)
                refine lv_istore_n (lv' := [(2, .int x2_90), (0, .ref (zg Z 0)), (1, .int x0), (3, .int x3)]) hx hb dX7_whose_90 rfl hl (by decide) rfl (fun ls hl => ?_)
                refine lv_iinc (v := (x3 + 1)) (lv' := [(3, .int (x3 + 1)), (2, .int x2_90), (0, .ref (zg Z 0)), (1, .int x0)]) hx hb dX7_whose_91 hl (k := 3) rfl rfl (by decide) rfl (fun ls hl => ?_)
                refine lv_goto (tgt := 48) hx hb dX7_whose_94 (by decide) ?_
                exact ih48 (i + 1) x2_90 (x3 + 1) v79 (by rw [hi3]; exact nI_1 _) (by omega) (by rw [ex2_90, hx2, hi3, whoF, if_pos ⟨(by rw [xC_dead (by omega)]; rw [show dB (v (51 + 1) 7) i = bI (bt (v 52 7) i) from rfl, c_73]; rfl), c_82⟩]) (scC_trans hsa hs79) (by omega) _ _ h ls (lv_sub hl [2, 3, 1, 0] rfl)
      exact L48 (n - 0 + 1) 0 0 0 v29 rfl (Nat.zero_le _) rfl hs29 (Nat.lt_succ_self _) _ _ h ls (lv_sub hl [2, 3, 1, 0] rfl)
    · skip
      rw [hr36, bI_n] at c_39
      refine lv_iconst (v := 0) hx hb dX7_whose_42 (by decide) ?_
      exact g_iret X h dX7_whose_43 ⟨by rw [sWhose, if_pos c_7, hkc, if_pos (show goneS _ _ _ _ = true from c_39)], rfl, hs29⟩
  · skip
    rw [hr4, bI_0] at c_7
    refine lv_bipush (v := (-2)) hx hb dX7_whose_10 (by decide) ?_
    exact g_iret X h dX7_whose_12 ⟨by simp [sWhose, c_7], rfl, scC_refl v⟩

set_option maxRecDepth 100000 in
set_option maxHeartbeats 1000000 in
theorem c_X7_lowest (gl : Launch) (Z : PL) (v : VV) (w : WV) (x0 : Int32) (a : Nat) (ha : x0 = nI a) (x1 : Int32) (d : Nat) (hd : x1 = nI d) (x2 : Int32) (hd0 : 0 < d) (ha9 : a < 1000000) (hd9 : d < 1000) : CT gl yX7_lowest cX7_lowest 5 (some .long) 1 22 Z [.int x0, .int x1, .int x2] v w (Ql Z (fun r u => r = lowS a d x2 ∧ (v, w) = u)) := by
  refine g_met (by decide) (Nat.le_of_ble_eq_true rfl) ?_
  intro gp ge gs gm ga gb gh gc X h ls hl
  have hx := X.1
  have hb := X.2.1
  have hl : lv_has ls 5 [(0, .int x0), (1, .int x1), (2, .int x2)] := hl
  refine lv_iload_n hx hb dX7_lowest_0 rfl (lv_at hl 2 rfl) ?_
  refine lv_iconst (v := 0) hx hb dX7_lowest_1 (by decide) ?_
  refine lv_iconst (v := 1) hx hb dX7_lowest_2 (by decide) ?_
  refine g_ki h (g_runS X h (As := [.int x2, .int 0, .int 1]) (rest := []) (c_X7_isWithin gl Z v w x2 0 1) ms_X7_isWithin ml_RX7_58 ⟨Nat.le_of_ble_eq_true rfl, Nat.le_of_ble_eq_true rfl⟩ rfl hl.1 rfl (Nat.le_of_ble_eq_true rfl) dX7_lowest_3) (fun r3 v3 w3 H locs hp3 h => ?_)
  obtain ⟨hr3, hu3⟩ := hp3; obtain ⟨rfl, rfl⟩ := Prod.mk.inj hu3
  refine lv_if_ne (tgt := 13) hx hb dX7_lowest_6 (by decide) (fun c_6 => ?_) (fun c_6 => ?_)
  · skip
    rw [hr3, bI_n] at c_6
    refine lv_iload_n hx hb dX7_lowest_13 rfl (lv_at hl 2 rfl) ?_
    refine lv_if_ne (tgt := 21) hx hb dX7_lowest_14 (by decide) (fun c_14 => ?_) (fun c_14 => ?_)
    · skip
      refine lv_iload_n hx hb dX7_lowest_21 rfl (lv_at hl 1 rfl) ?_
      refine lv_istore_n (lv' := [(3, .int x1), (0, .int x0), (1, .int x1), (2, .int x2)]) hx hb dX7_lowest_22 rfl hl (by decide) rfl (fun ls hl => ?_)
      refine lv_iload_n hx hb dX7_lowest_23 rfl (lv_at hl 2 rfl) ?_
      refine lv_istore (lv' := [(4, .int x1), (3, .int x1), (0, .int x0), (1, .int x1), (2, .int x2)]) hx hb dX7_lowest_24 hl (by decide) rfl (fun ls hl => ?_)
      have L26 : ∀ (n26 : Nat) (g : Nat) (x4 : Int32), (x4 = nI g) → (1 ≤ g) → (g ≤ d) → (∀ e, g < e → e ≤ d → ¬ (e ∣ a ∧ e ∣ d)) → g < n26 → ∀ (H : Heap) (locs : List Loc), HS Z gs v w H locs → ∀ ls : Array Slot, lv_has ls 5 [(0, .int x0), (1, .int x1), (2, .int x2), (3, .int x1), (4, .int x4)] → W gp gl ge (rmm 1 22) gs gm ga gb gh gc H locs 0 0 (MQ gb (Ql Z (fun r u => r = lowS a d x2 ∧ (v, w) = u)) ga gs 0 0 (zA Z)) (F0 gm 26 ls []) := by
        intro n26
        induction n26 with
        | zero => intro g x4 h4 hg hgd hno hmu; exact absurd hmu (Nat.not_lt_zero _)
        | succ n26 ih26 =>
          intro g x4 h4 hg hgd hno hmu26 H locs h ls hl
          refine lv_iload hx hb dX7_lowest_26 (lv_at hl 4 rfl) ?_
          refine lv_iconst (v := 1) hx hb dX7_lowest_28 (by decide) ?_
          refine lv_icmp_le (tgt := 58) hx hb dX7_lowest_29 (by decide) (fun c_29 => ?_) (fun c_29 => ?_)
          · skip
            have hg1 : g = 1 := by have z := nI_le1 (a := g) (b := 1) h4 rfl (by omega) (by omega) c_29; omega
            refine lv_iload_n hx hb dX7_lowest_58 rfl (lv_at hl 3 rfl) ?_
            refine lv_i2l hx hb dX7_lowest_59 rfl ?_
            exact g_lret X h dX7_lowest_60 ⟨low_1 (gcd_is (g := 1) (Nat.one_dvd _) (Nat.one_dvd _) hd0 (by rw [hg1] at hno; exact hno)) (by omega) (by omega) c_6 (by rw [if_neg c_14]; exact hd), rfl⟩
          · skip
            have hg1 : 1 < g := by have z := nI_le0 (a := g) (b := 1) h4 rfl (by omega) (by omega) c_29; omega
            refine lv_iload_n hx hb dX7_lowest_32 rfl (lv_at hl 0 rfl) ?_
            refine lv_iload hx hb dX7_lowest_33 (lv_at hl 4 rfl) ?_
            refine lv_irem hx hb dX7_lowest_35 (by rw [h4]; exact nI_ne0 (by omega) (by omega)) ?_
            refine lv_if_ne (tgt := 52) hx hb dX7_lowest_36 (by decide) (fun c_36 => ?_) (fun c_36 => ?_)
            · skip
              have ng : ¬ (g ∣ a ∧ g ∣ d) := fun z => c_36 (by rw [ha, h4]; exact (nd_0 (by omega) (by omega) (by omega)).mpr z.1)
              refine lv_iinc (v := (x4 + (-1))) (lv' := [(4, .int (x4 + (-1))), (0, .int x0), (1, .int x1), (2, .int x2), (3, .int x1)]) hx hb dX7_lowest_52 hl (k := 4) rfl rfl (by decide) rfl (fun ls hl => ?_)
              refine lv_goto (tgt := 26) hx hb dX7_lowest_55 (by decide) ?_
              exact ih26 (g - 1) (x4 + (-1)) (by rw [h4]; exact sb_m1 (by omega)) (by omega) (by omega) (fun e h1 h2 => if q : e = g then (by rw [q]; exact ng) else hno e (by omega) h2) (by omega) _ _ h ls (lv_sub hl [1, 2, 3, 4, 0] rfl)
            · skip
              have ga1 : g ∣ a := by rw [ha, h4] at c_36; exact (nd_0 (by omega) (by omega) (by omega)).mp c_36
              refine lv_iload_n hx hb dX7_lowest_39 rfl (lv_at hl 1 rfl) ?_
              refine lv_iload hx hb dX7_lowest_40 (lv_at hl 4 rfl) ?_
              refine lv_irem hx hb dX7_lowest_42 (by rw [h4]; exact nI_ne0 (by omega) (by omega)) ?_
              refine lv_if_ne (tgt := 52) hx hb dX7_lowest_43 (by decide) (fun c_43 => ?_) (fun c_43 => ?_)
              · skip
                have ng : ¬ (g ∣ a ∧ g ∣ d) := fun z => c_43 (by rw [hd, h4]; exact (nd_0 (by omega) (by omega) (by omega)).mpr z.2)
                refine lv_iinc (v := (x4 + (-1))) (lv' := [(4, .int (x4 + (-1))), (0, .int x0), (1, .int x1), (2, .int x2), (3, .int x1)]) hx hb dX7_lowest_52 hl (k := 4) rfl rfl (by decide) rfl (fun ls hl => ?_)
                refine lv_goto (tgt := 26) hx hb dX7_lowest_55 (by decide) ?_
                exact ih26 (g - 1) (x4 + (-1)) (by rw [h4]; exact sb_m1 (by omega)) (by omega) (by omega) (fun e h1 h2 => if q : e = g then (by rw [q]; exact ng) else hno e (by omega) h2) (by omega) _ _ h ls (lv_sub hl [1, 2, 3, 4, 0] rfl)
              · skip
                have gd1 : g ∣ d := by rw [hd, h4] at c_43; exact (nd_0 (by omega) (by omega) (by omega)).mp c_43
                refine lv_iload_n hx hb dX7_lowest_46 rfl (lv_at hl 3 rfl) ?_
                refine lv_iload hx hb dX7_lowest_47 (lv_at hl 4 rfl) ?_
                refine lv_idiv hx hb dX7_lowest_49 (by rw [h4]; exact nI_ne0 (by omega) (by omega)) ?_
                refine lv_i2l hx hb dX7_lowest_50 rfl ?_
                exact g_lret X h dX7_lowest_51 ⟨(by rw [h4]; exact low_0 (gcd_is ga1 gd1 hd0 hno) (by omega) (by omega) c_6 (by omega) (by omega) (by rw [if_neg c_14]; exact hd)), rfl⟩
      exact L26 (d + 1) d x1 hd hd0 (Nat.le_refl _) (fun e h1 h2 => by omega) (Nat.lt_succ_self _) _ _ h ls (lv_sub hl [2, 3, 4, 1, 0] rfl)
    · skip
      refine lv_iload_n hx hb dX7_lowest_17 rfl (lv_at hl 0 rfl) ?_
      refine lv_goto (tgt := 22) hx hb dX7_lowest_18 (by decide) ?_
      refine lv_istore_n (lv' := [(3, .int x0), (0, .int x0), (1, .int x1), (2, .int x2)]) hx hb dX7_lowest_22 rfl hl (by decide) rfl (fun ls hl => ?_)
      refine lv_iload_n hx hb dX7_lowest_23 rfl (lv_at hl 2 rfl) ?_
      refine lv_istore (lv' := [(4, .int x1), (3, .int x0), (0, .int x0), (1, .int x1), (2, .int x2)]) hx hb dX7_lowest_24 hl (by decide) rfl (fun ls hl => ?_)
      have L26 : ∀ (n26 : Nat) (g : Nat) (x4 : Int32), (x4 = nI g) → (1 ≤ g) → (g ≤ d) → (∀ e, g < e → e ≤ d → ¬ (e ∣ a ∧ e ∣ d)) → g < n26 → ∀ (H : Heap) (locs : List Loc), HS Z gs v w H locs → ∀ ls : Array Slot, lv_has ls 5 [(0, .int x0), (1, .int x1), (2, .int x2), (3, .int x0), (4, .int x4)] → W gp gl ge (rmm 1 22) gs gm ga gb gh gc H locs 0 0 (MQ gb (Ql Z (fun r u => r = lowS a d x2 ∧ (v, w) = u)) ga gs 0 0 (zA Z)) (F0 gm 26 ls []) := by
        intro n26
        induction n26 with
        | zero => intro g x4 h4 hg hgd hno hmu; exact absurd hmu (Nat.not_lt_zero _)
        | succ n26 ih26 =>
          intro g x4 h4 hg hgd hno hmu26 H locs h ls hl
          refine lv_iload hx hb dX7_lowest_26 (lv_at hl 4 rfl) ?_
          refine lv_iconst (v := 1) hx hb dX7_lowest_28 (by decide) ?_
          refine lv_icmp_le (tgt := 58) hx hb dX7_lowest_29 (by decide) (fun c_29 => ?_) (fun c_29 => ?_)
          · skip
            have hg1 : g = 1 := by have z := nI_le1 (a := g) (b := 1) h4 rfl (by omega) (by omega) c_29; omega
            refine lv_iload_n hx hb dX7_lowest_58 rfl (lv_at hl 3 rfl) ?_
            refine lv_i2l hx hb dX7_lowest_59 rfl ?_
            exact g_lret X h dX7_lowest_60 ⟨low_1 (gcd_is (g := 1) (Nat.one_dvd _) (Nat.one_dvd _) hd0 (by rw [hg1] at hno; exact hno)) (by omega) (by omega) c_6 (by rw [if_pos c_14]; exact ha), rfl⟩
          · skip
            have hg1 : 1 < g := by have z := nI_le0 (a := g) (b := 1) h4 rfl (by omega) (by omega) c_29; omega
            refine lv_iload_n hx hb dX7_lowest_32 rfl (lv_at hl 0 rfl) ?_
            refine lv_iload hx hb dX7_lowest_33 (lv_at hl 4 rfl) ?_
            refine lv_irem hx hb dX7_lowest_35 (by rw [h4]; exact nI_ne0 (by omega) (by omega)) ?_
            refine lv_if_ne (tgt := 52) hx hb dX7_lowest_36 (by decide) (fun c_36 => ?_) (fun c_36 => ?_)
            · skip
              have ng : ¬ (g ∣ a ∧ g ∣ d) := fun z => c_36 (by rw [ha, h4]; exact (nd_0 (by omega) (by omega) (by omega)).mpr z.1)
              refine lv_iinc (v := (x4 + (-1))) (lv' := [(4, .int (x4 + (-1))), (0, .int x0), (1, .int x1), (2, .int x2), (3, .int x0)]) hx hb dX7_lowest_52 hl (k := 4) rfl rfl (by decide) rfl (fun ls hl => ?_)
              refine lv_goto (tgt := 26) hx hb dX7_lowest_55 (by decide) ?_
              exact ih26 (g - 1) (x4 + (-1)) (by rw [h4]; exact sb_m1 (by omega)) (by omega) (by omega) (fun e h1 h2 => if q : e = g then (by rw [q]; exact ng) else hno e (by omega) h2) (by omega) _ _ h ls (lv_sub hl [1, 2, 3, 4, 0] rfl)
            · skip
              have ga1 : g ∣ a := by rw [ha, h4] at c_36; exact (nd_0 (by omega) (by omega) (by omega)).mp c_36
              refine lv_iload_n hx hb dX7_lowest_39 rfl (lv_at hl 1 rfl) ?_
              refine lv_iload hx hb dX7_lowest_40 (lv_at hl 4 rfl) ?_
              refine lv_irem hx hb dX7_lowest_42 (by rw [h4]; exact nI_ne0 (by omega) (by omega)) ?_
              refine lv_if_ne (tgt := 52) hx hb dX7_lowest_43 (by decide) (fun c_43 => ?_) (fun c_43 => ?_)
              · skip
                have ng : ¬ (g ∣ a ∧ g ∣ d) := fun z => c_43 (by rw [hd, h4]; exact (nd_0 (by omega) (by omega) (by omega)).mpr z.2)
                refine lv_iinc (v := (x4 + (-1))) (lv' := [(4, .int (x4 + (-1))), (0, .int x0), (1, .int x1), (2, .int x2), (3, .int x0)]) hx hb dX7_lowest_52 hl (k := 4) rfl rfl (by decide) rfl (fun ls hl => ?_)
                refine lv_goto (tgt := 26) hx hb dX7_lowest_55 (by decide) ?_
                exact ih26 (g - 1) (x4 + (-1)) (by rw [h4]; exact sb_m1 (by omega)) (by omega) (by omega) (fun e h1 h2 => if q : e = g then (by rw [q]; exact ng) else hno e (by omega) h2) (by omega) _ _ h ls (lv_sub hl [1, 2, 3, 4, 0] rfl)
              · skip
                have gd1 : g ∣ d := by rw [hd, h4] at c_43; exact (nd_0 (by omega) (by omega) (by omega)).mp c_43
                refine lv_iload_n hx hb dX7_lowest_46 rfl (lv_at hl 3 rfl) ?_
                refine lv_iload hx hb dX7_lowest_47 (lv_at hl 4 rfl) ?_
                refine lv_idiv hx hb dX7_lowest_49 (by rw [h4]; exact nI_ne0 (by omega) (by omega)) ?_
                refine lv_i2l hx hb dX7_lowest_50 rfl ?_
                exact g_lret X h dX7_lowest_51 ⟨(by rw [h4]; exact low_0 (gcd_is ga1 gd1 hd0 hno) (by omega) (by omega) c_6 (by omega) (by omega) (by rw [if_pos c_14]; exact ha)), rfl⟩
      exact L26 (d + 1) d x1 hd hd0 (Nat.le_refl _) (fun e h1 h2 => by omega) (Nat.lt_succ_self _) _ _ h ls (lv_sub hl [2, 3, 4, 1, 0] rfl)
  · skip
    rw [hr3, bI_0] at c_6
    refine lv_ldc2 hx hb X.ow (X.ts _ cl_RX7_196) dX7_lowest_9 ?_
    exact g_lret X h dX7_lowest_12 ⟨by rw [lowS, if_neg (by rw [c_6]; simp)]; rfl, rfl⟩

set_option maxRecDepth 100000 in
set_option maxHeartbeats 1000000 in
theorem c_X7_odds (gl : Launch) (Z : PL) (v : VV) (w : WV) (x0 : Int32) (x1 : Int32) (n : Nat) (B : Nat) (j : Nat) (L : LND) (hcn : CN v n B j L) (hB60 : B + 60 < 1000000) : CT gl yX7_odds cX7_odds 6 (some .long) 6 146 Z [.ref (zg Z 0), .int x0, .int x1] v w (Ql Z (fun r u => r = sOdds (xC v 51 n) L n x0 x1 ∧ (u.1, w) = u ∧ scC v u.1)) := by
  refine g_met (by decide) (Nat.le_of_ble_eq_true rfl) ?_
  intro gp ge gs gm ga gb gh gc X h ls hl
  have hx := X.1
  have hb := X.2.1
  have hl : lv_has ls 6 [(0, .ref (zg Z 0)), (1, .int x0), (2, .int x1)] := hl
  obtain ⟨hn, h6, hj7, hland, hst, hrx, hB⟩ := CN.f hcn
  refine lv_aload_n hx hb dX7_odds_0 rfl (lv_at hl 0 rfl) ?_
  refine g_getr X h (k := 1) (t := 51) (cc_0) fr_RX7_23 rfl (by decide) (by decide) (by decide) dX7_odds_1 ?_
  refine g_getr X h (k := 0) (t := 52) (cc_51) fr_RX7_62 rfl (by decide) (by decide) (by decide) dX7_odds_4 ?_
  refine g_geti X h (k := 0) (cc_52) fr_RX7_66 rfl (by decide) dX7_odds_7 ?_
  refine lv_topi (fun x3_10 ex3_10 => ?_)
  refine lv_istore_n (lv' := [(3, .int x3_10), (0, .ref (zg Z 0)), (1, .int x0), (2, .int x1)]) hx hb dX7_odds_10 rfl hl (by decide) rfl (fun ls hl => ?_)
  have hn3 : x3_10 = nI n := ex3_10.trans hn
  refine lv_iload_n hx hb dX7_odds_11 rfl (lv_at hl 0 rfl) ?_
  refine lv_if_eq (tgt := 25) hx hb dX7_odds_12 (by decide) (fun c_12 => ?_) (fun c_12 => ?_)
  · skip
    have hn0 : n = 0 := nI_inj (b := 0) (by omega) (by omega) (hn3.symm.trans c_12)
    refine lv_ldc2 hx hb X.ow (X.ts _ cl_RX7_196) dX7_odds_25 ?_
    exact g_lret X h dX7_odds_28 ⟨by rw [odds_no (Or.inl hn0)]; rfl, rfl, scC_refl v⟩
  · skip
    have hn0 : 0 < n := by
      rcases Nat.eq_zero_or_pos n with z | z
      · exact absurd (by rw [hn3, z]; rfl) c_12
      · exact z
    refine lv_iload_n hx hb dX7_odds_15 rfl (lv_at hl 2 rfl) ?_
    refine lv_iconst (v := 0) hx hb dX7_odds_16 (by decide) ?_
    refine lv_bipush (v := 60) hx hb dX7_odds_17 (by decide) ?_
    refine g_ki h (g_runS X h (As := [.int x0, .int 0, .int 60]) (rest := []) (c_X7_isWithin gl Z v w x0 0 60) ms_X7_isWithin ml_RX7_58 ⟨Nat.le_of_ble_eq_true rfl, Nat.le_of_ble_eq_true rfl⟩ rfl hl.1 rfl (Nat.le_of_ble_eq_true rfl) dX7_odds_19) (fun r19 v19 w19 H locs hp19 h => ?_)
    obtain ⟨hr19, hu19⟩ := hp19; obtain ⟨rfl, rfl⟩ := Prod.mk.inj hu19
    refine lv_if_ne (tgt := 29) hx hb dX7_odds_22 (by decide) (fun c_22 => ?_) (fun c_22 => ?_)
    · skip
      rw [hr19, bI_n] at c_22
      obtain ⟨k, hk, hk0, hk60, hkc⟩ := inR_nat (a := 0) (b := 60) rfl rfl (by decide) c_22
      refine lv_iconst (v := 0) hx hb dX7_odds_29 (by decide) ?_
      refine lv_istore (lv' := [(4, .int 0), (3, .int x3_10), (0, .ref (zg Z 0)), (1, .int x0), (2, .int x1)]) hx hb dX7_odds_30 hl (by decide) rfl (fun ls hl => ?_)
      refine lv_iconst (v := 0) hx hb dX7_odds_32 (by decide) ?_
      refine lv_istore (lv' := [(5, .int 0), (4, .int 0), (3, .int x3_10), (0, .ref (zg Z 0)), (1, .int x0), (2, .int x1)]) hx hb dX7_odds_33 hl (by decide) rfl (fun ls hl => ?_)
      have L35 : ∀ (n35 : Nat) (i : Nat) (x4 x5 : Int32) (va : VV), (x5 = nI i) → (i ≤ n) → (x4 = nI (livF (xC v 51 n) L n k i)) → (scC v va) → n - i < n35 → ∀ (H : Heap) (locs : List Loc), HS Z gs va w H locs → ∀ ls : Array Slot, lv_has ls 6 [(0, .ref (zg Z 0)), (1, .int x0), (2, .int x1), (3, .int x3_10), (4, .int x4), (5, .int x5)] → W gp gl ge (rmm 6 146) gs gm ga gb gh gc H locs 0 0 (MQ gb (Ql Z (fun r u => r = sOdds (xC v 51 n) L n x0 x1 ∧ (u.1, w) = u ∧ scC v u.1)) ga gs 0 0 (zA Z)) (F0 gm 35 ls []) := by
        intro n35
        induction n35 with
        | zero => intro i x4 x5 va hi5 hi hx4 hsa hmu; exact absurd hmu (Nat.not_lt_zero _)
        | succ n35 ih35 =>
          intro i x4 x5 va hi5 hi hx4 hsa hmu35 H locs h ls hl
          refine lv_iload hx hb dX7_odds_35 (lv_at hl 5 rfl) ?_
          refine lv_iload_n hx hb dX7_odds_37 rfl (lv_at hl 3 rfl) ?_
          refine lv_icmp_ge (tgt := 60) hx hb dX7_odds_38 (by decide) (fun c_38 => ?_) (fun c_38 => ?_)
          · skip
            have hin := nI_le1 (a := n) (b := i) hn3 hi5 (by omega) (by omega) c_38
            refine lv_iload hx hb dX7_odds_60 (lv_at hl 4 rfl) ?_
            refine lv_iload_n hx hb dX7_odds_62 rfl (lv_at hl 3 rfl) ?_
            refine lv_iload_n hx hb dX7_odds_63 rfl (lv_at hl 2 rfl) ?_
            refine g_kl h (g_runS X h (As := [.int x4, .int x3_10, .int x1]) (rest := []) (c_X7_lowest gl Z va w x4 (livF (xC v 51 n) L n k n) (by rw [hx4, show i = n by omega]) x3_10 n hn3 x1 hn0 (by have z := livF_le (xC v 51 n) L n k n; omega) (by omega)) ms_X7_lowest ml_RX7_198 ⟨Nat.le_of_ble_eq_true rfl, Nat.le_of_ble_eq_true rfl⟩ rfl hl.1 rfl (Nat.le_of_ble_eq_true rfl) dX7_odds_64) (fun r64 v64 w64 H locs hp64 h => ?_)
            obtain ⟨hr64, hu64⟩ := hp64; obtain ⟨rfl, rfl⟩ := Prod.mk.inj hu64
            exact g_lret X h dX7_odds_67 ⟨by rw [odds_low hn0 c_22, hkc]; exact hr64, rfl, hsa⟩
          · skip
            have hin := nI_le0 (a := n) (b := i) hn3 hi5 (by omega) (by omega) c_38
            refine lv_aload_n hx hb dX7_odds_41 rfl (lv_at hl 0 rfl) ?_
            refine lv_iload hx hb dX7_odds_42 (lv_at hl 5 rfl) ?_
            refine lv_iload_n hx hb dX7_odds_44 rfl (lv_at hl 1 rfl) ?_
            refine g_ki h (g_runV X h (As := [.int x5, .int x0]) (rest := []) (c_X7_isGoneWithout gl Z va w x5 i hi5 x0 k hk n B j L (CN_sc hsa hcn) hin (by omega)) mi_X7_isGoneWithout ml_RX7_176 (cc_0) (by decide) kl7 rfl ⟨Nat.le_of_ble_eq_true rfl, Nat.le_of_ble_eq_true rfl⟩ rfl hl.1 rfl (Nat.le_of_ble_eq_true rfl) dX7_odds_45) (fun r45 v45 w45 H locs hp45 h => ?_)
            obtain ⟨hr45, hw45, hs45⟩ := hp45
            obtain ⟨-, rfl⟩ := Prod.mk.inj hw45
            replace hs45 : scC _ v45 := hs45
            rw [xC_sc hsa] at hr45
            refine lv_if_ne (tgt := 54) hx hb dX7_odds_48 (by decide) (fun c_48 => ?_) (fun c_48 => ?_)
            · skip
              rw [hr45, bI_n] at c_48
              refine lv_iinc (v := (x5 + 1)) (lv' := [(5, .int (x5 + 1)), (0, .ref (zg Z 0)), (1, .int x0), (2, .int x1), (3, .int x3_10), (4, .int x4)]) hx hb dX7_odds_54 hl (k := 5) rfl rfl (by decide) rfl (fun ls hl => ?_)
              refine lv_goto (tgt := 35) hx hb dX7_odds_57 (by decide) ?_
              exact ih35 (i + 1) x4 (x5 + 1) v45 (by rw [hi5]; exact nI_1 _) (by omega) (by rw [hx4, livF, if_pos c_48]) (scC_trans hsa hs45) (by omega) _ _ h ls (lv_sub hl [1, 2, 3, 4, 5, 0] rfl)
            · skip
              rw [hr45, bI_0] at c_48
              refine lv_iinc (v := (x4 + 1)) (lv' := [(4, .int (x4 + 1)), (0, .ref (zg Z 0)), (1, .int x0), (2, .int x1), (3, .int x3_10), (5, .int x5)]) hx hb dX7_odds_51 hl (k := 4) rfl rfl (by decide) rfl (fun ls hl => ?_)
              refine lv_iinc (v := (x5 + 1)) (lv' := [(5, .int (x5 + 1)), (4, .int (x4 + 1)), (0, .ref (zg Z 0)), (1, .int x0), (2, .int x1), (3, .int x3_10)]) hx hb dX7_odds_54 hl (k := 5) rfl rfl (by decide) rfl (fun ls hl => ?_)
              refine lv_goto (tgt := 35) hx hb dX7_odds_57 (by decide) ?_
              exact ih35 (i + 1) (x4 + 1) (x5 + 1) v45 (by rw [hi5]; exact nI_1 _) (by omega) (by rw [hx4, livF, if_neg (by rw [c_48]; simp)]; exact nI_1 _) (scC_trans hsa hs45) (by omega) _ _ h ls (lv_sub hl [2, 3, 4, 5, 1, 0] rfl)
      exact L35 (n - 0 + 1) 0 0 0 v rfl (Nat.zero_le _) rfl (scC_refl v) (Nat.lt_succ_self _) _ _ h ls (lv_sub hl [3, 4, 5, 2, 1, 0] rfl)
    · skip
      rw [hr19, bI_0] at c_22
      refine lv_ldc2 hx hb X.ow (X.ts _ cl_RX7_196) dX7_odds_25 ?_
      exact g_lret X h dX7_odds_28 ⟨by rw [odds_no (Or.inr c_22)]; rfl, rfl, scC_refl v⟩
