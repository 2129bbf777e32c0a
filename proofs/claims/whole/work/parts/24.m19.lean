def sLand (k : Nat) (R : Bool × Nat × LND) : Int32 := if k = 6 then -4 else if R.1 = true then nI k else -10 - nI R.2.1
def LDp (v u : VV) (k z c : Nat) (R : Bool × Nat × LND) : Prop := (k = 6 → u = v) ∧ (k < 6 → R.1 = false → ∃ x : VV, LFr c k v x ∧ u = up2 (up2 x 116 12 0) 116 22 (nI c)) ∧ (k < 6 → R.1 = true → ∃ (x : VV) (cc : Nat), LFr c k v x ∧ RLn x k R.2.2 cc ∧ (c ≤ cc ∧ cc ≤ c + z) ∧ x 116 22 = nI cc ∧ u = up2 (up2 (up2 (up2 x 116 12 0) 125 k (nI R.2.2.length)) 116 15 (nI k)) 116 14 (nI (k + 1)))
section
variable {t : Nat → Int32} {z a : Nat} {L : LND}
theorem ldL_u (h : L.length < 10) : ldL t z (10 - L.length) a L = if (clR t z a).1 = true then
      (if (clR t z a).2.1 = z then (true, z, L ++ [(clR t z a).2.2])
       else if 9 - L.length = 0 then (false, (clR t z a).2.1, [])
       else if isAt t z (clR t z a).2.1 59 then ldL t z (9 - L.length) ((clR t z a).2.1 + 1) (L ++ [(clR t z a).2.2])
       else (false, (clR t z a).2.1, []))
    else (false, (clR t z a).2.1, []) := by
  rw [show 10 - L.length = (9 - L.length) + 1 by omega]
  rfl
end
theorem ld_no {r : Int32} {v u x : VV} {w : WV} {k z c b : Nat} {R : Bool × Nat × LND} (hk : k < 6) (hR : R = (false, b, [])) (hr : r = -10 - nI b) (hF : LFr c k v x) (hu : u = up2 (up2 x 116 12 0) 116 22 (nI c)) : r = sLand k R ∧ (u, w) = (u, w) ∧ LDp v u k z c R := by
  subst hR
  exact ⟨by rw [sLand, if_neg (by omega), if_neg (fun q => by cases q)]; exact hr, rfl, fun q => by omega, fun _ _ => ⟨x, hF, hu⟩, fun _ q => by cases q⟩
theorem ld_yes {r : Int32} {v u x : VV} {w : WV} {k z c b cc : Nat} {R : Bool × Nat × LND} {L : LND} (hk : k < 6) (hR : R = (true, b, L)) (hr : r = nI k) (hF : LFr c k v x) (hL : RLn x k L cc) (hc : c ≤ cc ∧ cc ≤ c + z) (h22 : x 116 22 = nI cc) (hu : u = up2 (up2 (up2 (up2 x 116 12 0) 125 k (nI L.length)) 116 15 (nI k)) 116 14 (nI (k + 1))) : r = sLand k R ∧ (u, w) = (u, w) ∧ LDp v u k z c R := by
  subst hR
  exact ⟨by rw [sLand, if_neg (by omega), if_pos rfl]; exact hr, rfl, (fun q => by omega), (fun _ q => by cases q), fun _ _ => ⟨x, cc, hF, hL, hc, h22, hu⟩⟩
set_option maxRecDepth 100000 in
set_option maxHeartbeats 1000000 in
theorem c_X8_land (gl : Launch) (Z : PL) (v : VV) (w : WV) (k : Nat) (hk : v 116 14 = nI k) (hk6 : k ≤ 6) (z : Nat) (hz : v 116 12 = nI z) (hz1 : z ≤ 100) (c : Nat) (hc : v 116 22 = nI c) (hcc : c ≤ 100 * k) (o : Nat) (ho : v 116 24 = nI o) : CT gl yX8_land cX8_land 5 (some .int) 21 441 Z [.ref (zg Z 116)] v w (Qi Z (fun r u => r = sLand k (ldR (v 124) z) ∧ (u.1, w) = u ∧ LDp v u.1 k z c (ldR (v 124) z))) := by
  refine g_met (by decide) (Nat.le_of_ble_eq_true rfl) ?_
  intro gp ge gs gm ga gb gh gc X h ls hl
  have hx := X.1
  have hb := X.2.1
  have hl : lv_has ls 5 [(0, .ref (zg Z 116))] := hl
  obtain ⟨t, ht9⟩ : ∃ t, v 124 = t := ⟨_, rfl⟩
  refine lv_aload_n hx hb dX8_land_0 rfl (lv_at hl 0 rfl) ?_
  refine g_geti X h (k := 14) (cc_116) fr_RX8_218 rfl (by decide) dX8_land_1 ?_
  refine lv_bipush (v := 6) hx hb dX8_land_4 (by decide) ?_
  refine lv_icmp_ne (tgt := 12) hx hb dX8_land_6 (by decide) (fun c_6 => ?_) (fun c_6 => ?_)
  · skip
    have hk9 := nI_eq0 (a := k) (b := 6) hk rfl c_6
    have hk5 : k < 6 := by omega
    have hP0 : PS v t z 0 c o → True := fun _ => trivial
    refine lv_aload_n hx hb dX8_land_12 rfl (lv_at hl 0 rfl) ?_
    refine g_geti X h (k := 22) (cc_116) fr_RX8_170 rfl (by decide) dX8_land_13 ?_
    refine lv_topi (fun x1_16 ex1_16 => ?_)
    refine lv_istore_n (lv' := [(1, .int x1_16), (0, .ref (zg Z 116))]) hx hb dX8_land_16 rfl hl (by decide) rfl (fun ls hl => ?_)
    refine lv_aload_n hx hb dX8_land_17 rfl (lv_at hl 1 rfl) ?_
    refine lv_iconst (v := 0) hx hb dX8_land_18 (by decide) ?_
    refine g_puti X h (k := 23) (cc_116) fp_RX8_145 rfl (by decide) dX8_land_19 (fun v19 H locs ev19 h => ?_)
    refine lv_iconst (v := 0) hx hb dX8_land_22 (by decide) ?_
    refine lv_istore_n (lv' := [(2, .int 0), (1, .int x1_16), (0, .ref (zg Z 116))]) hx hb dX8_land_23 rfl hl (by decide) rfl (fun ls hl => ?_)
    refine lv_iconst (v := 1) hx hb dX8_land_24 (by decide) ?_
    refine lv_istore_n (lv' := [(3, .int 1), (2, .int 0), (1, .int x1_16), (0, .ref (zg Z 116))]) hx hb dX8_land_25 rfl hl (by decide) rfl (fun ls hl => ?_)
    refine lv_iconst (v := 0) hx hb dX8_land_26 (by decide) ?_
    refine lv_istore (lv' := [(4, .int 0), (3, .int 1), (2, .int 0), (1, .int x1_16), (0, .ref (zg Z 116))]) hx hb dX8_land_27 hl (by decide) rfl (fun ls hl => ?_)
    refine lv_iload_n hx hb dX8_land_29 rfl (lv_at hl 1 rfl) ?_
    refine lv_if_eq (tgt := 123) hx hb dX8_land_30 (by decide) (fun c_30 => ?_) (fun c_30 => ?_)
    · exact absurd c_30 (by decide)
    · skip
      refine lv_iload hx hb dX8_land_33 (lv_at hl 0 rfl) ?_
      refine lv_if_ne (tgt := 123) hx hb dX8_land_35 (by decide) (fun c_35 => ?_) (fun c_35 => ?_)
      · exact absurd rfl c_35
      · skip
        have L38 : ∀ (n38 : Nat) (a cc o1 : Nat) (L : LND) (x2 : Int32) (va : VV), (x2 = nI L.length) → (L.length < 10) → (ldR t z = ldL t z (10 - L.length) a L) → (PS va t z a cc o1) → (RLn va k L cc) → (LFr c k v va) → (cc ≤ c + a) → (c ≤ cc) → 10 - L.length < n38 → ∀ (H : Heap) (locs : List Loc), HS Z gs va w H locs → ∀ ls : Array Slot, lv_has ls 5 [(0, .ref (zg Z 116)), (1, .int x1_16), (2, .int x2), (3, .int 1), (4, .int 0)] → W gp gl ge (rmm 21 441) gs gm ga gb gh gc H locs 0 0 (MQ gb (Qi Z (fun r u => r = sLand k (ldR (v 124) z) ∧ (u.1, w) = u ∧ LDp v u.1 k z c (ldR (v 124) z))) ga gs 0 0 (zA Z)) (F0 gm 38 ls []) := by
          intro n38
          induction n38 with
          | zero => intro a cc o1 L x2 va hx2 hL e hPa hRL hF hca hcl hmu; exact absurd hmu (Nat.not_lt_zero _)
          | succ n38 ih38 =>
            intro a cc o1 L x2 va hx2 hL e hPa hRL hF hca hcl hmu38 H locs h ls hl
            have hk14 : va 116 14 = nI k := (hF.2.1 14 (by decide)).trans hk
            refine lv_iload_n hx hb dX8_land_38 rfl (lv_at hl 2 rfl) ?_
            refine lv_bipush (v := 10) hx hb dX8_land_39 (by decide) ?_
            refine lv_icmp_ge (tgt := 64) hx hb dX8_land_41 (by decide) (fun c_41 => ?_) (fun c_41 => ?_)
            · exact absurd (nI_le1 (a := 10) (b := L.length) rfl hx2 (by omega) (by omega) c_41) (by omega)
            · skip
              refine lv_aload_n hx hb dX8_land_44 rfl (lv_at hl 0 rfl) ?_
              refine lv_bipush (v := 10) hx hb dX8_land_45 (by decide) ?_
              refine lv_aload_n hx hb dX8_land_47 rfl (lv_at hl 0 rfl) ?_
              refine g_geti X h (k := 14) (cc_116) fr_RX8_218 rfl (by decide) dX8_land_48 ?_
              refine lv_imul hx hb dX8_land_51 ?_
              refine lv_iload_n hx hb dX8_land_52 rfl (lv_at hl 2 rfl) ?_
              refine lv_iadd hx hb dX8_land_53 ?_
              refine g_ki h (g_runV X h (As := [.int ((10 * (va 116 14)) + x2)]) (rest := []) (c_X8_isClause gl Z va w ((10 * (va 116 14)) + x2) ((10 * k) + L.length) (by rw [show ((10 * (va 116 14))) = nI (10 * k) from (by rw [show (10) = nI 10 from rfl, show ((va 116 14)) = nI k from hk14, pk_mul]), show (x2) = nI L.length from hx2, nI_add]) (by omega) t z a cc o1 hPa) mi_X8_isClause ml_RX8_221 (cc_116) (by decide) kl8 rfl ⟨Nat.le_of_ble_eq_true rfl, Nat.le_of_ble_eq_true rfl⟩ rfl hl.1 rfl (Nat.le_of_ble_eq_true rfl) dX8_land_54) (fun r54 v54 w54 H locs hp54 h => ?_)
              obtain ⟨hr54, hu54, hq54⟩ := hp54
              obtain ⟨-, rfl⟩ := Prod.mk.inj hu54
              replace hq54 : CR t z _ _ _ v54 _ := hq54
              have h14 : v54 116 14 = nI k := (hq54.1.2.1 14 (by decide)).trans hk14
              have hF54 : LFr c k v v54 := LFr_step hF hq54.1 hcl hL
              have hz54 : v54 116 12 = nI z := (hq54.1.2.1 12 (by decide)).trans hPa.2.1
              obtain ⟨g1, g2, g3⟩ := clR_G (t := t) hPa.2.2.2.2.2.2.1
              refine lv_if_eq (tgt := 64) hx hb dX8_land_57 (by decide) (fun c_57 => ?_) (fun c_57 => ?_)
              · skip
                rw [hr54, bI_0] at c_57
                have h23 := hq54.2.1
                refine lv_iconst (v := 0) hx hb dX8_land_64 (by decide) ?_
                refine lv_istore_n (lv' := [(3, .int 0), (0, .ref (zg Z 116)), (1, .int x1_16), (2, .int x2), (4, .int 0)]) hx hb dX8_land_65 rfl hl (by decide) rfl (fun ls hl => ?_)
                refine lv_iload_n hx hb dX8_land_66 rfl (lv_at hl 0 rfl) ?_
                refine lv_if_ne (tgt := 73) hx hb dX8_land_67 (by decide) (fun c_67 => ?_) (fun c_67 => ?_)
                · exact absurd rfl c_67
                · skip
                  refine lv_goto (tgt := 29) hx hb dX8_land_70 (by decide) ?_
                  refine lv_iload_n hx hb dX8_land_29 rfl (lv_at hl 0 rfl) ?_
                  refine lv_if_eq (tgt := 123) hx hb dX8_land_30 (by decide) (fun c_30 => ?_) (fun c_30 => ?_)
                  · skip
                    refine lv_aload_n hx hb dX8_land_123 rfl (lv_at hl 1 rfl) ?_
                    refine lv_iconst (v := 0) hx hb dX8_land_124 (by decide) ?_
                    refine g_puti X h (k := 12) (cc_116) fp_RX8_142 rfl (by decide) dX8_land_125 (fun v125 H locs ev125 h => ?_)
                    refine lv_iload hx hb dX8_land_128 (lv_at hl 4 rfl) ?_
                    refine lv_if_ne (tgt := 146) hx hb dX8_land_130 (by decide) (fun c_130 => ?_) (fun c_130 => ?_)
                    · exact absurd rfl c_130
                    · skip
                      refine lv_aload_n hx hb dX8_land_133 rfl (lv_at hl 1 rfl) ?_
                      refine lv_iload_n hx hb dX8_land_134 rfl (lv_at hl 2 rfl) ?_
                      refine g_puti X h (k := 22) (cc_116) fp_RX8_170 rfl (by decide) dX8_land_135 (fun v135 H locs ev135 h => ?_)
                      refine lv_bipush (v := (-10)) hx hb dX8_land_138 (by decide) ?_
                      refine lv_aload_n hx hb dX8_land_140 rfl (lv_at hl 1 rfl) ?_
                      refine g_geti X h (k := 23) (cc_116) fr_RX8_145 rfl (by decide) dX8_land_141 ?_
                      refine g_tr (y := (v54 116 23)) (by simp [ev135, ev125, up2, upc]) ?_
                      refine lv_isub hx hb dX8_land_144 ?_
                      exact g_iret X h dX8_land_145 (ld_no hk5 (by rw [ht9]; exact e.trans (by rw [ldL_u hL, if_neg (by rw [c_57]; decide)])) (by rw [h23]) hF54 (by rw [ev135, ev125, ex1_16, hc]))
                  · exact absurd rfl c_30
              · skip
                rw [hr54, bI_n] at c_57
                have hy54 := hq54.2.2 c_57
                obtain ⟨g4, g5, g6, g7⟩ := g3 c_57
                have h23 := hq54.2.1
                refine lv_iconst (v := 1) hx hb dX8_land_60 (by decide) ?_
                refine lv_goto (tgt := 65) hx hb dX8_land_61 (by decide) ?_
                refine lv_istore_n (lv' := [(3, .int 1), (0, .ref (zg Z 116)), (1, .int x1_16), (2, .int x2), (4, .int 0)]) hx hb dX8_land_65 rfl hl (by decide) rfl (fun ls hl => ?_)
                refine lv_iload_n hx hb dX8_land_66 rfl (lv_at hl 0 rfl) ?_
                refine lv_if_ne (tgt := 73) hx hb dX8_land_67 (by decide) (fun c_67 => ?_) (fun c_67 => ?_)
                · skip
                  refine lv_iinc (v := (x2 + 1)) (lv' := [(2, .int (x2 + 1)), (3, .int 1), (0, .ref (zg Z 116)), (1, .int x1_16), (4, .int 0)]) hx hb dX8_land_73 hl (k := 3) rfl rfl (by decide) rfl (fun ls hl => ?_)
                  refine lv_aload_n hx hb dX8_land_76 rfl (lv_at hl 2 rfl) ?_
                  refine g_geti X h (k := 23) (cc_116) fr_RX8_145 rfl (by decide) dX8_land_77 ?_
                  refine lv_aload_n hx hb dX8_land_80 rfl (lv_at hl 2 rfl) ?_
                  refine g_geti X h (k := 12) (cc_116) fr_RX8_142 rfl (by decide) dX8_land_81 ?_
                  refine lv_icmp_ne (tgt := 91) hx hb dX8_land_84 (by decide) (fun c_84 => ?_) (fun c_84 => ?_)
                  · skip
                    have hq2 := nI_eq0 (a := (clR t z a).2.1) (b := z) h23 hz54 c_84
                    refine lv_iconst (v := 0) hx hb dX8_land_91 (by decide) ?_
                    refine lv_istore (lv' := [(4, .int 0), (2, .int (x2 + 1)), (3, .int 1), (0, .ref (zg Z 116)), (1, .int x1_16)]) hx hb dX8_land_92 hl (by decide) rfl (fun ls hl => ?_)
                    refine lv_iload hx hb dX8_land_94 (lv_at hl 0 rfl) ?_
                    refine lv_if_ne (tgt := 114) hx hb dX8_land_96 (by decide) (fun c_96 => ?_) (fun c_96 => ?_)
                    · exact absurd rfl c_96
                    · skip
                      refine lv_iload_n hx hb dX8_land_99 rfl (lv_at hl 1 rfl) ?_
                      refine lv_bipush (v := 10) hx hb dX8_land_100 (by decide) ?_
                      refine lv_icmp_ge (tgt := 118) hx hb dX8_land_102 (by decide) (fun c_102 => ?_) (fun c_102 => ?_)
                      · skip
                        have hq3 := nI_le1 (a := 10) (b := (L.length + 1)) rfl (show x2 + 1 = nI (L.length + 1) by rw [hx2]; exact nI_1 _) (by omega) (by omega) c_102
                        refine lv_iconst (v := 0) hx hb dX8_land_118 (by decide) ?_
                        refine lv_istore_n (lv' := [(3, .int 0), (4, .int 0), (2, .int (x2 + 1)), (0, .ref (zg Z 116)), (1, .int x1_16)]) hx hb dX8_land_119 rfl hl (by decide) rfl (fun ls hl => ?_)
                        refine lv_goto (tgt := 29) hx hb dX8_land_120 (by decide) ?_
                        refine lv_iload_n hx hb dX8_land_29 rfl (lv_at hl 0 rfl) ?_
                        refine lv_if_eq (tgt := 123) hx hb dX8_land_30 (by decide) (fun c_30 => ?_) (fun c_30 => ?_)
                        · skip
                          refine lv_aload_n hx hb dX8_land_123 rfl (lv_at hl 3 rfl) ?_
                          refine lv_iconst (v := 0) hx hb dX8_land_124 (by decide) ?_
                          refine g_puti X h (k := 12) (cc_116) fp_RX8_142 rfl (by decide) dX8_land_125 (fun v125 H locs ev125 h => ?_)
                          refine lv_iload hx hb dX8_land_128 (lv_at hl 1 rfl) ?_
                          refine lv_if_ne (tgt := 146) hx hb dX8_land_130 (by decide) (fun c_130 => ?_) (fun c_130 => ?_)
                          · exact absurd rfl c_130
                          · skip
                            refine lv_aload_n hx hb dX8_land_133 rfl (lv_at hl 3 rfl) ?_
                            refine lv_iload_n hx hb dX8_land_134 rfl (lv_at hl 4 rfl) ?_
                            refine g_puti X h (k := 22) (cc_116) fp_RX8_170 rfl (by decide) dX8_land_135 (fun v135 H locs ev135 h => ?_)
                            refine lv_bipush (v := (-10)) hx hb dX8_land_138 (by decide) ?_
                            refine lv_aload_n hx hb dX8_land_140 rfl (lv_at hl 3 rfl) ?_
                            refine g_geti X h (k := 23) (cc_116) fr_RX8_145 rfl (by decide) dX8_land_141 ?_
                            refine g_tr (y := (v54 116 23)) (by simp [ev135, ev125, up2, upc]) ?_
                            refine lv_isub hx hb dX8_land_144 ?_
                            exact g_iret X h dX8_land_145 (ld_no hk5 (by rw [ht9]; exact e.trans (by rw [ldL_u hL, if_pos c_57, if_neg hq2, if_pos (by omega)])) (by rw [h23]) hF54 (by rw [ev135, ev125, ex1_16, hc]))
                        · exact absurd rfl c_30
                      · skip
                        have hq3 := nI_le0 (a := 10) (b := (L.length + 1)) rfl (show x2 + 1 = nI (L.length + 1) by rw [hx2]; exact nI_1 _) (by omega) (by omega) c_102
                        refine lv_aload_n hx hb dX8_land_105 rfl (lv_at hl 3 rfl) ?_
                        refine lv_bipush (v := 59) hx hb dX8_land_106 (by decide) ?_
                        refine g_ki h (g_runV X h (As := [.int 59]) (rest := []) (c_X8_is gl Z v54 w 59 ((clR t z a).2.1) z h23 hz54 g2 hz1) mi_X8_is ml_RX8_167 (cc_116) (by decide) kl8 rfl ⟨Nat.le_of_ble_eq_true rfl, Nat.le_of_ble_eq_true rfl⟩ rfl hl.1 rfl (Nat.le_of_ble_eq_true rfl) dX8_land_108) (fun r108 v108 w108 H locs hp108 h => ?_)
                        obtain ⟨hr108, hu108⟩ := hp108
                        obtain ⟨hv108, rfl⟩ := Prod.mk.inj hu108
                        rw [(hq54.1.1 124 (by decide) (by decide)).trans hPa.1] at hr108 hv108
                        refine lv_if_eq (tgt := 118) hx hb dX8_land_111 (by decide) (fun c_111 => ?_) (fun c_111 => ?_)
                        · skip
                          rw [hr108, bI_0] at c_111
                          rw [c_111, if_neg (by decide)] at hv108
                          refine lv_iconst (v := 0) hx hb dX8_land_118 (by decide) ?_
                          refine lv_istore_n (lv' := [(3, .int 0), (4, .int 0), (2, .int (x2 + 1)), (0, .ref (zg Z 116)), (1, .int x1_16)]) hx hb dX8_land_119 rfl hl (by decide) rfl (fun ls hl => ?_)
                          refine lv_goto (tgt := 29) hx hb dX8_land_120 (by decide) ?_
                          refine lv_iload_n hx hb dX8_land_29 rfl (lv_at hl 0 rfl) ?_
                          refine lv_if_eq (tgt := 123) hx hb dX8_land_30 (by decide) (fun c_30 => ?_) (fun c_30 => ?_)
                          · skip
                            refine lv_aload_n hx hb dX8_land_123 rfl (lv_at hl 3 rfl) ?_
                            refine lv_iconst (v := 0) hx hb dX8_land_124 (by decide) ?_
                            refine g_puti X h (k := 12) (cc_116) fp_RX8_142 rfl (by decide) dX8_land_125 (fun v125 H locs ev125 h => ?_)
                            refine lv_iload hx hb dX8_land_128 (lv_at hl 1 rfl) ?_
                            refine lv_if_ne (tgt := 146) hx hb dX8_land_130 (by decide) (fun c_130 => ?_) (fun c_130 => ?_)
                            · exact absurd rfl c_130
                            · skip
                              refine lv_aload_n hx hb dX8_land_133 rfl (lv_at hl 3 rfl) ?_
                              refine lv_iload_n hx hb dX8_land_134 rfl (lv_at hl 4 rfl) ?_
                              refine g_puti X h (k := 22) (cc_116) fp_RX8_170 rfl (by decide) dX8_land_135 (fun v135 H locs ev135 h => ?_)
                              refine lv_bipush (v := (-10)) hx hb dX8_land_138 (by decide) ?_
                              refine lv_aload_n hx hb dX8_land_140 rfl (lv_at hl 3 rfl) ?_
                              refine g_geti X h (k := 23) (cc_116) fr_RX8_145 rfl (by decide) dX8_land_141 ?_
                              refine g_tr (y := (v108 116 23)) (by simp [ev135, ev125, up2, upc]) ?_
                              refine lv_isub hx hb dX8_land_144 ?_
                              exact g_iret X h dX8_land_145 (ld_no hk5 (by rw [ht9]; exact e.trans (by rw [ldL_u hL, if_pos c_57, if_neg hq2, if_neg (by omega), if_neg (by rw [c_111]; decide)])) (by rw [← hv108, h23]) (show LFr c k v v108 by rw [← hv108]; exact hF54) (by rw [ev135, ev125, ex1_16, hc]))
                          · exact absurd rfl c_30
                        · skip
                          rw [hr108, bI_n] at c_111
                          rw [if_pos c_111] at hv108
                          refine lv_iconst (v := 1) hx hb dX8_land_114 (by decide) ?_
                          refine lv_goto (tgt := 119) hx hb dX8_land_115 (by decide) ?_
                          refine lv_istore_n (lv' := [(3, .int 1), (4, .int 0), (2, .int (x2 + 1)), (0, .ref (zg Z 116)), (1, .int x1_16)]) hx hb dX8_land_119 rfl hl (by decide) rfl (fun ls hl => ?_)
                          refine lv_goto (tgt := 29) hx hb dX8_land_120 (by decide) ?_
                          refine lv_iload_n hx hb dX8_land_29 rfl (lv_at hl 0 rfl) ?_
                          refine lv_if_eq (tgt := 123) hx hb dX8_land_30 (by decide) (fun c_30 => ?_) (fun c_30 => ?_)
                          · exact absurd c_30 (by decide)
                          · skip
                            refine lv_iload hx hb dX8_land_33 (lv_at hl 1 rfl) ?_
                            refine lv_if_ne (tgt := 123) hx hb dX8_land_35 (by decide) (fun c_35 => ?_) (fun c_35 => ?_)
                            · exact absurd rfl c_35
                            · skip
                              exact ih38 ((clR t z a).2.1 + 1) (cc + (clR t z a).2.2.2.2.length) 0 (L ++ [(clR t z a).2.2]) (x2 + 1) v108 (by rw [hx2, List.length_append, List.length_singleton]; exact nI_1 _) (by rw [List.length_append, List.length_singleton]; omega) (by rw [e, ldL_u hL, if_pos c_57, if_neg hq2, if_neg (by omega), if_pos c_111, List.length_append, List.length_singleton, show 10 - (L.length + 1) = 9 - L.length by omega]) (by rw [← hv108]; exact ⟨(up2_ne (by decide)).trans ((hq54.1.1 124 (by decide) (by decide)).trans hPa.1), by rw [up2_at, if_neg (by decide)]; exact hz54, by rw [up2_at, if_pos rfl], by rw [up2_at, if_neg (by decide)]; exact hy54.1, by rw [up2_at, if_neg (by decide)]; exact hy54.2.2.2.2.2.2, hz1, isAt_lt c_111, by have := isAt_lt c_111; omega⟩) (by rw [← hv108]; exact RLn_up (RLn_snoc (b := (clR t z a).2.1) hRL (by rw [← c_57]; exact hq54))) (by rw [← hv108]; exact LFr_up hF54 (by decide)) (by omega) (by omega) (by rw [List.length_append, List.length_singleton]; omega) _ _ h ls (lv_sub hl [3, 4, 2, 0, 1] rfl)
                  · skip
                    have hq2 := nI_eq1 (a := (clR t z a).2.1) (b := z) h23 hz54 (by omega) (by omega) c_84
                    refine lv_iconst (v := 1) hx hb dX8_land_87 (by decide) ?_
                    refine lv_goto (tgt := 92) hx hb dX8_land_88 (by decide) ?_
                    refine lv_istore (lv' := [(4, .int 1), (2, .int (x2 + 1)), (3, .int 1), (0, .ref (zg Z 116)), (1, .int x1_16)]) hx hb dX8_land_92 hl (by decide) rfl (fun ls hl => ?_)
                    refine lv_iload hx hb dX8_land_94 (lv_at hl 0 rfl) ?_
                    refine lv_if_ne (tgt := 114) hx hb dX8_land_96 (by decide) (fun c_96 => ?_) (fun c_96 => ?_)
                    · skip
                      refine lv_iconst (v := 1) hx hb dX8_land_114 (by decide) ?_
                      refine lv_goto (tgt := 119) hx hb dX8_land_115 (by decide) ?_
                      refine lv_istore_n (lv' := [(3, .int 1), (4, .int 1), (2, .int (x2 + 1)), (0, .ref (zg Z 116)), (1, .int x1_16)]) hx hb dX8_land_119 rfl hl (by decide) rfl (fun ls hl => ?_)
                      refine lv_goto (tgt := 29) hx hb dX8_land_120 (by decide) ?_
                      refine lv_iload_n hx hb dX8_land_29 rfl (lv_at hl 0 rfl) ?_
                      refine lv_if_eq (tgt := 123) hx hb dX8_land_30 (by decide) (fun c_30 => ?_) (fun c_30 => ?_)
                      · exact absurd c_30 (by decide)
                      · skip
                        refine lv_iload hx hb dX8_land_33 (lv_at hl 1 rfl) ?_
                        refine lv_if_ne (tgt := 123) hx hb dX8_land_35 (by decide) (fun c_35 => ?_) (fun c_35 => ?_)
                        · skip
                          refine lv_aload_n hx hb dX8_land_123 rfl (lv_at hl 3 rfl) ?_
                          refine lv_iconst (v := 0) hx hb dX8_land_124 (by decide) ?_
                          refine g_puti X h (k := 12) (cc_116) fp_RX8_142 rfl (by decide) dX8_land_125 (fun v125 H locs ev125 h => ?_)
                          refine lv_iload hx hb dX8_land_128 (lv_at hl 1 rfl) ?_
                          refine lv_if_ne (tgt := 146) hx hb dX8_land_130 (by decide) (fun c_130 => ?_) (fun c_130 => ?_)
                          · skip
                            refine lv_aload_n hx hb dX8_land_146 rfl (lv_at hl 3 rfl) ?_
                            refine g_getr X h (k := 16) (t := 125) (cc_116) fr_RX8_36 rfl (by decide) (by decide) (by decide) dX8_land_147 ?_
                            refine lv_aload_n hx hb dX8_land_150 rfl (lv_at hl 3 rfl) ?_
                            refine g_geti X h (k := 14) (cc_116) fr_RX8_218 rfl (by decide) dX8_land_151 ?_
                            refine g_tr (y := (v54 116 14)) (by simp [ev125, up2, upc]) ?_
                            refine lv_iload_n hx hb dX8_land_154 rfl (lv_at hl 2 rfl) ?_
                            refine g_iast X h (k := k) (cc_125) h14 (by omega) (by decide) dX8_land_155 (fun v155 H locs ev155 h => ?_)
                            refine lv_aload_n hx hb dX8_land_156 rfl (lv_at hl 3 rfl) ?_
                            refine lv_aload_n hx hb dX8_land_157 rfl (lv_at hl 3 rfl) ?_
                            refine g_geti X h (k := 14) (cc_116) fr_RX8_218 rfl (by decide) dX8_land_158 ?_
                            refine g_tr (y := (v54 116 14)) (by simp [ev155, ev125, up2, upc]) ?_
                            refine g_puti X h (k := 15) (cc_116) fp_RX8_102 rfl (by decide) dX8_land_161 (fun v161 H locs ev161 h => ?_)
                            refine lv_aload_n hx hb dX8_land_164 rfl (lv_at hl 3 rfl) ?_
                            refine lv_dup hx hb dX8_land_165 rfl ?_
                            refine g_geti X h (k := 14) (cc_116) fr_RX8_218 rfl (by decide) dX8_land_166 ?_
                            refine g_tr (y := (v54 116 14)) (by simp [ev161, ev155, ev125, up2, upc]) ?_
                            refine lv_dup_x1 hx hb dX8_land_169 rfl rfl ?_
                            refine lv_iconst (v := 1) hx hb dX8_land_170 (by decide) ?_
                            refine lv_iadd hx hb dX8_land_171 ?_
                            refine g_puti X h (k := 14) (cc_116) fp_RX8_218 rfl (by decide) dX8_land_172 (fun v172 H locs ev172 h => ?_)
                            exact g_iret X h dX8_land_175 (ld_yes hk5 (by rw [ht9]; exact e.trans (by rw [ldL_u hL, if_pos c_57, if_pos hq2])) (by first | exact h14 | (rw [h14])) hF54 (RLn_snoc (b := (clR t z a).2.1) hRL (by rw [← c_57]; exact hq54)) ⟨by omega, by omega⟩ hy54.1 (by rw [ev172, ev161, ev155, ev125, h14, nI_1, hx2, nI_1, List.length_append, List.length_singleton]))
                          · exact absurd c_130 (by decide)
                        · exact absurd c_35 (by decide)
                    · exact absurd c_96 (by decide)
                · exact absurd c_67 (by decide)
        exact L38 (10 - 0 + 1) 0 c o [] 0 v19 rfl (by decide) rfl (by rw [ev19]; exact ⟨(up2_ne (by decide)).trans ht9, by rw [up2_at, if_neg (by decide)]; exact hz, by rw [up2_at, if_pos rfl]; rfl, by rw [up2_at, if_neg (by decide)]; exact hc, by rw [up2_at, if_neg (by decide)]; exact ho, hz1, Nat.zero_le _, by omega⟩) (fun i hi => absurd hi (Nat.not_lt_zero _)) (by rw [ev19]; exact LFr_up (LFr_refl _ _ _) (by decide)) (by omega) (Nat.le_refl _) (Nat.lt_succ_self _) _ _ h ls (lv_sub hl [4, 3, 2, 1, 0] rfl)
  · skip
    have hk9 := nI_eq1 (a := k) (b := 6) hk rfl (by omega) (by omega) c_6
    refine lv_bipush (v := (-4)) hx hb dX8_land_9 (by decide) ?_
    exact g_iret X h dX8_land_11 ⟨by rw [hk9]; rfl, rfl, fun _ => rfl, fun q => by omega, fun q => by omega⟩
