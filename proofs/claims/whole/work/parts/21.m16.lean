/-! a clause, as the reference reads it -/
def CF (c j : Nat) (v u : VV) : Prop := (∀ i, i ≠ 116 → i < 126 ∨ 130 < i → u i = v i) ∧ (∀ k, k < 22 ∨ 26 < k → u 116 k = v 116 k) ∧ (∀ k, k < c → u 130 k = v 130 k) ∧ ∀ i k, 126 ≤ i → i ≤ 129 → k ≠ j → u i k = v i k
def CR (t : Nat → Int32) (z c j : Nat) (v u : VV) (r : Bool × Nat × CLA) : Prop := CF c j v u ∧ u 116 23 = nI r.2.1 ∧ (r.1 = true → u 116 22 = nI (c + r.2.2.2.2.length) ∧ u 126 j = nI r.2.2.1 ∧ u 127 j = nI r.2.2.2.1 ∧ u 128 j = nI c ∧ u 129 j = nI r.2.2.2.2.length ∧ TK u c r.2.2.2.2 ∧ u 116 24 = 0)
theorem PF_CF {c j : Nat} {v u : VV} (h : PF c v u) : CF c j v u := ⟨fun i a _ => h.1 i a (by omega), h.2.1, h.2.2, fun i k a b _ => by rw [h.1 i (by omega) (by omega)]⟩
theorem CF_trans {c j : Nat} {v u x : VV} (h : CF c j v u) (g : CF c j u x) : CF c j v x := ⟨fun i a b => (g.1 i a b).trans (h.1 i a b), fun k a => (g.2.1 k a).trans (h.2.1 k a), fun k a => (g.2.2.1 k a).trans (h.2.2.1 k a), fun i k a b q => (g.2.2.2 i k a b q).trans (h.2.2.2 i k a b q)⟩
theorem CF_up {c j i : Nat} {v u : VV} {x : Int32} (h : CF c j v u) (hi : 126 ≤ i ∧ i ≤ 129) : CF c j v (up2 u i j x) := ⟨fun k a b => (up2_ne (by omega)).trans (h.1 k a b), fun k a => by rw [up2_ne (by omega)]; exact h.2.1 k a, fun k a => by rw [up2_ne (by omega)]; exact h.2.2.1 k a, fun q k a b d => by
  show (if q = i ∧ k = j then x else u q k) = v q k
  rw [if_neg (fun y => d y.2)]
  exact h.2.2.2 q k a b d⟩
def clU (v : VV) (j : Nat) (x y q : Int32) : VV := up2 (up2 (up2 (up2 v 126 j x) 127 j y) 128 j q) 116 24 0
theorem CF_clU {c j : Nat} {v u : VV} {x y q : Int32} (h : CF c j v u) : CF c j v (clU u j x y q) := CF_trans (CF_up (CF_up (CF_up h (by decide)) (by decide)) (by decide)) (PF_CF (PF_up (PF_refl _ _) (by decide)))
theorem clU_i {v : VV} {j i : Nat} {x y q : Int32} (h : i ≠ 116 ∧ i ≠ 126 ∧ i ≠ 127 ∧ i ≠ 128) : clU v j x y q i = v i := by
  unfold clU
  rw [up2_ne h.1, up2_ne h.2.2.2, up2_ne h.2.2.1, up2_ne h.2.1]
theorem clU_116 {v : VV} {j k : Nat} {x y q : Int32} (h : k ≠ 24) : clU v j x y q 116 k = v 116 k := by
  unfold clU
  rw [up2_at, if_neg h, up2_ne (by decide), up2_ne (by decide), up2_ne (by decide)]
theorem PS_clU {v : VV} {t : Nat → Int32} {z a c o j : Nat} {x y q : Int32} (h : PS v t z a c o) : PS (clU v j x y q) t z a c 0 := by
  obtain ⟨h1, h2, h3, h4, h5, h6, h7, h8⟩ := h
  exact ⟨by rw [clU_i (by decide)]; exact h1, by rw [clU_116 (by decide)]; exact h2, by rw [clU_116 (by decide)]; exact h3, by rw [clU_116 (by decide)]; exact h4, by unfold clU; rw [up2_at, if_pos rfl]; rfl, h6, h7, h8⟩
theorem cl_out {r : Int32} {e R : Bool × Nat × CLA} {t : Nat → Int32} {z c j : Nat} {v u : VV} {w : WV} (he : e = R) (hr : r = bI R.1) (h : CR t z c j v u R) : r = bI e.1 ∧ (u, w) = (u, w) ∧ CR t z c j v u e := by subst he; exact ⟨hr, rfl, h⟩
theorem cl_no {t : Nat → Int32} {z c j b : Nat} {v u : VV} (hF : CF c j v u) (ha : u 116 23 = nI b) : CR t z c j v u (false, b, dC) := ⟨hF, ha, fun q => by cases q⟩
/-- the clause stands -/
theorem cl_yes {t : Nat → Int32} {z c j b W n : Nat} {v u0 u1 : VV} {l : List Nat} {x : Int32} (hF : CF c j v (clU u0 j (nI W) (nI n) (nI c))) (hG : PF c (clU u0 j (nI W) (nI n) (nI c)) u1) (hP : PS u1 t z b (c + l.length) 0) (hT : TK u1 c l) (hx : x = nI l.length) : CR t z c j v (up2 u1 129 j x) (true, b, (W, n, l)) := by
  subst hx
  refine ⟨CF_up (CF_trans hF (PF_CF hG)) (by decide), by rw [up2_ne (by decide)]; exact hP.2.2.1, fun _ => ⟨by rw [up2_ne (by decide)]; exact hP.2.2.2.1, ?_, ?_, ?_, by rw [up2_at, if_pos rfl], fun k hk => by rw [up2_ne (by decide)]; exact hT k hk, by rw [up2_ne (by decide)]; exact hP.2.2.2.2.1⟩⟩
  · rw [up2_ne (by decide), hG.1 126 (by decide) (by decide)]; simp [clU, up2]
  · rw [up2_ne (by decide), hG.1 127 (by decide) (by decide)]; simp [clU, up2]
  · rw [up2_ne (by decide), hG.1 128 (by decide) (by decide)]; simp [clU, up2]
theorem clU_128 {v : VV} {j : Nat} {x y q : Int32} : clU v j x y q 128 j = q := by simp [clU, up2]
set_option maxRecDepth 100000 in
set_option maxHeartbeats 1000000 in
theorem c_X8_isClause (gl : Launch) (Z : PL) (v : VV) (w : WV) (x0 : Int32) (j : Nat) (hj : x0 = nI j) (hj60 : j < 60) (t : Nat → Int32) (z : Nat) (a : Nat) (c : Nat) (o : Nat) (hP : PS v t z a c o) : CT gl yX8_isClause cX8_isClause 4 (some .boolean) 20 418 Z [.ref (zg Z 116), .int x0] v w (Qi Z (fun r u => r = bI (clR t z a).1 ∧ (u.1, w) = u ∧ CR t z c j v u.1 (clR t z a))) := by
  refine g_met (by decide) (Nat.le_of_ble_eq_true rfl) ?_
  intro gp ge gs gm ga gb gh gc X h ls hl
  have hx := X.1
  have hb := X.2.1
  have hl : lv_has ls 4 [(0, .ref (zg Z 116)), (1, .int x0)] := hl
  obtain ⟨ht, hz, ha, hc, ho, hz1, haz, hcb⟩ := id hP
  refine lv_iconst (v := (-1)) hx hb dX8_isClause_0 (by decide) ?_
  refine lv_istore_n (lv' := [(2, .int (-1)), (0, .ref (zg Z 116)), (1, .int x0)]) hx hb dX8_isClause_1 rfl hl (by decide) rfl (fun ls hl => ?_)
  refine lv_aload_n hx hb dX8_isClause_2 rfl (lv_at hl 1 rfl) ?_
  refine g_geti X h (k := 23) (cc_116) fr_RX8_145 rfl (by decide) dX8_isClause_3 ?_
  refine lv_aload_n hx hb dX8_isClause_6 rfl (lv_at hl 1 rfl) ?_
  refine g_geti X h (k := 12) (cc_116) fr_RX8_142 rfl (by decide) dX8_isClause_7 ?_
  have L123 : ∀ (Wx : Nat) (x2 : Int32), (clW t z a = Wx) → (x2 = if Wx = 5 then -1 else nI Wx) → (Wx ≤ 5) → ∀ (H : Heap) (locs : List Loc), HS Z gs v w H locs → ∀ ls : Array Slot, lv_has ls 4 [(0, .ref (zg Z 116)), (1, .int x0), (2, .int x2)] → W gp gl ge (rmm 20 418) gs gm ga gb gh gc H locs 0 0 (MQ gb (Qi Z (fun r u => r = bI (clR t z a).1 ∧ (u.1, w) = u ∧ CR t z c j v u.1 (clR t z a))) ga gs 0 0 (zA Z)) (F0 gm 123 ls []) := by
    intro Wx x2 hW hx2 hW5 H locs h ls hl
    rcases (show Wx = 0 ∨ Wx = 1 ∨ Wx = 2 ∨ Wx = 3 ∨ Wx = 4 ∨ Wx = 5 by omega) with rfl | rfl | rfl | rfl | rfl | rfl
    · skip
      replace hx2 : x2 = 0 := hx2
      refine lv_iload_n hx hb dX8_isClause_123 rfl (lv_at hl 2 rfl) ?_
      refine lv_if_ne (tgt := 136) hx hb dX8_isClause_124 (by decide) (fun c_124 => ?_) (fun c_124 => ?_)
      · exact absurd hx2 c_124
      · skip
        refine lv_aload_n hx hb dX8_isClause_127 rfl (lv_at hl 0 rfl) ?_
        refine g_ldcs X sE_7 dX8_isClause_128 ?_
        refine g_ki h (g_runV X h (As := [.ref (zK Z 7)]) (rest := []) (c_X8_isAll gl Z v w 7 (by first | decide | assumption) a z ha hz haz hz1) mi_X8_isAll ml_RX8_206 (cc_116) (by decide) kl8 rfl ⟨Nat.le_of_ble_eq_true rfl, Nat.le_of_ble_eq_true rfl⟩ rfl hl.1 rfl (Nat.le_of_ble_eq_true rfl) dX8_isClause_130) (fun r130 v130 w130 H locs hp130 h => ?_)
        obtain ⟨hr130, hu130⟩ := hp130
        obtain ⟨hv130, rfl⟩ := Prod.mk.inj hu130
        rw [hP.1] at hr130 hv130
        refine lv_goto (tgt := 197) hx hb dX8_isClause_133 (by decide) ?_
        refine lv_istore_n (lv' := [(3, .int r130), (0, .ref (zg Z 116)), (1, .int x0), (2, .int x2)]) hx hb dX8_isClause_197 rfl hl (by decide) rfl (fun ls hl => ?_)
        refine lv_iload_n hx hb dX8_isClause_198 rfl (lv_at hl 0 rfl) ?_
        refine lv_if_eq (tgt := 209) hx hb dX8_isClause_199 (by decide) (fun c_199 => ?_) (fun c_199 => ?_)
        · skip
          rw [hr130, bI_0] at c_199
          refine lv_iconst (v := 0) hx hb dX8_isClause_209 (by decide) ?_
          exact g_nret X h dX8_isClause_210 rfl (cl_out (by rw [clR, hW, if_neg (by decide), if_pos c_199]) rfl (cl_no (PF_CF (by rw [← hv130]; exact PF_up (PF_refl _ _) (by decide))) (by show v130 116 23 = _; rw [← hv130, up23])))
        · skip
          rw [hr130, bI_n] at c_199
          have hok : (allS t z 7 a).1 = true := c_199
          have hle := allF_le (t := t) (z := z) (strB.getD 7 []) a haz
          have hPq : PS v130 t z (allS t z 7 a).2 c o := by rw [← hv130]; exact PS_at hP hle.1 hle.2
          have hFq : PF c v v130 := by rw [← hv130]; exact PF_up (PF_refl _ _) (by decide)
          obtain ⟨q1, hq9⟩ : ∃ q1, (allS t z 7 a).2 = q1 := ⟨_, rfl⟩
          rw [hq9] at hPq
          refine lv_aload_n hx hb dX8_isClause_202 rfl (lv_at hl 1 rfl) ?_
          refine g_ki h (g_runV X h (As := []) (rest := []) (c_X8_isNumber gl Z v130 w q1 z hPq.2.2.1 hPq.2.1 hPq.2.2.2.2.2.2.1 hPq.2.2.2.2.2.1) mi_X8_isNumber ml_RX8_180 (cc_116) (by decide) kl8 rfl ⟨Nat.le_of_ble_eq_true rfl, Nat.le_of_ble_eq_true rfl⟩ rfl hl.1 rfl (Nat.le_of_ble_eq_true rfl) dX8_isClause_203) (fun r203 v203 w203 H locs hp203 h => ?_)
          obtain ⟨hr203, hu203⟩ := hp203
          obtain ⟨hv203, rfl⟩ := Prod.mk.inj hu203
          rw [hPq.1] at hr203 hv203
          refine lv_if_ne (tgt := 211) hx hb dX8_isClause_206 (by decide) (fun c_206 => ?_) (fun c_206 => ?_)
          · skip
            rw [hr203, bI_n] at c_206
            have hn1 : ¬ nmC t z q1 = 0 := by have := of_decide_eq_true c_206; omega
            have hn := nmC_le (t := t) (z := z) (a := q1) hPq.2.2.2.2.2.2.1
            have hP3 : PS v203 t z (q1 + nmC t z q1) c o := by rw [← hv203]; exact PS_num hPq hn
            have hF3 : PF c v v203 := by rw [← hv203]; exact PF_num hFq
            have hx25 : v203 116 25 = nI (nmV t q1 (nmC t z q1)) := by rw [← hv203]; exact numU_25
            refine lv_aload_n hx hb dX8_isClause_211 rfl (lv_at hl 1 rfl) ?_
            refine g_getr X h (k := 17) (t := 126) (cc_116) fr_RX8_39 rfl (by decide) (by decide) (by decide) dX8_isClause_212 ?_
            refine lv_iload_n hx hb dX8_isClause_215 rfl (lv_at hl 2 rfl) ?_
            refine lv_iload_n hx hb dX8_isClause_216 rfl (lv_at hl 3 rfl) ?_
            refine g_iast X h (k := j) (cc_126) hj (by omega) (by decide) dX8_isClause_217 (fun v217 H locs ev217 h => ?_)
            refine lv_aload_n hx hb dX8_isClause_218 rfl (lv_at hl 1 rfl) ?_
            refine g_getr X h (k := 18) (t := 127) (cc_116) fr_RX8_42 rfl (by decide) (by decide) (by decide) dX8_isClause_219 ?_
            refine lv_iload_n hx hb dX8_isClause_222 rfl (lv_at hl 2 rfl) ?_
            refine lv_aload_n hx hb dX8_isClause_223 rfl (lv_at hl 1 rfl) ?_
            refine g_geti X h (k := 25) (cc_116) fr_RX8_148 rfl (by decide) dX8_isClause_224 ?_
            refine g_tr (y := (v203 116 25)) (by simp [ev217, up2, upc]) ?_
            refine g_iast X h (k := j) (cc_127) hj (by omega) (by decide) dX8_isClause_227 (fun v227 H locs ev227 h => ?_)
            refine lv_aload_n hx hb dX8_isClause_228 rfl (lv_at hl 1 rfl) ?_
            refine g_getr X h (k := 19) (t := 128) (cc_116) fr_RX8_45 rfl (by decide) (by decide) (by decide) dX8_isClause_229 ?_
            refine lv_iload_n hx hb dX8_isClause_232 rfl (lv_at hl 2 rfl) ?_
            refine lv_aload_n hx hb dX8_isClause_233 rfl (lv_at hl 1 rfl) ?_
            refine g_geti X h (k := 22) (cc_116) fr_RX8_170 rfl (by decide) dX8_isClause_234 ?_
            refine g_tr (y := (v203 116 22)) (by simp [ev227, ev217, up2, upc]) ?_
            refine g_iast X h (k := j) (cc_128) hj (by omega) (by decide) dX8_isClause_237 (fun v237 H locs ev237 h => ?_)
            refine lv_aload_n hx hb dX8_isClause_238 rfl (lv_at hl 1 rfl) ?_
            refine lv_iconst (v := 0) hx hb dX8_isClause_239 (by decide) ?_
            refine g_puti X h (k := 24) (cc_116) fp_RX8_186 rfl (by decide) dX8_isClause_240 (fun v240 H locs ev240 h => ?_)
            have e240 : v240 = clU v203 j (nI 0) (nI (nmV t q1 (nmC t z q1))) (nI c) := by rw [ev240, ev237, ev227, ev217, hx2, hx25, hP3.2.2.2.1]; rfl
            have hP4 : PS v240 t z (q1 + nmC t z q1) c 0 := by rw [e240]; exact PS_clU hP3
            have hF4 : CF c j v v240 := by rw [e240]; exact CF_clU (PF_CF hF3)
            refine lv_iload_n hx hb dX8_isClause_243 rfl (lv_at hl 3 rfl) ?_
            refine lv_iconst (v := 2) hx hb dX8_isClause_244 (by decide) ?_
            refine lv_icmp_ge (tgt := 266) hx hb dX8_isClause_245 (by decide) (fun c_245 => ?_) (fun c_245 => ?_)
            · exact absurd (hx2 ▸ c_245) (by decide)
            · skip
              refine lv_aload_n hx hb dX8_isClause_248 rfl (lv_at hl 1 rfl) ?_
              refine lv_bipush (v := 32) hx hb dX8_isClause_249 (by decide) ?_
              refine g_ki h (g_runV X h (As := [.int 32]) (rest := []) (c_X8_is gl Z v240 w 32 (q1 + nmC t z q1) z hP4.2.2.1 hP4.2.1 hP4.2.2.2.2.2.2.1 hP4.2.2.2.2.2.1) mi_X8_is ml_RX8_167 (cc_116) (by decide) kl8 rfl ⟨Nat.le_of_ble_eq_true rfl, Nat.le_of_ble_eq_true rfl⟩ rfl hl.1 rfl (Nat.le_of_ble_eq_true rfl) dX8_isClause_251) (fun r251 v251 w251 H locs hp251 h => ?_)
              obtain ⟨hr251, hu251⟩ := hp251
              obtain ⟨hv251, rfl⟩ := Prod.mk.inj hu251
              rw [hP4.1] at hr251 hv251
              refine lv_if_eq (tgt := 264) hx hb dX8_isClause_254 (by decide) (fun c_254 => ?_) (fun c_254 => ?_)
              · skip
                rw [hr251, bI_0] at c_254
                rw [c_254, if_neg (by decide)] at hv251
                refine lv_iconst (v := 0) hx hb dX8_isClause_264 (by decide) ?_
                exact g_nret X h dX8_isClause_265 rfl (cl_out (by rw [clR, hW, if_neg (by decide), if_neg (by rw [hok]; decide)]; dsimp only; rw [hq9, if_neg hn1, if_neg (by decide), if_neg (by rw [c_254]; decide)]) rfl (cl_no (by rw [← hv251]; exact hF4) (by show v251 116 23 = _; rw [← hv251]; exact hP4.2.2.1)))
              · skip
                rw [hr251, bI_n] at c_254
                rw [if_pos c_254] at hv251
                have hP5 : PS v251 t z (q1 + nmC t z q1 + 1) c 0 := by rw [← hv251]; exact PS_at hP4 (by omega) (isAt_lt c_254)
                have hF5 : PF c v240 v251 := by rw [← hv251]; exact PF_up (PF_refl _ _) (by decide)
                refine lv_aload_n hx hb dX8_isClause_257 rfl (lv_at hl 1 rfl) ?_
                refine g_ki h (g_runV X h (As := []) (rest := []) (c_X8_isE_4 gl Z v251 w t z (q1 + nmC t z q1 + 1) c hP5) mi_X8_isE ml_RX8_195 (cc_116) (by decide) kl8 rfl ⟨Nat.le_of_ble_eq_true rfl, Nat.le_of_ble_eq_true rfl⟩ rfl hl.1 rfl (Nat.le_of_ble_eq_true rfl) dX8_isClause_258) (fun r258 v258 w258 H locs hp258 h => ?_)
                obtain ⟨hr258, hu258, hq258⟩ := hp258
                obtain ⟨-, rfl⟩ := Prod.mk.inj hu258
                replace hq258 : PR t z _ _ _ v258 _ := hq258
                refine lv_if_ne (tgt := 266) hx hb dX8_isClause_261 (by decide) (fun c_261 => ?_) (fun c_261 => ?_)
                · skip
                  rw [hr258, bI_n] at c_261
                  obtain ⟨hP6, hT6⟩ := hq258.2.2 c_261
                  have hF6 : PF c v240 v258 := PF_trans hF5 hq258.1 (Nat.le_refl _)
                  refine lv_aload_n hx hb dX8_isClause_266 rfl (lv_at hl 1 rfl) ?_
                  refine g_getr X h (k := 20) (t := 129) (cc_116) fr_RX8_48 rfl (by decide) (by decide) (by decide) dX8_isClause_267 ?_
                  refine lv_iload_n hx hb dX8_isClause_270 rfl (lv_at hl 2 rfl) ?_
                  refine lv_aload_n hx hb dX8_isClause_271 rfl (lv_at hl 1 rfl) ?_
                  refine g_geti X h (k := 22) (cc_116) fr_RX8_170 rfl (by decide) dX8_isClause_272 ?_
                  refine lv_aload_n hx hb dX8_isClause_275 rfl (lv_at hl 1 rfl) ?_
                  refine g_getr X h (k := 19) (t := 128) (cc_116) fr_RX8_45 rfl (by decide) (by decide) (by decide) dX8_isClause_276 ?_
                  refine lv_iload_n hx hb dX8_isClause_279 rfl (lv_at hl 2 rfl) ?_
                  refine g_iald X h (k := j) (cc_128) hj (by omega) (by decide) dX8_isClause_280 ?_
                  refine lv_isub hx hb dX8_isClause_281 ?_
                  refine g_iast X h (k := j) (cc_129) hj (by omega) (by decide) dX8_isClause_282 (fun v282 H locs ev282 h => ?_)
                  refine lv_iconst (v := 1) hx hb dX8_isClause_283 (by decide) ?_
                  exact g_nret X h dX8_isClause_284 rfl (cl_out (R := (true, (rdE t z 4 (q1 + nmC t z q1 + 1)).2.1, (0, nmV t q1 (nmC t z q1), (rdE t z 4 (q1 + nmC t z q1 + 1)).2.2))) (by rw [clR, hW, if_neg (by decide), if_neg (by rw [hok]; decide)]; dsimp only; rw [hq9, if_neg hn1, if_neg (by decide), if_pos c_254, if_pos c_261]) rfl (by rw [ev282]; exact cl_yes (by rw [← e240]; exact hF4) (by rw [← e240]; exact hF6) hP6 hT6 (by rw [hP6.2.2.2.1, hF6.1 128 (by decide) (by decide), e240, clU_128, pk_sub (by omega), Nat.add_sub_cancel_left])))
                · skip
                  rw [hr258, bI_0] at c_261
                  have hF6 : PF c v240 v258 := PF_trans hF5 hq258.1 (Nat.le_refl _)
                  refine lv_iconst (v := 0) hx hb dX8_isClause_264 (by decide) ?_
                  exact g_nret X h dX8_isClause_265 rfl (cl_out (by rw [clR, hW, if_neg (by decide), if_neg (by rw [hok]; decide)]; dsimp only; rw [hq9, if_neg hn1, if_neg (by decide), if_pos c_254, if_neg (by rw [c_261]; decide)]) rfl (cl_no (CF_trans hF4 (PF_CF hF6)) hq258.2.1))
          · skip
            rw [hr203, bI_0] at c_206
            have hn0 : nmC t z q1 = 0 := by have := of_decide_eq_false c_206; omega
            refine lv_iconst (v := 0) hx hb dX8_isClause_209 (by decide) ?_
            exact g_nret X h dX8_isClause_210 rfl (cl_out (by rw [clR, hW, if_neg (by decide), if_neg (by rw [hok]; decide)]; dsimp only; rw [hq9, if_pos hn0]) rfl (cl_no (PF_CF (by rw [← hv203]; exact PF_num hFq)) (by show v203 116 23 = _; rw [← hv203, numU_23, hn0, Nat.add_zero])))
    · skip
      replace hx2 : x2 = 1 := hx2
      refine lv_iload_n hx hb dX8_isClause_123 rfl (lv_at hl 2 rfl) ?_
      refine lv_if_ne (tgt := 136) hx hb dX8_isClause_124 (by decide) (fun c_124 => ?_) (fun c_124 => ?_)
      · skip
        refine lv_iload_n hx hb dX8_isClause_136 rfl (lv_at hl 2 rfl) ?_
        refine lv_iconst (v := 1) hx hb dX8_isClause_137 (by decide) ?_
        refine lv_icmp_ne (tgt := 150) hx hb dX8_isClause_138 (by decide) (fun c_138 => ?_) (fun c_138 => ?_)
        · exact absurd hx2 c_138
        · skip
          refine lv_aload_n hx hb dX8_isClause_141 rfl (lv_at hl 0 rfl) ?_
          refine g_ldcs X sE_8 dX8_isClause_142 ?_
          refine g_ki h (g_runV X h (As := [.ref (zK Z 8)]) (rest := []) (c_X8_isAll gl Z v w 8 (by first | decide | assumption) a z ha hz haz hz1) mi_X8_isAll ml_RX8_206 (cc_116) (by decide) kl8 rfl ⟨Nat.le_of_ble_eq_true rfl, Nat.le_of_ble_eq_true rfl⟩ rfl hl.1 rfl (Nat.le_of_ble_eq_true rfl) dX8_isClause_144) (fun r144 v144 w144 H locs hp144 h => ?_)
          obtain ⟨hr144, hu144⟩ := hp144
          obtain ⟨hv144, rfl⟩ := Prod.mk.inj hu144
          rw [hP.1] at hr144 hv144
          refine lv_goto (tgt := 197) hx hb dX8_isClause_147 (by decide) ?_
          refine lv_istore_n (lv' := [(3, .int r144), (0, .ref (zg Z 116)), (1, .int x0), (2, .int x2)]) hx hb dX8_isClause_197 rfl hl (by decide) rfl (fun ls hl => ?_)
          refine lv_iload_n hx hb dX8_isClause_198 rfl (lv_at hl 0 rfl) ?_
          refine lv_if_eq (tgt := 209) hx hb dX8_isClause_199 (by decide) (fun c_199 => ?_) (fun c_199 => ?_)
          · skip
            rw [hr144, bI_0] at c_199
            refine lv_iconst (v := 0) hx hb dX8_isClause_209 (by decide) ?_
            exact g_nret X h dX8_isClause_210 rfl (cl_out (by rw [clR, hW, if_neg (by decide), if_pos c_199]) rfl (cl_no (PF_CF (by rw [← hv144]; exact PF_up (PF_refl _ _) (by decide))) (by show v144 116 23 = _; rw [← hv144, up23])))
          · skip
            rw [hr144, bI_n] at c_199
            have hok : (allS t z 8 a).1 = true := c_199
            have hle := allF_le (t := t) (z := z) (strB.getD 8 []) a haz
            have hPq : PS v144 t z (allS t z 8 a).2 c o := by rw [← hv144]; exact PS_at hP hle.1 hle.2
            have hFq : PF c v v144 := by rw [← hv144]; exact PF_up (PF_refl _ _) (by decide)
            obtain ⟨q1, hq9⟩ : ∃ q1, (allS t z 8 a).2 = q1 := ⟨_, rfl⟩
            rw [hq9] at hPq
            refine lv_aload_n hx hb dX8_isClause_202 rfl (lv_at hl 1 rfl) ?_
            refine g_ki h (g_runV X h (As := []) (rest := []) (c_X8_isNumber gl Z v144 w q1 z hPq.2.2.1 hPq.2.1 hPq.2.2.2.2.2.2.1 hPq.2.2.2.2.2.1) mi_X8_isNumber ml_RX8_180 (cc_116) (by decide) kl8 rfl ⟨Nat.le_of_ble_eq_true rfl, Nat.le_of_ble_eq_true rfl⟩ rfl hl.1 rfl (Nat.le_of_ble_eq_true rfl) dX8_isClause_203) (fun r203 v203 w203 H locs hp203 h => ?_)
            obtain ⟨hr203, hu203⟩ := hp203
            obtain ⟨hv203, rfl⟩ := Prod.mk.inj hu203
            rw [hPq.1] at hr203 hv203
            refine lv_if_ne (tgt := 211) hx hb dX8_isClause_206 (by decide) (fun c_206 => ?_) (fun c_206 => ?_)
            · skip
              rw [hr203, bI_n] at c_206
              have hn1 : ¬ nmC t z q1 = 0 := by have := of_decide_eq_true c_206; omega
              have hn := nmC_le (t := t) (z := z) (a := q1) hPq.2.2.2.2.2.2.1
              have hP3 : PS v203 t z (q1 + nmC t z q1) c o := by rw [← hv203]; exact PS_num hPq hn
              have hF3 : PF c v v203 := by rw [← hv203]; exact PF_num hFq
              have hx25 : v203 116 25 = nI (nmV t q1 (nmC t z q1)) := by rw [← hv203]; exact numU_25
              refine lv_aload_n hx hb dX8_isClause_211 rfl (lv_at hl 1 rfl) ?_
              refine g_getr X h (k := 17) (t := 126) (cc_116) fr_RX8_39 rfl (by decide) (by decide) (by decide) dX8_isClause_212 ?_
              refine lv_iload_n hx hb dX8_isClause_215 rfl (lv_at hl 2 rfl) ?_
              refine lv_iload_n hx hb dX8_isClause_216 rfl (lv_at hl 3 rfl) ?_
              refine g_iast X h (k := j) (cc_126) hj (by omega) (by decide) dX8_isClause_217 (fun v217 H locs ev217 h => ?_)
              refine lv_aload_n hx hb dX8_isClause_218 rfl (lv_at hl 1 rfl) ?_
              refine g_getr X h (k := 18) (t := 127) (cc_116) fr_RX8_42 rfl (by decide) (by decide) (by decide) dX8_isClause_219 ?_
              refine lv_iload_n hx hb dX8_isClause_222 rfl (lv_at hl 2 rfl) ?_
              refine lv_aload_n hx hb dX8_isClause_223 rfl (lv_at hl 1 rfl) ?_
              refine g_geti X h (k := 25) (cc_116) fr_RX8_148 rfl (by decide) dX8_isClause_224 ?_
              refine g_tr (y := (v203 116 25)) (by simp [ev217, up2, upc]) ?_
              refine g_iast X h (k := j) (cc_127) hj (by omega) (by decide) dX8_isClause_227 (fun v227 H locs ev227 h => ?_)
              refine lv_aload_n hx hb dX8_isClause_228 rfl (lv_at hl 1 rfl) ?_
              refine g_getr X h (k := 19) (t := 128) (cc_116) fr_RX8_45 rfl (by decide) (by decide) (by decide) dX8_isClause_229 ?_
              refine lv_iload_n hx hb dX8_isClause_232 rfl (lv_at hl 2 rfl) ?_
              refine lv_aload_n hx hb dX8_isClause_233 rfl (lv_at hl 1 rfl) ?_
              refine g_geti X h (k := 22) (cc_116) fr_RX8_170 rfl (by decide) dX8_isClause_234 ?_
              refine g_tr (y := (v203 116 22)) (by simp [ev227, ev217, up2, upc]) ?_
              refine g_iast X h (k := j) (cc_128) hj (by omega) (by decide) dX8_isClause_237 (fun v237 H locs ev237 h => ?_)
              refine lv_aload_n hx hb dX8_isClause_238 rfl (lv_at hl 1 rfl) ?_
              refine lv_iconst (v := 0) hx hb dX8_isClause_239 (by decide) ?_
              refine g_puti X h (k := 24) (cc_116) fp_RX8_186 rfl (by decide) dX8_isClause_240 (fun v240 H locs ev240 h => ?_)
              have e240 : v240 = clU v203 j (nI 1) (nI (nmV t q1 (nmC t z q1))) (nI c) := by rw [ev240, ev237, ev227, ev217, hx2, hx25, hP3.2.2.2.1]; rfl
              have hP4 : PS v240 t z (q1 + nmC t z q1) c 0 := by rw [e240]; exact PS_clU hP3
              have hF4 : CF c j v v240 := by rw [e240]; exact CF_clU (PF_CF hF3)
              refine lv_iload_n hx hb dX8_isClause_243 rfl (lv_at hl 3 rfl) ?_
              refine lv_iconst (v := 2) hx hb dX8_isClause_244 (by decide) ?_
              refine lv_icmp_ge (tgt := 266) hx hb dX8_isClause_245 (by decide) (fun c_245 => ?_) (fun c_245 => ?_)
              · exact absurd (hx2 ▸ c_245) (by decide)
              · skip
                refine lv_aload_n hx hb dX8_isClause_248 rfl (lv_at hl 1 rfl) ?_
                refine lv_bipush (v := 32) hx hb dX8_isClause_249 (by decide) ?_
                refine g_ki h (g_runV X h (As := [.int 32]) (rest := []) (c_X8_is gl Z v240 w 32 (q1 + nmC t z q1) z hP4.2.2.1 hP4.2.1 hP4.2.2.2.2.2.2.1 hP4.2.2.2.2.2.1) mi_X8_is ml_RX8_167 (cc_116) (by decide) kl8 rfl ⟨Nat.le_of_ble_eq_true rfl, Nat.le_of_ble_eq_true rfl⟩ rfl hl.1 rfl (Nat.le_of_ble_eq_true rfl) dX8_isClause_251) (fun r251 v251 w251 H locs hp251 h => ?_)
                obtain ⟨hr251, hu251⟩ := hp251
                obtain ⟨hv251, rfl⟩ := Prod.mk.inj hu251
                rw [hP4.1] at hr251 hv251
                refine lv_if_eq (tgt := 264) hx hb dX8_isClause_254 (by decide) (fun c_254 => ?_) (fun c_254 => ?_)
                · skip
                  rw [hr251, bI_0] at c_254
                  rw [c_254, if_neg (by decide)] at hv251
                  refine lv_iconst (v := 0) hx hb dX8_isClause_264 (by decide) ?_
                  exact g_nret X h dX8_isClause_265 rfl (cl_out (by rw [clR, hW, if_neg (by decide), if_neg (by rw [hok]; decide)]; dsimp only; rw [hq9, if_neg hn1, if_neg (by decide), if_neg (by rw [c_254]; decide)]) rfl (cl_no (by rw [← hv251]; exact hF4) (by show v251 116 23 = _; rw [← hv251]; exact hP4.2.2.1)))
                · skip
                  rw [hr251, bI_n] at c_254
                  rw [if_pos c_254] at hv251
                  have hP5 : PS v251 t z (q1 + nmC t z q1 + 1) c 0 := by rw [← hv251]; exact PS_at hP4 (by omega) (isAt_lt c_254)
                  have hF5 : PF c v240 v251 := by rw [← hv251]; exact PF_up (PF_refl _ _) (by decide)
                  refine lv_aload_n hx hb dX8_isClause_257 rfl (lv_at hl 1 rfl) ?_
                  refine g_ki h (g_runV X h (As := []) (rest := []) (c_X8_isE_4 gl Z v251 w t z (q1 + nmC t z q1 + 1) c hP5) mi_X8_isE ml_RX8_195 (cc_116) (by decide) kl8 rfl ⟨Nat.le_of_ble_eq_true rfl, Nat.le_of_ble_eq_true rfl⟩ rfl hl.1 rfl (Nat.le_of_ble_eq_true rfl) dX8_isClause_258) (fun r258 v258 w258 H locs hp258 h => ?_)
                  obtain ⟨hr258, hu258, hq258⟩ := hp258
                  obtain ⟨-, rfl⟩ := Prod.mk.inj hu258
                  replace hq258 : PR t z _ _ _ v258 _ := hq258
                  refine lv_if_ne (tgt := 266) hx hb dX8_isClause_261 (by decide) (fun c_261 => ?_) (fun c_261 => ?_)
                  · skip
                    rw [hr258, bI_n] at c_261
                    obtain ⟨hP6, hT6⟩ := hq258.2.2 c_261
                    have hF6 : PF c v240 v258 := PF_trans hF5 hq258.1 (Nat.le_refl _)
                    refine lv_aload_n hx hb dX8_isClause_266 rfl (lv_at hl 1 rfl) ?_
                    refine g_getr X h (k := 20) (t := 129) (cc_116) fr_RX8_48 rfl (by decide) (by decide) (by decide) dX8_isClause_267 ?_
                    refine lv_iload_n hx hb dX8_isClause_270 rfl (lv_at hl 2 rfl) ?_
                    refine lv_aload_n hx hb dX8_isClause_271 rfl (lv_at hl 1 rfl) ?_
                    refine g_geti X h (k := 22) (cc_116) fr_RX8_170 rfl (by decide) dX8_isClause_272 ?_
                    refine lv_aload_n hx hb dX8_isClause_275 rfl (lv_at hl 1 rfl) ?_
                    refine g_getr X h (k := 19) (t := 128) (cc_116) fr_RX8_45 rfl (by decide) (by decide) (by decide) dX8_isClause_276 ?_
                    refine lv_iload_n hx hb dX8_isClause_279 rfl (lv_at hl 2 rfl) ?_
                    refine g_iald X h (k := j) (cc_128) hj (by omega) (by decide) dX8_isClause_280 ?_
                    refine lv_isub hx hb dX8_isClause_281 ?_
                    refine g_iast X h (k := j) (cc_129) hj (by omega) (by decide) dX8_isClause_282 (fun v282 H locs ev282 h => ?_)
                    refine lv_iconst (v := 1) hx hb dX8_isClause_283 (by decide) ?_
                    exact g_nret X h dX8_isClause_284 rfl (cl_out (R := (true, (rdE t z 4 (q1 + nmC t z q1 + 1)).2.1, (1, nmV t q1 (nmC t z q1), (rdE t z 4 (q1 + nmC t z q1 + 1)).2.2))) (by rw [clR, hW, if_neg (by decide), if_neg (by rw [hok]; decide)]; dsimp only; rw [hq9, if_neg hn1, if_neg (by decide), if_pos c_254, if_pos c_261]) rfl (by rw [ev282]; exact cl_yes (by rw [← e240]; exact hF4) (by rw [← e240]; exact hF6) hP6 hT6 (by rw [hP6.2.2.2.1, hF6.1 128 (by decide) (by decide), e240, clU_128, pk_sub (by omega), Nat.add_sub_cancel_left])))
                  · skip
                    rw [hr258, bI_0] at c_261
                    have hF6 : PF c v240 v258 := PF_trans hF5 hq258.1 (Nat.le_refl _)
                    refine lv_iconst (v := 0) hx hb dX8_isClause_264 (by decide) ?_
                    exact g_nret X h dX8_isClause_265 rfl (cl_out (by rw [clR, hW, if_neg (by decide), if_neg (by rw [hok]; decide)]; dsimp only; rw [hq9, if_neg hn1, if_neg (by decide), if_pos c_254, if_neg (by rw [c_261]; decide)]) rfl (cl_no (CF_trans hF4 (PF_CF hF6)) hq258.2.1))
            · skip
              rw [hr203, bI_0] at c_206
              have hn0 : nmC t z q1 = 0 := by have := of_decide_eq_false c_206; omega
              refine lv_iconst (v := 0) hx hb dX8_isClause_209 (by decide) ?_
              exact g_nret X h dX8_isClause_210 rfl (cl_out (by rw [clR, hW, if_neg (by decide), if_neg (by rw [hok]; decide)]; dsimp only; rw [hq9, if_pos hn0]) rfl (cl_no (PF_CF (by rw [← hv203]; exact PF_num hFq)) (by show v203 116 23 = _; rw [← hv203, numU_23, hn0, Nat.add_zero])))
      · exact absurd (hx2.symm.trans c_124) (by decide)
    · skip
      replace hx2 : x2 = 2 := hx2
      refine lv_iload_n hx hb dX8_isClause_123 rfl (lv_at hl 2 rfl) ?_
      refine lv_if_ne (tgt := 136) hx hb dX8_isClause_124 (by decide) (fun c_124 => ?_) (fun c_124 => ?_)
      · skip
        refine lv_iload_n hx hb dX8_isClause_136 rfl (lv_at hl 2 rfl) ?_
        refine lv_iconst (v := 1) hx hb dX8_isClause_137 (by decide) ?_
        refine lv_icmp_ne (tgt := 150) hx hb dX8_isClause_138 (by decide) (fun c_138 => ?_) (fun c_138 => ?_)
        · skip
          refine lv_iload_n hx hb dX8_isClause_150 rfl (lv_at hl 2 rfl) ?_
          refine lv_iconst (v := 2) hx hb dX8_isClause_151 (by decide) ?_
          refine lv_icmp_ne (tgt := 164) hx hb dX8_isClause_152 (by decide) (fun c_152 => ?_) (fun c_152 => ?_)
          · exact absurd hx2 c_152
          · skip
            refine lv_aload_n hx hb dX8_isClause_155 rfl (lv_at hl 0 rfl) ?_
            refine g_ldcs X sE_9 dX8_isClause_156 ?_
            refine g_ki h (g_runV X h (As := [.ref (zK Z 9)]) (rest := []) (c_X8_isAll gl Z v w 9 (by first | decide | assumption) a z ha hz haz hz1) mi_X8_isAll ml_RX8_206 (cc_116) (by decide) kl8 rfl ⟨Nat.le_of_ble_eq_true rfl, Nat.le_of_ble_eq_true rfl⟩ rfl hl.1 rfl (Nat.le_of_ble_eq_true rfl) dX8_isClause_158) (fun r158 v158 w158 H locs hp158 h => ?_)
            obtain ⟨hr158, hu158⟩ := hp158
            obtain ⟨hv158, rfl⟩ := Prod.mk.inj hu158
            rw [hP.1] at hr158 hv158
            refine lv_goto (tgt := 197) hx hb dX8_isClause_161 (by decide) ?_
            refine lv_istore_n (lv' := [(3, .int r158), (0, .ref (zg Z 116)), (1, .int x0), (2, .int x2)]) hx hb dX8_isClause_197 rfl hl (by decide) rfl (fun ls hl => ?_)
            refine lv_iload_n hx hb dX8_isClause_198 rfl (lv_at hl 0 rfl) ?_
            refine lv_if_eq (tgt := 209) hx hb dX8_isClause_199 (by decide) (fun c_199 => ?_) (fun c_199 => ?_)
            · skip
              rw [hr158, bI_0] at c_199
              refine lv_iconst (v := 0) hx hb dX8_isClause_209 (by decide) ?_
              exact g_nret X h dX8_isClause_210 rfl (cl_out (by rw [clR, hW, if_neg (by decide), if_pos c_199]) rfl (cl_no (PF_CF (by rw [← hv158]; exact PF_up (PF_refl _ _) (by decide))) (by show v158 116 23 = _; rw [← hv158, up23])))
            · skip
              rw [hr158, bI_n] at c_199
              have hok : (allS t z 9 a).1 = true := c_199
              have hle := allF_le (t := t) (z := z) (strB.getD 9 []) a haz
              have hPq : PS v158 t z (allS t z 9 a).2 c o := by rw [← hv158]; exact PS_at hP hle.1 hle.2
              have hFq : PF c v v158 := by rw [← hv158]; exact PF_up (PF_refl _ _) (by decide)
              obtain ⟨q1, hq9⟩ : ∃ q1, (allS t z 9 a).2 = q1 := ⟨_, rfl⟩
              rw [hq9] at hPq
              refine lv_aload_n hx hb dX8_isClause_202 rfl (lv_at hl 1 rfl) ?_
              refine g_ki h (g_runV X h (As := []) (rest := []) (c_X8_isNumber gl Z v158 w q1 z hPq.2.2.1 hPq.2.1 hPq.2.2.2.2.2.2.1 hPq.2.2.2.2.2.1) mi_X8_isNumber ml_RX8_180 (cc_116) (by decide) kl8 rfl ⟨Nat.le_of_ble_eq_true rfl, Nat.le_of_ble_eq_true rfl⟩ rfl hl.1 rfl (Nat.le_of_ble_eq_true rfl) dX8_isClause_203) (fun r203 v203 w203 H locs hp203 h => ?_)
              obtain ⟨hr203, hu203⟩ := hp203
              obtain ⟨hv203, rfl⟩ := Prod.mk.inj hu203
              rw [hPq.1] at hr203 hv203
              refine lv_if_ne (tgt := 211) hx hb dX8_isClause_206 (by decide) (fun c_206 => ?_) (fun c_206 => ?_)
              · skip
                rw [hr203, bI_n] at c_206
                have hn1 : ¬ nmC t z q1 = 0 := by have := of_decide_eq_true c_206; omega
                have hn := nmC_le (t := t) (z := z) (a := q1) hPq.2.2.2.2.2.2.1
                have hP3 : PS v203 t z (q1 + nmC t z q1) c o := by rw [← hv203]; exact PS_num hPq hn
                have hF3 : PF c v v203 := by rw [← hv203]; exact PF_num hFq
                have hx25 : v203 116 25 = nI (nmV t q1 (nmC t z q1)) := by rw [← hv203]; exact numU_25
                refine lv_aload_n hx hb dX8_isClause_211 rfl (lv_at hl 1 rfl) ?_
                refine g_getr X h (k := 17) (t := 126) (cc_116) fr_RX8_39 rfl (by decide) (by decide) (by decide) dX8_isClause_212 ?_
                refine lv_iload_n hx hb dX8_isClause_215 rfl (lv_at hl 2 rfl) ?_
                refine lv_iload_n hx hb dX8_isClause_216 rfl (lv_at hl 3 rfl) ?_
                refine g_iast X h (k := j) (cc_126) hj (by omega) (by decide) dX8_isClause_217 (fun v217 H locs ev217 h => ?_)
                refine lv_aload_n hx hb dX8_isClause_218 rfl (lv_at hl 1 rfl) ?_
                refine g_getr X h (k := 18) (t := 127) (cc_116) fr_RX8_42 rfl (by decide) (by decide) (by decide) dX8_isClause_219 ?_
                refine lv_iload_n hx hb dX8_isClause_222 rfl (lv_at hl 2 rfl) ?_
                refine lv_aload_n hx hb dX8_isClause_223 rfl (lv_at hl 1 rfl) ?_
                refine g_geti X h (k := 25) (cc_116) fr_RX8_148 rfl (by decide) dX8_isClause_224 ?_
                refine g_tr (y := (v203 116 25)) (by simp [ev217, up2, upc]) ?_
                refine g_iast X h (k := j) (cc_127) hj (by omega) (by decide) dX8_isClause_227 (fun v227 H locs ev227 h => ?_)
                refine lv_aload_n hx hb dX8_isClause_228 rfl (lv_at hl 1 rfl) ?_
                refine g_getr X h (k := 19) (t := 128) (cc_116) fr_RX8_45 rfl (by decide) (by decide) (by decide) dX8_isClause_229 ?_
                refine lv_iload_n hx hb dX8_isClause_232 rfl (lv_at hl 2 rfl) ?_
                refine lv_aload_n hx hb dX8_isClause_233 rfl (lv_at hl 1 rfl) ?_
                refine g_geti X h (k := 22) (cc_116) fr_RX8_170 rfl (by decide) dX8_isClause_234 ?_
                refine g_tr (y := (v203 116 22)) (by simp [ev227, ev217, up2, upc]) ?_
                refine g_iast X h (k := j) (cc_128) hj (by omega) (by decide) dX8_isClause_237 (fun v237 H locs ev237 h => ?_)
                refine lv_aload_n hx hb dX8_isClause_238 rfl (lv_at hl 1 rfl) ?_
                refine lv_iconst (v := 0) hx hb dX8_isClause_239 (by decide) ?_
                refine g_puti X h (k := 24) (cc_116) fp_RX8_186 rfl (by decide) dX8_isClause_240 (fun v240 H locs ev240 h => ?_)
                have e240 : v240 = clU v203 j (nI 2) (nI (nmV t q1 (nmC t z q1))) (nI c) := by rw [ev240, ev237, ev227, ev217, hx2, hx25, hP3.2.2.2.1]; rfl
                have hP4 : PS v240 t z (q1 + nmC t z q1) c 0 := by rw [e240]; exact PS_clU hP3
                have hF4 : CF c j v v240 := by rw [e240]; exact CF_clU (PF_CF hF3)
                refine lv_iload_n hx hb dX8_isClause_243 rfl (lv_at hl 3 rfl) ?_
                refine lv_iconst (v := 2) hx hb dX8_isClause_244 (by decide) ?_
                refine lv_icmp_ge (tgt := 266) hx hb dX8_isClause_245 (by decide) (fun c_245 => ?_) (fun c_245 => ?_)
                · skip
                  refine lv_aload_n hx hb dX8_isClause_266 rfl (lv_at hl 1 rfl) ?_
                  refine g_getr X h (k := 20) (t := 129) (cc_116) fr_RX8_48 rfl (by decide) (by decide) (by decide) dX8_isClause_267 ?_
                  refine lv_iload_n hx hb dX8_isClause_270 rfl (lv_at hl 2 rfl) ?_
                  refine lv_aload_n hx hb dX8_isClause_271 rfl (lv_at hl 1 rfl) ?_
                  refine g_geti X h (k := 22) (cc_116) fr_RX8_170 rfl (by decide) dX8_isClause_272 ?_
                  refine g_tr (y := (v203 116 22)) (by simp [ev240, ev237, ev227, ev217, up2, upc]) ?_
                  refine lv_aload_n hx hb dX8_isClause_275 rfl (lv_at hl 1 rfl) ?_
                  refine g_getr X h (k := 19) (t := 128) (cc_116) fr_RX8_45 rfl (by decide) (by decide) (by decide) dX8_isClause_276 ?_
                  refine lv_iload_n hx hb dX8_isClause_279 rfl (lv_at hl 2 rfl) ?_
                  refine g_iald X h (k := j) (cc_128) hj (by omega) (by decide) dX8_isClause_280 ?_
                  refine g_tr (y := (v203 116 22)) (by simp [ev240, ev237, up2, upc]) ?_
                  refine lv_isub hx hb dX8_isClause_281 ?_
                  refine g_iast X h (k := j) (cc_129) hj (by omega) (by decide) dX8_isClause_282 (fun v282 H locs ev282 h => ?_)
                  refine lv_iconst (v := 1) hx hb dX8_isClause_283 (by decide) ?_
                  exact g_nret X h dX8_isClause_284 rfl (cl_out (R := (true, q1 + nmC t z q1, (2, nmV t q1 (nmC t z q1), []))) (by rw [clR, hW, if_neg (by decide), if_neg (by rw [hok]; decide)]; dsimp only; rw [hq9, if_neg hn1, if_pos (by decide)]) rfl (by rw [ev282, e240]; exact cl_yes (by rw [← e240]; exact hF4) (PF_refl _ _) (by rw [← e240]; exact hP4) (TK_nil _ _) (by rw [hP3.2.2.2.1, pk_sub (Nat.le_refl _), Nat.sub_self]; rfl)))
                · exact absurd (by rw [hx2]; decide) c_245
              · skip
                rw [hr203, bI_0] at c_206
                have hn0 : nmC t z q1 = 0 := by have := of_decide_eq_false c_206; omega
                refine lv_iconst (v := 0) hx hb dX8_isClause_209 (by decide) ?_
                exact g_nret X h dX8_isClause_210 rfl (cl_out (by rw [clR, hW, if_neg (by decide), if_neg (by rw [hok]; decide)]; dsimp only; rw [hq9, if_pos hn0]) rfl (cl_no (PF_CF (by rw [← hv203]; exact PF_num hFq)) (by show v203 116 23 = _; rw [← hv203, numU_23, hn0, Nat.add_zero])))
        · exact absurd (hx2.symm.trans c_138) (by decide)
      · exact absurd (hx2.symm.trans c_124) (by decide)
    · skip
      replace hx2 : x2 = 3 := hx2
      refine lv_iload_n hx hb dX8_isClause_123 rfl (lv_at hl 2 rfl) ?_
      refine lv_if_ne (tgt := 136) hx hb dX8_isClause_124 (by decide) (fun c_124 => ?_) (fun c_124 => ?_)
      · skip
        refine lv_iload_n hx hb dX8_isClause_136 rfl (lv_at hl 2 rfl) ?_
        refine lv_iconst (v := 1) hx hb dX8_isClause_137 (by decide) ?_
        refine lv_icmp_ne (tgt := 150) hx hb dX8_isClause_138 (by decide) (fun c_138 => ?_) (fun c_138 => ?_)
        · skip
          refine lv_iload_n hx hb dX8_isClause_150 rfl (lv_at hl 2 rfl) ?_
          refine lv_iconst (v := 2) hx hb dX8_isClause_151 (by decide) ?_
          refine lv_icmp_ne (tgt := 164) hx hb dX8_isClause_152 (by decide) (fun c_152 => ?_) (fun c_152 => ?_)
          · skip
            refine lv_iload_n hx hb dX8_isClause_164 rfl (lv_at hl 2 rfl) ?_
            refine lv_iconst (v := 3) hx hb dX8_isClause_165 (by decide) ?_
            refine lv_icmp_ne (tgt := 178) hx hb dX8_isClause_166 (by decide) (fun c_166 => ?_) (fun c_166 => ?_)
            · exact absurd hx2 c_166
            · skip
              refine lv_aload_n hx hb dX8_isClause_169 rfl (lv_at hl 0 rfl) ?_
              refine g_ldcs X sE_10 dX8_isClause_170 ?_
              refine g_ki h (g_runV X h (As := [.ref (zK Z 10)]) (rest := []) (c_X8_isAll gl Z v w 10 (by first | decide | assumption) a z ha hz haz hz1) mi_X8_isAll ml_RX8_206 (cc_116) (by decide) kl8 rfl ⟨Nat.le_of_ble_eq_true rfl, Nat.le_of_ble_eq_true rfl⟩ rfl hl.1 rfl (Nat.le_of_ble_eq_true rfl) dX8_isClause_172) (fun r172 v172 w172 H locs hp172 h => ?_)
              obtain ⟨hr172, hu172⟩ := hp172
              obtain ⟨hv172, rfl⟩ := Prod.mk.inj hu172
              rw [hP.1] at hr172 hv172
              refine lv_goto (tgt := 197) hx hb dX8_isClause_175 (by decide) ?_
              refine lv_istore_n (lv' := [(3, .int r172), (0, .ref (zg Z 116)), (1, .int x0), (2, .int x2)]) hx hb dX8_isClause_197 rfl hl (by decide) rfl (fun ls hl => ?_)
              refine lv_iload_n hx hb dX8_isClause_198 rfl (lv_at hl 0 rfl) ?_
              refine lv_if_eq (tgt := 209) hx hb dX8_isClause_199 (by decide) (fun c_199 => ?_) (fun c_199 => ?_)
              · skip
                rw [hr172, bI_0] at c_199
                refine lv_iconst (v := 0) hx hb dX8_isClause_209 (by decide) ?_
                exact g_nret X h dX8_isClause_210 rfl (cl_out (by rw [clR, hW, if_neg (by decide), if_pos c_199]) rfl (cl_no (PF_CF (by rw [← hv172]; exact PF_up (PF_refl _ _) (by decide))) (by show v172 116 23 = _; rw [← hv172, up23])))
              · skip
                rw [hr172, bI_n] at c_199
                have hok : (allS t z 10 a).1 = true := c_199
                have hle := allF_le (t := t) (z := z) (strB.getD 10 []) a haz
                have hPq : PS v172 t z (allS t z 10 a).2 c o := by rw [← hv172]; exact PS_at hP hle.1 hle.2
                have hFq : PF c v v172 := by rw [← hv172]; exact PF_up (PF_refl _ _) (by decide)
                obtain ⟨q1, hq9⟩ : ∃ q1, (allS t z 10 a).2 = q1 := ⟨_, rfl⟩
                rw [hq9] at hPq
                refine lv_aload_n hx hb dX8_isClause_202 rfl (lv_at hl 1 rfl) ?_
                refine g_ki h (g_runV X h (As := []) (rest := []) (c_X8_isNumber gl Z v172 w q1 z hPq.2.2.1 hPq.2.1 hPq.2.2.2.2.2.2.1 hPq.2.2.2.2.2.1) mi_X8_isNumber ml_RX8_180 (cc_116) (by decide) kl8 rfl ⟨Nat.le_of_ble_eq_true rfl, Nat.le_of_ble_eq_true rfl⟩ rfl hl.1 rfl (Nat.le_of_ble_eq_true rfl) dX8_isClause_203) (fun r203 v203 w203 H locs hp203 h => ?_)
                obtain ⟨hr203, hu203⟩ := hp203
                obtain ⟨hv203, rfl⟩ := Prod.mk.inj hu203
                rw [hPq.1] at hr203 hv203
                refine lv_if_ne (tgt := 211) hx hb dX8_isClause_206 (by decide) (fun c_206 => ?_) (fun c_206 => ?_)
                · skip
                  rw [hr203, bI_n] at c_206
                  have hn1 : ¬ nmC t z q1 = 0 := by have := of_decide_eq_true c_206; omega
                  have hn := nmC_le (t := t) (z := z) (a := q1) hPq.2.2.2.2.2.2.1
                  have hP3 : PS v203 t z (q1 + nmC t z q1) c o := by rw [← hv203]; exact PS_num hPq hn
                  have hF3 : PF c v v203 := by rw [← hv203]; exact PF_num hFq
                  have hx25 : v203 116 25 = nI (nmV t q1 (nmC t z q1)) := by rw [← hv203]; exact numU_25
                  refine lv_aload_n hx hb dX8_isClause_211 rfl (lv_at hl 1 rfl) ?_
                  refine g_getr X h (k := 17) (t := 126) (cc_116) fr_RX8_39 rfl (by decide) (by decide) (by decide) dX8_isClause_212 ?_
                  refine lv_iload_n hx hb dX8_isClause_215 rfl (lv_at hl 2 rfl) ?_
                  refine lv_iload_n hx hb dX8_isClause_216 rfl (lv_at hl 3 rfl) ?_
                  refine g_iast X h (k := j) (cc_126) hj (by omega) (by decide) dX8_isClause_217 (fun v217 H locs ev217 h => ?_)
                  refine lv_aload_n hx hb dX8_isClause_218 rfl (lv_at hl 1 rfl) ?_
                  refine g_getr X h (k := 18) (t := 127) (cc_116) fr_RX8_42 rfl (by decide) (by decide) (by decide) dX8_isClause_219 ?_
                  refine lv_iload_n hx hb dX8_isClause_222 rfl (lv_at hl 2 rfl) ?_
                  refine lv_aload_n hx hb dX8_isClause_223 rfl (lv_at hl 1 rfl) ?_
                  refine g_geti X h (k := 25) (cc_116) fr_RX8_148 rfl (by decide) dX8_isClause_224 ?_
                  refine g_tr (y := (v203 116 25)) (by simp [ev217, up2, upc]) ?_
                  refine g_iast X h (k := j) (cc_127) hj (by omega) (by decide) dX8_isClause_227 (fun v227 H locs ev227 h => ?_)
                  refine lv_aload_n hx hb dX8_isClause_228 rfl (lv_at hl 1 rfl) ?_
                  refine g_getr X h (k := 19) (t := 128) (cc_116) fr_RX8_45 rfl (by decide) (by decide) (by decide) dX8_isClause_229 ?_
                  refine lv_iload_n hx hb dX8_isClause_232 rfl (lv_at hl 2 rfl) ?_
                  refine lv_aload_n hx hb dX8_isClause_233 rfl (lv_at hl 1 rfl) ?_
                  refine g_geti X h (k := 22) (cc_116) fr_RX8_170 rfl (by decide) dX8_isClause_234 ?_
                  refine g_tr (y := (v203 116 22)) (by simp [ev227, ev217, up2, upc]) ?_
                  refine g_iast X h (k := j) (cc_128) hj (by omega) (by decide) dX8_isClause_237 (fun v237 H locs ev237 h => ?_)
                  refine lv_aload_n hx hb dX8_isClause_238 rfl (lv_at hl 1 rfl) ?_
                  refine lv_iconst (v := 0) hx hb dX8_isClause_239 (by decide) ?_
                  refine g_puti X h (k := 24) (cc_116) fp_RX8_186 rfl (by decide) dX8_isClause_240 (fun v240 H locs ev240 h => ?_)
                  have e240 : v240 = clU v203 j (nI 3) (nI (nmV t q1 (nmC t z q1))) (nI c) := by rw [ev240, ev237, ev227, ev217, hx2, hx25, hP3.2.2.2.1]; rfl
                  have hP4 : PS v240 t z (q1 + nmC t z q1) c 0 := by rw [e240]; exact PS_clU hP3
                  have hF4 : CF c j v v240 := by rw [e240]; exact CF_clU (PF_CF hF3)
                  refine lv_iload_n hx hb dX8_isClause_243 rfl (lv_at hl 3 rfl) ?_
                  refine lv_iconst (v := 2) hx hb dX8_isClause_244 (by decide) ?_
                  refine lv_icmp_ge (tgt := 266) hx hb dX8_isClause_245 (by decide) (fun c_245 => ?_) (fun c_245 => ?_)
                  · skip
                    refine lv_aload_n hx hb dX8_isClause_266 rfl (lv_at hl 1 rfl) ?_
                    refine g_getr X h (k := 20) (t := 129) (cc_116) fr_RX8_48 rfl (by decide) (by decide) (by decide) dX8_isClause_267 ?_
                    refine lv_iload_n hx hb dX8_isClause_270 rfl (lv_at hl 2 rfl) ?_
                    refine lv_aload_n hx hb dX8_isClause_271 rfl (lv_at hl 1 rfl) ?_
                    refine g_geti X h (k := 22) (cc_116) fr_RX8_170 rfl (by decide) dX8_isClause_272 ?_
                    refine g_tr (y := (v203 116 22)) (by simp [ev240, ev237, ev227, ev217, up2, upc]) ?_
                    refine lv_aload_n hx hb dX8_isClause_275 rfl (lv_at hl 1 rfl) ?_
                    refine g_getr X h (k := 19) (t := 128) (cc_116) fr_RX8_45 rfl (by decide) (by decide) (by decide) dX8_isClause_276 ?_
                    refine lv_iload_n hx hb dX8_isClause_279 rfl (lv_at hl 2 rfl) ?_
                    refine g_iald X h (k := j) (cc_128) hj (by omega) (by decide) dX8_isClause_280 ?_
                    refine g_tr (y := (v203 116 22)) (by simp [ev240, ev237, up2, upc]) ?_
                    refine lv_isub hx hb dX8_isClause_281 ?_
                    refine g_iast X h (k := j) (cc_129) hj (by omega) (by decide) dX8_isClause_282 (fun v282 H locs ev282 h => ?_)
                    refine lv_iconst (v := 1) hx hb dX8_isClause_283 (by decide) ?_
                    exact g_nret X h dX8_isClause_284 rfl (cl_out (R := (true, q1 + nmC t z q1, (3, nmV t q1 (nmC t z q1), []))) (by rw [clR, hW, if_neg (by decide), if_neg (by rw [hok]; decide)]; dsimp only; rw [hq9, if_neg hn1, if_pos (by decide)]) rfl (by rw [ev282, e240]; exact cl_yes (by rw [← e240]; exact hF4) (PF_refl _ _) (by rw [← e240]; exact hP4) (TK_nil _ _) (by rw [hP3.2.2.2.1, pk_sub (Nat.le_refl _), Nat.sub_self]; rfl)))
                  · exact absurd (by rw [hx2]; decide) c_245
                · skip
                  rw [hr203, bI_0] at c_206
                  have hn0 : nmC t z q1 = 0 := by have := of_decide_eq_false c_206; omega
                  refine lv_iconst (v := 0) hx hb dX8_isClause_209 (by decide) ?_
                  exact g_nret X h dX8_isClause_210 rfl (cl_out (by rw [clR, hW, if_neg (by decide), if_neg (by rw [hok]; decide)]; dsimp only; rw [hq9, if_pos hn0]) rfl (cl_no (PF_CF (by rw [← hv203]; exact PF_num hFq)) (by show v203 116 23 = _; rw [← hv203, numU_23, hn0, Nat.add_zero])))
          · exact absurd (hx2.symm.trans c_152) (by decide)
        · exact absurd (hx2.symm.trans c_138) (by decide)
      · exact absurd (hx2.symm.trans c_124) (by decide)
    · skip
      replace hx2 : x2 = 4 := hx2
      refine lv_iload_n hx hb dX8_isClause_123 rfl (lv_at hl 2 rfl) ?_
      refine lv_if_ne (tgt := 136) hx hb dX8_isClause_124 (by decide) (fun c_124 => ?_) (fun c_124 => ?_)
      · skip
        refine lv_iload_n hx hb dX8_isClause_136 rfl (lv_at hl 2 rfl) ?_
        refine lv_iconst (v := 1) hx hb dX8_isClause_137 (by decide) ?_
        refine lv_icmp_ne (tgt := 150) hx hb dX8_isClause_138 (by decide) (fun c_138 => ?_) (fun c_138 => ?_)
        · skip
          refine lv_iload_n hx hb dX8_isClause_150 rfl (lv_at hl 2 rfl) ?_
          refine lv_iconst (v := 2) hx hb dX8_isClause_151 (by decide) ?_
          refine lv_icmp_ne (tgt := 164) hx hb dX8_isClause_152 (by decide) (fun c_152 => ?_) (fun c_152 => ?_)
          · skip
            refine lv_iload_n hx hb dX8_isClause_164 rfl (lv_at hl 2 rfl) ?_
            refine lv_iconst (v := 3) hx hb dX8_isClause_165 (by decide) ?_
            refine lv_icmp_ne (tgt := 178) hx hb dX8_isClause_166 (by decide) (fun c_166 => ?_) (fun c_166 => ?_)
            · skip
              refine lv_iload_n hx hb dX8_isClause_178 rfl (lv_at hl 2 rfl) ?_
              refine lv_iconst (v := 4) hx hb dX8_isClause_179 (by decide) ?_
              refine lv_icmp_ne (tgt := 196) hx hb dX8_isClause_180 (by decide) (fun c_180 => ?_) (fun c_180 => ?_)
              · exact absurd hx2 c_180
              · skip
                refine lv_aload_n hx hb dX8_isClause_183 rfl (lv_at hl 0 rfl) ?_
                refine g_ldcs X sE_11 dX8_isClause_184 ?_
                refine g_ki h (g_runV X h (As := [.ref (zK Z 11)]) (rest := []) (c_X8_isAll gl Z v w 11 (by first | decide | assumption) a z ha hz haz hz1) mi_X8_isAll ml_RX8_206 (cc_116) (by decide) kl8 rfl ⟨Nat.le_of_ble_eq_true rfl, Nat.le_of_ble_eq_true rfl⟩ rfl hl.1 rfl (Nat.le_of_ble_eq_true rfl) dX8_isClause_186) (fun r186 v186 w186 H locs hp186 h => ?_)
                obtain ⟨hr186, hu186⟩ := hp186
                obtain ⟨hv186, rfl⟩ := Prod.mk.inj hu186
                rw [hP.1] at hr186 hv186
                refine lv_if_eq (tgt := 196) hx hb dX8_isClause_189 (by decide) (fun c_189 => ?_) (fun c_189 => ?_)
                · skip
                  rw [hr186, bI_0] at c_189
                  refine lv_iconst (v := 0) hx hb dX8_isClause_196 (by decide) ?_
                  refine lv_istore_n (lv' := [(3, .int 0), (0, .ref (zg Z 116)), (1, .int x0), (2, .int x2)]) hx hb dX8_isClause_197 rfl hl (by decide) rfl (fun ls hl => ?_)
                  refine lv_iload_n hx hb dX8_isClause_198 rfl (lv_at hl 0 rfl) ?_
                  refine lv_if_eq (tgt := 209) hx hb dX8_isClause_199 (by decide) (fun c_199 => ?_) (fun c_199 => ?_)
                  · skip
                    refine lv_iconst (v := 0) hx hb dX8_isClause_209 (by decide) ?_
                    exact g_nret X h dX8_isClause_210 rfl (cl_out (by rw [clR, hW, if_neg (by decide), if_pos c_189]) rfl (cl_no (PF_CF (by rw [← hv186]; exact PF_up (PF_refl _ _) (by decide))) (by show v186 116 23 = _; rw [← hv186, up23])))
                  · exact absurd rfl c_199
                · skip
                  rw [hr186, bI_n] at c_189
                  refine lv_iconst (v := 1) hx hb dX8_isClause_192 (by decide) ?_
                  refine lv_goto (tgt := 197) hx hb dX8_isClause_193 (by decide) ?_
                  refine lv_istore_n (lv' := [(3, .int 1), (0, .ref (zg Z 116)), (1, .int x0), (2, .int x2)]) hx hb dX8_isClause_197 rfl hl (by decide) rfl (fun ls hl => ?_)
                  refine lv_iload_n hx hb dX8_isClause_198 rfl (lv_at hl 0 rfl) ?_
                  refine lv_if_eq (tgt := 209) hx hb dX8_isClause_199 (by decide) (fun c_199 => ?_) (fun c_199 => ?_)
                  · exact absurd c_199 (by decide)
                  · skip
                    have hok : (allS t z 11 a).1 = true := c_189
                    have hle := allF_le (t := t) (z := z) (strB.getD 11 []) a haz
                    have hPq : PS v186 t z (allS t z 11 a).2 c o := by rw [← hv186]; exact PS_at hP hle.1 hle.2
                    have hFq : PF c v v186 := by rw [← hv186]; exact PF_up (PF_refl _ _) (by decide)
                    obtain ⟨q1, hq9⟩ : ∃ q1, (allS t z 11 a).2 = q1 := ⟨_, rfl⟩
                    rw [hq9] at hPq
                    refine lv_aload_n hx hb dX8_isClause_202 rfl (lv_at hl 1 rfl) ?_
                    refine g_ki h (g_runV X h (As := []) (rest := []) (c_X8_isNumber gl Z v186 w q1 z hPq.2.2.1 hPq.2.1 hPq.2.2.2.2.2.2.1 hPq.2.2.2.2.2.1) mi_X8_isNumber ml_RX8_180 (cc_116) (by decide) kl8 rfl ⟨Nat.le_of_ble_eq_true rfl, Nat.le_of_ble_eq_true rfl⟩ rfl hl.1 rfl (Nat.le_of_ble_eq_true rfl) dX8_isClause_203) (fun r203 v203 w203 H locs hp203 h => ?_)
                    obtain ⟨hr203, hu203⟩ := hp203
                    obtain ⟨hv203, rfl⟩ := Prod.mk.inj hu203
                    rw [hPq.1] at hr203 hv203
                    refine lv_if_ne (tgt := 211) hx hb dX8_isClause_206 (by decide) (fun c_206 => ?_) (fun c_206 => ?_)
                    · skip
                      rw [hr203, bI_n] at c_206
                      have hn1 : ¬ nmC t z q1 = 0 := by have := of_decide_eq_true c_206; omega
                      have hn := nmC_le (t := t) (z := z) (a := q1) hPq.2.2.2.2.2.2.1
                      have hP3 : PS v203 t z (q1 + nmC t z q1) c o := by rw [← hv203]; exact PS_num hPq hn
                      have hF3 : PF c v v203 := by rw [← hv203]; exact PF_num hFq
                      have hx25 : v203 116 25 = nI (nmV t q1 (nmC t z q1)) := by rw [← hv203]; exact numU_25
                      refine lv_aload_n hx hb dX8_isClause_211 rfl (lv_at hl 1 rfl) ?_
                      refine g_getr X h (k := 17) (t := 126) (cc_116) fr_RX8_39 rfl (by decide) (by decide) (by decide) dX8_isClause_212 ?_
                      refine lv_iload_n hx hb dX8_isClause_215 rfl (lv_at hl 2 rfl) ?_
                      refine lv_iload_n hx hb dX8_isClause_216 rfl (lv_at hl 3 rfl) ?_
                      refine g_iast X h (k := j) (cc_126) hj (by omega) (by decide) dX8_isClause_217 (fun v217 H locs ev217 h => ?_)
                      refine lv_aload_n hx hb dX8_isClause_218 rfl (lv_at hl 1 rfl) ?_
                      refine g_getr X h (k := 18) (t := 127) (cc_116) fr_RX8_42 rfl (by decide) (by decide) (by decide) dX8_isClause_219 ?_
                      refine lv_iload_n hx hb dX8_isClause_222 rfl (lv_at hl 2 rfl) ?_
                      refine lv_aload_n hx hb dX8_isClause_223 rfl (lv_at hl 1 rfl) ?_
                      refine g_geti X h (k := 25) (cc_116) fr_RX8_148 rfl (by decide) dX8_isClause_224 ?_
                      refine g_tr (y := (v203 116 25)) (by simp [ev217, up2, upc]) ?_
                      refine g_iast X h (k := j) (cc_127) hj (by omega) (by decide) dX8_isClause_227 (fun v227 H locs ev227 h => ?_)
                      refine lv_aload_n hx hb dX8_isClause_228 rfl (lv_at hl 1 rfl) ?_
                      refine g_getr X h (k := 19) (t := 128) (cc_116) fr_RX8_45 rfl (by decide) (by decide) (by decide) dX8_isClause_229 ?_
                      refine lv_iload_n hx hb dX8_isClause_232 rfl (lv_at hl 2 rfl) ?_
                      refine lv_aload_n hx hb dX8_isClause_233 rfl (lv_at hl 1 rfl) ?_
                      refine g_geti X h (k := 22) (cc_116) fr_RX8_170 rfl (by decide) dX8_isClause_234 ?_
                      refine g_tr (y := (v203 116 22)) (by simp [ev227, ev217, up2, upc]) ?_
                      refine g_iast X h (k := j) (cc_128) hj (by omega) (by decide) dX8_isClause_237 (fun v237 H locs ev237 h => ?_)
                      refine lv_aload_n hx hb dX8_isClause_238 rfl (lv_at hl 1 rfl) ?_
                      refine lv_iconst (v := 0) hx hb dX8_isClause_239 (by decide) ?_
                      refine g_puti X h (k := 24) (cc_116) fp_RX8_186 rfl (by decide) dX8_isClause_240 (fun v240 H locs ev240 h => ?_)
                      have e240 : v240 = clU v203 j (nI 4) (nI (nmV t q1 (nmC t z q1))) (nI c) := by rw [ev240, ev237, ev227, ev217, hx2, hx25, hP3.2.2.2.1]; rfl
                      have hP4 : PS v240 t z (q1 + nmC t z q1) c 0 := by rw [e240]; exact PS_clU hP3
                      have hF4 : CF c j v v240 := by rw [e240]; exact CF_clU (PF_CF hF3)
                      refine lv_iload_n hx hb dX8_isClause_243 rfl (lv_at hl 3 rfl) ?_
                      refine lv_iconst (v := 2) hx hb dX8_isClause_244 (by decide) ?_
                      refine lv_icmp_ge (tgt := 266) hx hb dX8_isClause_245 (by decide) (fun c_245 => ?_) (fun c_245 => ?_)
                      · skip
                        refine lv_aload_n hx hb dX8_isClause_266 rfl (lv_at hl 1 rfl) ?_
                        refine g_getr X h (k := 20) (t := 129) (cc_116) fr_RX8_48 rfl (by decide) (by decide) (by decide) dX8_isClause_267 ?_
                        refine lv_iload_n hx hb dX8_isClause_270 rfl (lv_at hl 2 rfl) ?_
                        refine lv_aload_n hx hb dX8_isClause_271 rfl (lv_at hl 1 rfl) ?_
                        refine g_geti X h (k := 22) (cc_116) fr_RX8_170 rfl (by decide) dX8_isClause_272 ?_
                        refine g_tr (y := (v203 116 22)) (by simp [ev240, ev237, ev227, ev217, up2, upc]) ?_
                        refine lv_aload_n hx hb dX8_isClause_275 rfl (lv_at hl 1 rfl) ?_
                        refine g_getr X h (k := 19) (t := 128) (cc_116) fr_RX8_45 rfl (by decide) (by decide) (by decide) dX8_isClause_276 ?_
                        refine lv_iload_n hx hb dX8_isClause_279 rfl (lv_at hl 2 rfl) ?_
                        refine g_iald X h (k := j) (cc_128) hj (by omega) (by decide) dX8_isClause_280 ?_
                        refine g_tr (y := (v203 116 22)) (by simp [ev240, ev237, up2, upc]) ?_
                        refine lv_isub hx hb dX8_isClause_281 ?_
                        refine g_iast X h (k := j) (cc_129) hj (by omega) (by decide) dX8_isClause_282 (fun v282 H locs ev282 h => ?_)
                        refine lv_iconst (v := 1) hx hb dX8_isClause_283 (by decide) ?_
                        exact g_nret X h dX8_isClause_284 rfl (cl_out (R := (true, q1 + nmC t z q1, (4, nmV t q1 (nmC t z q1), []))) (by rw [clR, hW, if_neg (by decide), if_neg (by rw [hok]; decide)]; dsimp only; rw [hq9, if_neg hn1, if_pos (by decide)]) rfl (by rw [ev282, e240]; exact cl_yes (by rw [← e240]; exact hF4) (PF_refl _ _) (by rw [← e240]; exact hP4) (TK_nil _ _) (by rw [hP3.2.2.2.1, pk_sub (Nat.le_refl _), Nat.sub_self]; rfl)))
                      · exact absurd (by rw [hx2]; decide) c_245
                    · skip
                      rw [hr203, bI_0] at c_206
                      have hn0 : nmC t z q1 = 0 := by have := of_decide_eq_false c_206; omega
                      refine lv_iconst (v := 0) hx hb dX8_isClause_209 (by decide) ?_
                      exact g_nret X h dX8_isClause_210 rfl (cl_out (by rw [clR, hW, if_neg (by decide), if_neg (by rw [hok]; decide)]; dsimp only; rw [hq9, if_pos hn0]) rfl (cl_no (PF_CF (by rw [← hv203]; exact PF_num hFq)) (by show v203 116 23 = _; rw [← hv203, numU_23, hn0, Nat.add_zero])))
            · exact absurd (hx2.symm.trans c_166) (by decide)
          · exact absurd (hx2.symm.trans c_152) (by decide)
        · exact absurd (hx2.symm.trans c_138) (by decide)
      · exact absurd (hx2.symm.trans c_124) (by decide)
    · skip
      replace hx2 : x2 = -1 := hx2
      refine lv_iload_n hx hb dX8_isClause_123 rfl (lv_at hl 2 rfl) ?_
      refine lv_if_ne (tgt := 136) hx hb dX8_isClause_124 (by decide) (fun c_124 => ?_) (fun c_124 => ?_)
      · skip
        refine lv_iload_n hx hb dX8_isClause_136 rfl (lv_at hl 2 rfl) ?_
        refine lv_iconst (v := 1) hx hb dX8_isClause_137 (by decide) ?_
        refine lv_icmp_ne (tgt := 150) hx hb dX8_isClause_138 (by decide) (fun c_138 => ?_) (fun c_138 => ?_)
        · skip
          refine lv_iload_n hx hb dX8_isClause_150 rfl (lv_at hl 2 rfl) ?_
          refine lv_iconst (v := 2) hx hb dX8_isClause_151 (by decide) ?_
          refine lv_icmp_ne (tgt := 164) hx hb dX8_isClause_152 (by decide) (fun c_152 => ?_) (fun c_152 => ?_)
          · skip
            refine lv_iload_n hx hb dX8_isClause_164 rfl (lv_at hl 2 rfl) ?_
            refine lv_iconst (v := 3) hx hb dX8_isClause_165 (by decide) ?_
            refine lv_icmp_ne (tgt := 178) hx hb dX8_isClause_166 (by decide) (fun c_166 => ?_) (fun c_166 => ?_)
            · skip
              refine lv_iload_n hx hb dX8_isClause_178 rfl (lv_at hl 2 rfl) ?_
              refine lv_iconst (v := 4) hx hb dX8_isClause_179 (by decide) ?_
              refine lv_icmp_ne (tgt := 196) hx hb dX8_isClause_180 (by decide) (fun c_180 => ?_) (fun c_180 => ?_)
              · skip
                refine lv_iconst (v := 0) hx hb dX8_isClause_196 (by decide) ?_
                refine lv_istore_n (lv' := [(3, .int 0), (0, .ref (zg Z 116)), (1, .int x0), (2, .int x2)]) hx hb dX8_isClause_197 rfl hl (by decide) rfl (fun ls hl => ?_)
                refine lv_iload_n hx hb dX8_isClause_198 rfl (lv_at hl 0 rfl) ?_
                refine lv_if_eq (tgt := 209) hx hb dX8_isClause_199 (by decide) (fun c_199 => ?_) (fun c_199 => ?_)
                · skip
                  refine lv_iconst (v := 0) hx hb dX8_isClause_209 (by decide) ?_
                  exact g_nret X h dX8_isClause_210 rfl (cl_out (by rw [clR, if_pos hW]) rfl (cl_no (PF_CF (PF_refl _ _)) ha))
                · exact absurd rfl c_199
              · exact absurd (hx2.symm.trans c_180) (by decide)
            · exact absurd (hx2.symm.trans c_166) (by decide)
          · exact absurd (hx2.symm.trans c_152) (by decide)
        · exact absurd (hx2.symm.trans c_138) (by decide)
      · exact absurd (hx2.symm.trans c_124) (by decide)
  refine lv_icmp_ge (tgt := 87) hx hb dX8_isClause_10 (by decide) (fun c_10 => ?_) (fun c_10 => ?_)
  · skip
    have hq := nI_le1 (a := z) (b := a) hz ha (by omega) (by omega) c_10
    refine lv_iload_n hx hb dX8_isClause_87 rfl (lv_at hl 0 rfl) ?_
    refine lv_iconst (v := 1) hx hb dX8_isClause_88 (by decide) ?_
    refine lv_icmp_ne (tgt := 123) hx hb dX8_isClause_89 (by decide) (fun c_89 => ?_) (fun c_89 => ?_)
    · skip
      exact L123 5 (-1) (by rw [← ht, clW, if_neg (by omega)]) (by decide) (by decide) _ _ h ls (lv_sub hl [1, 2, 0] rfl)
    · exact absurd c_89 (by decide)
  · skip
    have hq := nI_le0 (a := z) (b := a) hz ha (by omega) (by omega) c_10
    refine lv_aload_n hx hb dX8_isClause_13 rfl (lv_at hl 1 rfl) ?_
    refine g_getr X h (k := 13) (t := 124) (cc_116) fr_RX8_33 rfl (by decide) (by decide) (by decide) dX8_isClause_14 ?_
    refine lv_aload_n hx hb dX8_isClause_17 rfl (lv_at hl 1 rfl) ?_
    refine g_geti X h (k := 23) (cc_116) fr_RX8_145 rfl (by decide) dX8_isClause_18 ?_
    refine g_iald X h (k := a) (cc_124) ha (by omega) (by decide) dX8_isClause_21 ?_
    refine lv_bipush (v := 111) hx hb dX8_isClause_22 (by decide) ?_
    refine lv_icmp_ne (tgt := 31) hx hb dX8_isClause_24 (by decide) (fun c_24 => ?_) (fun c_24 => ?_)
    · skip
      refine lv_aload_n hx hb dX8_isClause_31 rfl (lv_at hl 1 rfl) ?_
      refine g_getr X h (k := 13) (t := 124) (cc_116) fr_RX8_33 rfl (by decide) (by decide) (by decide) dX8_isClause_32 ?_
      refine lv_aload_n hx hb dX8_isClause_35 rfl (lv_at hl 1 rfl) ?_
      refine g_geti X h (k := 23) (cc_116) fr_RX8_145 rfl (by decide) dX8_isClause_36 ?_
      refine g_iald X h (k := a) (cc_124) ha (by omega) (by decide) dX8_isClause_39 ?_
      refine lv_bipush (v := 99) hx hb dX8_isClause_40 (by decide) ?_
      refine lv_icmp_ne (tgt := 49) hx hb dX8_isClause_42 (by decide) (fun c_42 => ?_) (fun c_42 => ?_)
      · skip
        refine lv_aload_n hx hb dX8_isClause_49 rfl (lv_at hl 1 rfl) ?_
        refine g_getr X h (k := 13) (t := 124) (cc_116) fr_RX8_33 rfl (by decide) (by decide) (by decide) dX8_isClause_50 ?_
        refine lv_aload_n hx hb dX8_isClause_53 rfl (lv_at hl 1 rfl) ?_
        refine g_geti X h (k := 23) (cc_116) fr_RX8_145 rfl (by decide) dX8_isClause_54 ?_
        refine g_iald X h (k := a) (cc_124) ha (by omega) (by decide) dX8_isClause_57 ?_
        refine lv_bipush (v := 112) hx hb dX8_isClause_58 (by decide) ?_
        refine lv_icmp_ne (tgt := 67) hx hb dX8_isClause_60 (by decide) (fun c_60 => ?_) (fun c_60 => ?_)
        · skip
          refine lv_aload_n hx hb dX8_isClause_67 rfl (lv_at hl 1 rfl) ?_
          refine g_getr X h (k := 13) (t := 124) (cc_116) fr_RX8_33 rfl (by decide) (by decide) (by decide) dX8_isClause_68 ?_
          refine lv_aload_n hx hb dX8_isClause_71 rfl (lv_at hl 1 rfl) ?_
          refine g_geti X h (k := 23) (cc_116) fr_RX8_145 rfl (by decide) dX8_isClause_72 ?_
          refine g_iald X h (k := a) (cc_124) ha (by omega) (by decide) dX8_isClause_75 ?_
          refine lv_bipush (v := 115) hx hb dX8_isClause_76 (by decide) ?_
          refine lv_icmp_ne (tgt := 85) hx hb dX8_isClause_78 (by decide) (fun c_78 => ?_) (fun c_78 => ?_)
          · skip
            refine lv_iconst (v := (-1)) hx hb dX8_isClause_85 (by decide) ?_
            refine lv_istore_n (lv' := [(2, .int (-1)), (0, .ref (zg Z 116)), (1, .int x0)]) hx hb dX8_isClause_86 rfl hl (by decide) rfl (fun ls hl => ?_)
            refine lv_iload_n hx hb dX8_isClause_87 rfl (lv_at hl 0 rfl) ?_
            refine lv_iconst (v := 1) hx hb dX8_isClause_88 (by decide) ?_
            refine lv_icmp_ne (tgt := 123) hx hb dX8_isClause_89 (by decide) (fun c_89 => ?_) (fun c_89 => ?_)
            · skip
              exact L123 5 (-1) (by rw [← ht, clW, if_pos (by omega), if_neg c_24, if_neg c_42, if_neg c_60, if_neg c_78]) (by decide) (by decide) _ _ h ls (lv_sub hl [1, 2, 0] rfl)
            · exact absurd c_89 (by decide)
          · skip
            refine lv_iconst (v := 1) hx hb dX8_isClause_81 (by decide) ?_
            refine lv_goto (tgt := 86) hx hb dX8_isClause_82 (by decide) ?_
            refine lv_istore_n (lv' := [(2, .int 1), (0, .ref (zg Z 116)), (1, .int x0)]) hx hb dX8_isClause_86 rfl hl (by decide) rfl (fun ls hl => ?_)
            refine lv_iload_n hx hb dX8_isClause_87 rfl (lv_at hl 0 rfl) ?_
            refine lv_iconst (v := 1) hx hb dX8_isClause_88 (by decide) ?_
            refine lv_icmp_ne (tgt := 123) hx hb dX8_isClause_89 (by decide) (fun c_89 => ?_) (fun c_89 => ?_)
            · exact absurd rfl c_89
            · skip
              refine lv_aload_n hx hb dX8_isClause_92 rfl (lv_at hl 1 rfl) ?_
              refine g_geti X h (k := 23) (cc_116) fr_RX8_145 rfl (by decide) dX8_isClause_93 ?_
              refine lv_iconst (v := 1) hx hb dX8_isClause_96 (by decide) ?_
              refine lv_iadd hx hb dX8_isClause_97 ?_
              refine lv_aload_n hx hb dX8_isClause_98 rfl (lv_at hl 1 rfl) ?_
              refine g_geti X h (k := 12) (cc_116) fr_RX8_142 rfl (by decide) dX8_isClause_99 ?_
              refine lv_icmp_ge (tgt := 123) hx hb dX8_isClause_102 (by decide) (fun c_102 => ?_) (fun c_102 => ?_)
              · skip
                have hq2 := nI_le1 (a := z) (b := (a + 1)) hz (show (v 116 23) + 1 = nI (a + 1) by rw [ha]; exact nI_1 _) (by omega) (by omega) c_102
                exact L123 1 1 (by rw [← ht, clW, if_pos (by omega), if_neg c_24, if_neg c_42, if_neg c_60, if_pos c_78, if_neg (by omega)]) (by decide) (by decide) _ _ h ls (lv_sub hl [1, 2, 0] rfl)
              · skip
                have hq2 := nI_le0 (a := z) (b := (a + 1)) hz (show (v 116 23) + 1 = nI (a + 1) by rw [ha]; exact nI_1 _) (by omega) (by omega) c_102
                refine lv_aload_n hx hb dX8_isClause_105 rfl (lv_at hl 1 rfl) ?_
                refine g_getr X h (k := 13) (t := 124) (cc_116) fr_RX8_33 rfl (by decide) (by decide) (by decide) dX8_isClause_106 ?_
                refine lv_aload_n hx hb dX8_isClause_109 rfl (lv_at hl 1 rfl) ?_
                refine g_geti X h (k := 23) (cc_116) fr_RX8_145 rfl (by decide) dX8_isClause_110 ?_
                refine lv_iconst (v := 1) hx hb dX8_isClause_113 (by decide) ?_
                refine lv_iadd hx hb dX8_isClause_114 ?_
                refine g_iald X h (k := (a + 1)) (cc_124) (by rw [show ((v 116 23)) = nI a from ha, show (1) = nI 1 from rfl, nI_add]) (by omega) (by decide) dX8_isClause_115 ?_
                refine lv_bipush (v := 116) hx hb dX8_isClause_116 (by decide) ?_
                refine lv_icmp_ne (tgt := 123) hx hb dX8_isClause_118 (by decide) (fun c_118 => ?_) (fun c_118 => ?_)
                · skip
                  exact L123 1 1 (by rw [← ht, clW, if_pos (by omega), if_neg c_24, if_neg c_42, if_neg c_60, if_pos c_78, if_neg (fun q => c_118 q.2)]) (by decide) (by decide) _ _ h ls (lv_sub hl [1, 2, 0] rfl)
                · skip
                  refine lv_iconst (v := 4) hx hb dX8_isClause_121 (by decide) ?_
                  refine lv_istore_n (lv' := [(2, .int 4), (0, .ref (zg Z 116)), (1, .int x0)]) hx hb dX8_isClause_122 rfl hl (by decide) rfl (fun ls hl => ?_)
                  exact L123 4 4 (by rw [← ht, clW, if_pos (by omega), if_neg c_24, if_neg c_42, if_neg c_60, if_pos c_78, if_pos ⟨by omega, c_118⟩]) (by decide) (by decide) _ _ h ls (lv_sub hl [1, 2, 0] rfl)
        · skip
          refine lv_iconst (v := 3) hx hb dX8_isClause_63 (by decide) ?_
          refine lv_goto (tgt := 86) hx hb dX8_isClause_64 (by decide) ?_
          refine lv_istore_n (lv' := [(2, .int 3), (0, .ref (zg Z 116)), (1, .int x0)]) hx hb dX8_isClause_86 rfl hl (by decide) rfl (fun ls hl => ?_)
          refine lv_iload_n hx hb dX8_isClause_87 rfl (lv_at hl 0 rfl) ?_
          refine lv_iconst (v := 1) hx hb dX8_isClause_88 (by decide) ?_
          refine lv_icmp_ne (tgt := 123) hx hb dX8_isClause_89 (by decide) (fun c_89 => ?_) (fun c_89 => ?_)
          · skip
            exact L123 3 3 (by rw [← ht, clW, if_pos (by omega), if_neg c_24, if_neg c_42, if_pos c_60]) (by decide) (by decide) _ _ h ls (lv_sub hl [1, 2, 0] rfl)
          · exact absurd c_89 (by decide)
      · skip
        refine lv_iconst (v := 2) hx hb dX8_isClause_45 (by decide) ?_
        refine lv_goto (tgt := 86) hx hb dX8_isClause_46 (by decide) ?_
        refine lv_istore_n (lv' := [(2, .int 2), (0, .ref (zg Z 116)), (1, .int x0)]) hx hb dX8_isClause_86 rfl hl (by decide) rfl (fun ls hl => ?_)
        refine lv_iload_n hx hb dX8_isClause_87 rfl (lv_at hl 0 rfl) ?_
        refine lv_iconst (v := 1) hx hb dX8_isClause_88 (by decide) ?_
        refine lv_icmp_ne (tgt := 123) hx hb dX8_isClause_89 (by decide) (fun c_89 => ?_) (fun c_89 => ?_)
        · skip
          exact L123 2 2 (by rw [← ht, clW, if_pos (by omega), if_neg c_24, if_pos c_42]) (by decide) (by decide) _ _ h ls (lv_sub hl [1, 2, 0] rfl)
        · exact absurd c_89 (by decide)
    · skip
      refine lv_iconst (v := 0) hx hb dX8_isClause_27 (by decide) ?_
      refine lv_goto (tgt := 86) hx hb dX8_isClause_28 (by decide) ?_
      refine lv_istore_n (lv' := [(2, .int 0), (0, .ref (zg Z 116)), (1, .int x0)]) hx hb dX8_isClause_86 rfl hl (by decide) rfl (fun ls hl => ?_)
      refine lv_iload_n hx hb dX8_isClause_87 rfl (lv_at hl 0 rfl) ?_
      refine lv_iconst (v := 1) hx hb dX8_isClause_88 (by decide) ?_
      refine lv_icmp_ne (tgt := 123) hx hb dX8_isClause_89 (by decide) (fun c_89 => ?_) (fun c_89 => ?_)
      · skip
        exact L123 0 0 (by rw [← ht, clW, if_pos (by omega), if_pos c_24]) (by decide) (by decide) _ _ h ls (lv_sub hl [1, 2, 0] rfl)
      · exact absurd c_89 (by decide)
