/-! the reader's words, put together -/
section
variable {t : Nat → Int32} {z a d : Nat}
theorem rdF_n (h : isAt t z a 33 = true) (h2 : (rdF t z d (a + 1)).1 = false) : rdF t z (d + 1) a = (false, (rdF t z d (a + 1)).2.1, []) := by
  rw [rdF, if_pos h, if_neg (by rw [h2]; decide)]
theorem rdF_y (h : isAt t z a 33 = true) (h2 : (rdF t z d (a + 1)).1 = true) : rdF t z (d + 1) a = (true, (rdF t z d (a + 1)).2.1, (rdF t z d (a + 1)).2.2 ++ [2]) := by
  rw [rdF, if_pos h, if_pos h2]
theorem rdF_p (h : isAt t z a 33 = false) (h2 : isAt t z a 40 = true) : rdF t z (d + 1) a = if (rdE t z d (a + 1)).1 then (if isAt t z (rdE t z d (a + 1)).2.1 41 then (true, (rdE t z d (a + 1)).2.1 + 1, (rdE t z d (a + 1)).2.2) else (false, (rdE t z d (a + 1)).2.1, [])) else (false, (rdE t z d (a + 1)).2.1, []) := by
  rw [rdF, if_neg (by rw [h]; decide), if_pos h2]
  rfl
theorem rdF_pn (h : isAt t z a 33 = false) (h2 : isAt t z a 40 = true) (h3 : (rdE t z d (a + 1)).1 = false) : rdF t z (d + 1) a = (false, (rdE t z d (a + 1)).2.1, []) := by
  rw [rdF_p h h2, if_neg (by rw [h3]; decide)]
theorem rdF_pm (h : isAt t z a 33 = false) (h2 : isAt t z a 40 = true) (h3 : (rdE t z d (a + 1)).1 = true) (h4 : isAt t z (rdE t z d (a + 1)).2.1 41 = false) : rdF t z (d + 1) a = (false, (rdE t z d (a + 1)).2.1, []) := by
  rw [rdF_p h h2, if_pos h3, if_neg (by rw [h4]; decide)]
theorem rdF_py (h : isAt t z a 33 = false) (h2 : isAt t z a 40 = true) (h3 : (rdE t z d (a + 1)).1 = true) (h4 : isAt t z (rdE t z d (a + 1)).2.1 41 = true) : rdF t z (d + 1) a = (true, (rdE t z d (a + 1)).2.1 + 1, (rdE t z d (a + 1)).2.2) := by
  rw [rdF_p h h2, if_pos h3, if_pos h4]
theorem rdF_t (h : isAt t z a 33 = false) (h2 : isAt t z a 40 = false) : rdF t z (d + 1) a = tstR t z a := by
  rw [rdF, if_neg (by rw [h]; decide), if_neg (by rw [h2]; decide)]
end
section
variable {q : Nat → RD} {t : Nat → Int32} {z a s f : Nat} {x : Int32} {l : List Nat}
theorem rdT_n (h : (q a).1 = false) : rdT q t z x s a = (false, (q a).2.1, []) := by rw [rdT, if_neg (by rw [h]; decide)]
theorem rdT_y (h : (q a).1 = true) : rdT q t z x s a = rdL q t z x s (z - (q a).2.1) (q a).2.1 (q a).2.2 := by rw [rdT, if_pos h]
theorem rdL_s (h : isAt t z a x = false) : rdL q t z x s f a l = (true, a, l) := by
  cases f with
  | zero => rfl
  | succ f => rw [rdL, if_neg (by rw [h]; decide)]
theorem rdL_n (h : isAt t z a x = true) (hf : z - a ≤ f) (h2 : (q (a + 1)).1 = false) : rdL q t z x s f a l = (false, (q (a + 1)).2.1, []) := by
  have := isAt_lt h
  cases f with
  | zero => omega
  | succ f => rw [rdL, if_pos h, if_neg (by rw [h2]; decide)]
theorem rdL_y (h : isAt t z a x = true) (hf : z - a ≤ f) (h2 : (q (a + 1)).1 = true) : rdL q t z x s f a l = rdL q t z x s (f - 1) (q (a + 1)).2.1 (l ++ (q (a + 1)).2.2 ++ [s]) := by
  have := isAt_lt h
  cases f with
  | zero => omega
  | succ f => rw [rdL, if_pos h, if_pos h2]; rfl
end
theorem PS_open {v : VV} {t : Nat → Int32} {z a c o : Nat} (h : PS v t z a c o) (hb : a < z) : PS (up2 (up2 v 116 23 (nI (a + 1))) 116 24 (nI (o + 1))) t z (a + 1) c (o + 1) := by
  obtain ⟨h1, h2, h3, h4, h5, h6, h7, h8⟩ := PS_at (b := a + 1) h (by omega) (by omega)
  exact ⟨by rw [up2_ne (by decide)]; exact h1, by rw [up2_at, if_neg (by decide)]; exact h2, by rw [up2_at, if_neg (by decide)]; exact h3, by rw [up2_at, if_neg (by decide)]; exact h4, by rw [up2_at, if_pos rfl], h6, h7, h8⟩
theorem PS_close {v : VV} {t : Nat → Int32} {z a c o : Nat} (h : PS v t z a c (o + 1)) : PS (up2 v 116 24 (v 116 24 - 1)) t z a c o := by
  obtain ⟨h1, h2, h3, h4, h5, h6, h7, h8⟩ := h
  exact ⟨by rw [up2_ne (by decide)]; exact h1, by rw [up2_at, if_neg (by decide)]; exact h2, by rw [up2_at, if_neg (by decide)]; exact h3, by rw [up2_at, if_neg (by decide)]; exact h4, by rw [up2_at, if_pos rfl, h5, show (1 : Int32) = nI 1 from rfl, pk_sub (by omega), show o + 1 - 1 = o by omega], h6, h7, h8⟩
theorem TK_up {u : VV} {c k : Nat} {l : List Nat} {x : Int32} (h : TK u c l) : TK (up2 u 116 k x) c l := fun j hj => by rw [up2_ne (by decide)]; exact h j hj
theorem up24_23 (v : VV) (x : Int32) : up2 v 116 24 x 116 23 = v 116 23 := by rw [up2_at, if_neg (by decide)]
theorem PS_len {v : VV} {t : Nat → Int32} {z a c o : Nat} {l : List Nat} {s : Nat} (h : PS v t z a (c + l.length + 1) o) : PS v t z a (c + (l ++ [s]).length) o := by rw [List.length_append, List.length_singleton, ← Nat.add_assoc]; exact h
/-- a round of the loop -/
theorem rd_step {t : Nat → Int32} {z a b c o s : Nat} {l : List Nat} {v va v1 v2 : VV} {R : RD} (hP : PS va t z b (c + l.length) o) (hT : TK va c l) (hF : PF c v va) (hb : b < z) (e1 : up2 va 116 23 (nI (b + 1)) = v1) (hR : PR t z (c + l.length) o v1 v2 R) (hg : R.1 = true) (hl : l.length + a ≤ b) (hca : c + (z - a) ≤ 1000) (g2 : R.2.1 ≤ z) (g4 : R.2.2.length + (b + 1) ≤ R.2.1) :
    PS (up2 (up2 v2 116 22 (nI (c + l.length + R.2.2.length + 1))) 130 (c + l.length + R.2.2.length) (nI s)) t z R.2.1 (c + (l ++ R.2.2 ++ [s]).length) o ∧ TK (up2 (up2 v2 116 22 (nI (c + l.length + R.2.2.length + 1))) 130 (c + l.length + R.2.2.length) (nI s)) c (l ++ R.2.2 ++ [s]) ∧ PF c v (up2 (up2 v2 116 22 (nI (c + l.length + R.2.2.length + 1))) 130 (c + l.length + R.2.2.length) (nI s)) := by
  subst e1
  obtain ⟨hF2, -, hy⟩ := hR
  obtain ⟨hP2, hT2⟩ := hy hg
  have hlen : (l ++ R.2.2).length = l.length + R.2.2.length := List.length_append
  have hT1 : TK (up2 va 116 23 (nI (b + 1))) c l := TK_up hT
  refine ⟨PS_len ?_, ?_, PF_code (PF_up (PF_trans (PF_up hF (by decide)) hF2 (by omega)) (by decide)) (by omega)⟩
  · rw [hlen, ← Nat.add_assoc]
    exact PS_code hP2 (by omega)
  · have := TK_snoc (s := s) (y := nI (c + l.length + R.2.2.length + 1)) (TK_app hT1 hF2 hT2)
    rw [hlen, ← Nat.add_assoc] at this
    exact this
set_option maxRecDepth 100000 in
set_option maxHeartbeats 1000000 in
theorem c_X8_isF_0 (gl : Launch) (Z : PL) (v : VV) (w : WV) (t : Nat → Int32) (z : Nat) (a : Nat) (c : Nat) (hP : PS v t z a c 4) : CT gl yX8_isF cX8_isF 2 (some .boolean) 5 113 Z [.ref (zg Z 116)] v w (Qi Z (fun r u => r = bI (rdF t z 0 a).1 ∧ (u.1, w) = u ∧ PR t z c 4 v u.1 (rdF t z 0 a))) := by
  refine g_met (by decide) (Nat.le_of_ble_eq_true rfl) ?_
  intro gp ge gs gm ga gb gh gc X h ls hl
  have hx := X.1
  have hb := X.2.1
  have hl : lv_has ls 2 [(0, .ref (zg Z 116))] := hl
  refine lv_aload_n hx hb dX8_isF_0 rfl (lv_at hl 0 rfl) ?_
  refine lv_bipush (v := 33) hx hb dX8_isF_1 (by decide) ?_
  refine g_ki h (g_runV X h (As := [.int 33]) (rest := []) (c_X8_opens gl Z v w 33 4 hP.2.2.2.2.1 (by decide) a z hP.2.2.1 hP.2.1 hP.2.2.2.2.2.2.1 hP.2.2.2.2.2.1) mi_X8_opens ml_RX8_189 (cc_116) (by decide) kl8 rfl ⟨Nat.le_of_ble_eq_true rfl, Nat.le_of_ble_eq_true rfl⟩ rfl hl.1 rfl (Nat.le_of_ble_eq_true rfl) dX8_isF_3) (fun r3 v3 w3 H locs hp3 h => ?_)
  obtain ⟨hr3, hu3⟩ := hp3
  obtain ⟨hv3, rfl⟩ := Prod.mk.inj hu3
  rw [hP.1] at hr3 hv3
  refine lv_if_eq (tgt := 33) hx hb dX8_isF_6 (by decide) (fun c_6 => ?_) (fun c_6 => ?_)
  · skip
    rw [hr3, bI_0] at c_6
    rw [if_neg (by rw [c_6]; decide)] at hv3
    have e3 : v3 = v := hv3.symm
    have hP3 : PS v3 t z a c 4 := by rw [e3]; exact hP
    refine lv_aload_n hx hb dX8_isF_33 rfl (lv_at hl 0 rfl) ?_
    refine lv_bipush (v := 40) hx hb dX8_isF_34 (by decide) ?_
    refine g_ki h (g_runV X h (As := [.int 40]) (rest := []) (c_X8_opens gl Z v3 w 40 4 hP3.2.2.2.2.1 (by decide) a z hP3.2.2.1 hP3.2.1 hP3.2.2.2.2.2.2.1 hP3.2.2.2.2.2.1) mi_X8_opens ml_RX8_189 (cc_116) (by decide) kl8 rfl ⟨Nat.le_of_ble_eq_true rfl, Nat.le_of_ble_eq_true rfl⟩ rfl hl.1 rfl (Nat.le_of_ble_eq_true rfl) dX8_isF_36) (fun r36 v36 w36 H locs hp36 h => ?_)
    obtain ⟨hr36, hu36⟩ := hp36
    obtain ⟨hv36, rfl⟩ := Prod.mk.inj hu36
    rw [hP3.1] at hr36 hv36
    refine lv_if_eq (tgt := 67) hx hb dX8_isF_39 (by decide) (fun c_39 => ?_) (fun c_39 => ?_)
    · skip
      rw [hr36, bI_0] at c_39
      rw [if_neg (by rw [c_39]; decide)] at hv36
      have e36 : v36 = v3 := hv36.symm
      have hP36 : PS v36 t z a c 4 := by rw [e36]; exact hP3
      refine lv_aload_n hx hb dX8_isF_67 rfl (lv_at hl 0 rfl) ?_
      refine g_ki h (g_runV X h (As := []) (rest := []) (c_X8_isTest gl Z v36 w t z a c 4 hP36) mi_X8_isTest ml_RX8_198 (cc_116) (by decide) kl8 rfl ⟨Nat.le_of_ble_eq_true rfl, Nat.le_of_ble_eq_true rfl⟩ rfl hl.1 rfl (Nat.le_of_ble_eq_true rfl) dX8_isF_68) (fun r68 v68 w68 H locs hp68 h => ?_)
      obtain ⟨hr68, hu68, hq68⟩ := hp68
      obtain ⟨-, rfl⟩ := Prod.mk.inj hu68
      replace hq68 : PR t z _ _ _ v68 _ := hq68
      exact g_nret X h dX8_isF_71 (by rw [hr68]; exact nar_bI _) (rd_out rfl hr68 (by rw [e36, e3] at hq68; exact hq68))
    · exact absurd (by rw [hr36, show decide (4 < 4) = false from rfl, Bool.false_and]; rfl) c_39
  · exact absurd (by rw [hr3, show decide (4 < 4) = false from rfl, Bool.false_and]; rfl) c_6

set_option maxRecDepth 100000 in
set_option maxHeartbeats 1000000 in
theorem c_X8_isT_0 (gl : Launch) (Z : PL) (v : VV) (w : WV) (t : Nat → Int32) (z : Nat) (a : Nat) (c : Nat) (hP : PS v t z a c 4) : CT gl yX8_isT cX8_isT 1 (some .boolean) 6 134 Z [.ref (zg Z 116)] v w (Qi Z (fun r u => r = bI (rdA t z 0 a).1 ∧ (u.1, w) = u ∧ PR t z c 4 v u.1 (rdA t z 0 a))) := by
  refine g_met (by decide) (Nat.le_of_ble_eq_true rfl) ?_
  intro gp ge gs gm ga gb gh gc X h ls hl
  have hx := X.1
  have hb := X.2.1
  have hl : lv_has ls 1 [(0, .ref (zg Z 116))] := hl
  refine lv_aload_n hx hb dX8_isT_0 rfl (lv_at hl 0 rfl) ?_
  refine g_ki h (g_runV X h (As := []) (rest := []) (c_X8_isF_0 gl Z v w t z a c hP) mi_X8_isF ml_RX8_192 (cc_116) (by decide) kl8 rfl ⟨Nat.le_of_ble_eq_true rfl, Nat.le_of_ble_eq_true rfl⟩ rfl hl.1 rfl (Nat.le_of_ble_eq_true rfl) dX8_isT_1) (fun r1 v1 w1 H locs hp1 h => ?_)
  obtain ⟨hr1, hu1, hq1⟩ := hp1
  obtain ⟨-, rfl⟩ := Prod.mk.inj hu1
  replace hq1 : PR t z _ _ _ v1 _ := hq1
  refine lv_if_ne (tgt := 9) hx hb dX8_isT_4 (by decide) (fun c_4 => ?_) (fun c_4 => ?_)
  · skip
    rw [hr1, bI_n] at c_4
    obtain ⟨hP1, hT1⟩ := hq1.2.2 c_4
    obtain ⟨g1, g2, g3⟩ := rdF_G t z 0 a hP.2.2.2.2.2.2.1
    obtain ⟨g4, g5⟩ := g3 c_4
    have L9 : ∀ (n9 : Nat) (f b : Nat) (l : List Nat) (va : VV), (rdA t z 0 a = rdL (rdF t z 0) t z 38 0 f b l) → (z - b ≤ f) → (PS va t z b (c + l.length) 4) → (TK va c l) → (PF c v va) → (l.length + a ≤ b) → z - b < n9 → ∀ (H : Heap) (locs : List Loc), HS Z gs va w H locs → ∀ ls : Array Slot, lv_has ls 1 [(0, .ref (zg Z 116))] → W gp gl ge (rmm 6 134) gs gm ga gb gh gc H locs 0 0 (MQ gb (Qi Z (fun r u => r = bI (rdA t z 0 a).1 ∧ (u.1, w) = u ∧ PR t z c 4 v u.1 (rdA t z 0 a))) ga gs 0 0 (zA Z)) (F0 gm 9 ls []) := by
      intro n9
      induction n9 with
      | zero => intro f b l va e hf hPa hTa hFa hll hmu; exact absurd hmu (Nat.not_lt_zero _)
      | succ n9 ih9 =>
        intro f b l va e hf hPa hTa hFa hll hmu9 H locs h ls hl
        refine lv_aload_n hx hb dX8_isT_9 rfl (lv_at hl 0 rfl) ?_
        refine lv_bipush (v := 38) hx hb dX8_isT_10 (by decide) ?_
        refine g_ki h (g_runV X h (As := [.int 38]) (rest := []) (c_X8_is gl Z va w 38 b z hPa.2.2.1 hPa.2.1 hPa.2.2.2.2.2.2.1 hPa.2.2.2.2.2.1) mi_X8_is ml_RX8_167 (cc_116) (by decide) kl8 rfl ⟨Nat.le_of_ble_eq_true rfl, Nat.le_of_ble_eq_true rfl⟩ rfl hl.1 rfl (Nat.le_of_ble_eq_true rfl) dX8_isT_12) (fun r12 v12 w12 H locs hp12 h => ?_)
        obtain ⟨hr12, hu12⟩ := hp12
        obtain ⟨hv12, rfl⟩ := Prod.mk.inj hu12
        rw [hPa.1] at hr12 hv12
        refine lv_if_eq (tgt := 35) hx hb dX8_isT_15 (by decide) (fun c_15 => ?_) (fun c_15 => ?_)
        · skip
          rw [hr12, bI_0] at c_15
          rw [c_15, if_neg (by decide)] at hv12
          refine lv_iconst (v := 1) hx hb dX8_isT_35 (by decide) ?_
          exact g_nret X h dX8_isT_36 rfl (rd_out (e.trans (rdL_s c_15)) rfl (rd_yes (by rw [← hv12]; exact hFa) (by rw [← hv12]; exact hPa) (by rw [← hv12]; exact hTa)))
        · skip
          rw [hr12, bI_n] at c_15
          rw [if_pos c_15] at hv12
          have hlt := isAt_lt c_15
          have hP12 : PS v12 t z (b + 1) (c + l.length) 4 := by rw [← hv12]; exact PS_at hPa (by omega) hlt
          refine lv_aload_n hx hb dX8_isT_18 rfl (lv_at hl 0 rfl) ?_
          refine g_ki h (g_runV X h (As := []) (rest := []) (c_X8_isF_0 gl Z v12 w t z (b + 1) (c + l.length) hP12) mi_X8_isF ml_RX8_192 (cc_116) (by decide) kl8 rfl ⟨Nat.le_of_ble_eq_true rfl, Nat.le_of_ble_eq_true rfl⟩ rfl hl.1 rfl (Nat.le_of_ble_eq_true rfl) dX8_isT_19) (fun r19 v19 w19 H locs hp19 h => ?_)
          obtain ⟨hr19, hu19, hq19⟩ := hp19
          obtain ⟨-, rfl⟩ := Prod.mk.inj hu19
          replace hq19 : PR t z _ _ _ v19 _ := hq19
          refine lv_if_eq (tgt := 33) hx hb dX8_isT_22 (by decide) (fun c_22 => ?_) (fun c_22 => ?_)
          · skip
            rw [hr19, bI_0] at c_22
            refine lv_iconst (v := 0) hx hb dX8_isT_33 (by decide) ?_
            exact g_nret X h dX8_isT_34 rfl (rd_out (e.trans (rdL_n c_15 hf c_22)) rfl (rd_no (PF_trans (by rw [← hv12]; exact PF_up hFa (by decide)) hq19.1 (by omega)) hq19.2.1))
          · skip
            rw [hr19, bI_n] at c_22
            obtain ⟨g1, g2, g3⟩ := rdF_G t z 0 (b + 1) hlt
            obtain ⟨g4, g5⟩ := g3 c_22
            have hcb := hP.2.2.2.2.2.2.2
            refine lv_aload_n hx hb dX8_isT_25 rfl (lv_at hl 0 rfl) ?_
            refine lv_iconst (v := 0) hx hb dX8_isT_26 (by decide) ?_
            refine g_ki h (g_runV X h (As := [.int 0]) (rest := []) (c_X8_codes gl Z v19 w 0 (c + l.length + (rdF t z 0 (b + 1)).2.2.length) (hq19.2.2 c_22).1.2.2.2.1 (by omega)) mi_X8_codes ml_RX8_183 (cc_116) (by decide) kl8 rfl ⟨Nat.le_of_ble_eq_true rfl, Nat.le_of_ble_eq_true rfl⟩ rfl hl.1 rfl (Nat.le_of_ble_eq_true rfl) dX8_isT_27) (fun r27 v27 w27 H locs hp27 h => ?_)
            obtain ⟨hr27, hu27⟩ := hp27
            obtain ⟨hv27, rfl⟩ := Prod.mk.inj hu27
            refine lv_if_ne (tgt := 9) hx hb dX8_isT_30 (by decide) (fun c_30 => ?_) (fun c_30 => ?_)
            · skip
              obtain ⟨s1, s2, s3⟩ := rd_step (s := 0) hPa hTa hFa hlt hv12 hq19 c_22 hll hcb g2 g5
              exact ih9 (f - 1) (rdF t z 0 (b + 1)).2.1 (l ++ (rdF t z 0 (b + 1)).2.2 ++ [0]) v27 (e.trans (rdL_y c_15 hf c_22)) (by omega) (by rw [← hv27]; exact s1) (by rw [← hv27]; exact s2) (by rw [← hv27]; exact s3) (by simp only [List.length_append, List.length_singleton]; omega) (by omega) _ _ h ls (lv_sub hl [0] rfl)
            · exact absurd c_30 (by rw [hr27]; decide)
    exact L9 (z - (rdF t z 0 a).2.1 + 1) (z - (rdF t z 0 a).2.1) (rdF t z 0 a).2.1 (rdF t z 0 a).2.2 v1 (rdT_y c_4) (Nat.le_refl _) hP1 hT1 hq1.1 g5 (Nat.lt_succ_self _) _ _ h ls (lv_sub hl [0] rfl)
  · skip
    rw [hr1, bI_0] at c_4
    refine lv_iconst (v := 0) hx hb dX8_isT_7 (by decide) ?_
    exact g_nret X h dX8_isT_8 rfl (rd_out (rdT_n c_4) rfl (rd_no hq1.1 hq1.2.1))

set_option maxRecDepth 100000 in
set_option maxHeartbeats 1000000 in
theorem c_X8_isE_0 (gl : Launch) (Z : PL) (v : VV) (w : WV) (t : Nat → Int32) (z : Nat) (a : Nat) (c : Nat) (hP : PS v t z a c 4) : CT gl yX8_isE cX8_isE 1 (some .boolean) 7 154 Z [.ref (zg Z 116)] v w (Qi Z (fun r u => r = bI (rdE t z 0 a).1 ∧ (u.1, w) = u ∧ PR t z c 4 v u.1 (rdE t z 0 a))) := by
  refine g_met (by decide) (Nat.le_of_ble_eq_true rfl) ?_
  intro gp ge gs gm ga gb gh gc X h ls hl
  have hx := X.1
  have hb := X.2.1
  have hl : lv_has ls 1 [(0, .ref (zg Z 116))] := hl
  refine lv_aload_n hx hb dX8_isE_0 rfl (lv_at hl 0 rfl) ?_
  refine g_ki h (g_runV X h (As := []) (rest := []) (c_X8_isT_0 gl Z v w t z a c hP) mi_X8_isT ml_RX8_201 (cc_116) (by decide) kl8 rfl ⟨Nat.le_of_ble_eq_true rfl, Nat.le_of_ble_eq_true rfl⟩ rfl hl.1 rfl (Nat.le_of_ble_eq_true rfl) dX8_isE_1) (fun r1 v1 w1 H locs hp1 h => ?_)
  obtain ⟨hr1, hu1, hq1⟩ := hp1
  obtain ⟨-, rfl⟩ := Prod.mk.inj hu1
  replace hq1 : PR t z _ _ _ v1 _ := hq1
  refine lv_if_ne (tgt := 9) hx hb dX8_isE_4 (by decide) (fun c_4 => ?_) (fun c_4 => ?_)
  · skip
    rw [hr1, bI_n] at c_4
    obtain ⟨hP1, hT1⟩ := hq1.2.2 c_4
    obtain ⟨g1, g2, g3⟩ := rdA_G t z 0 a hP.2.2.2.2.2.2.1
    obtain ⟨g4, g5⟩ := g3 c_4
    have L9 : ∀ (n9 : Nat) (f b : Nat) (l : List Nat) (va : VV), (rdE t z 0 a = rdL (rdA t z 0) t z 124 1 f b l) → (z - b ≤ f) → (PS va t z b (c + l.length) 4) → (TK va c l) → (PF c v va) → (l.length + a ≤ b) → z - b < n9 → ∀ (H : Heap) (locs : List Loc), HS Z gs va w H locs → ∀ ls : Array Slot, lv_has ls 1 [(0, .ref (zg Z 116))] → W gp gl ge (rmm 7 154) gs gm ga gb gh gc H locs 0 0 (MQ gb (Qi Z (fun r u => r = bI (rdE t z 0 a).1 ∧ (u.1, w) = u ∧ PR t z c 4 v u.1 (rdE t z 0 a))) ga gs 0 0 (zA Z)) (F0 gm 9 ls []) := by
      intro n9
      induction n9 with
      | zero => intro f b l va e hf hPa hTa hFa hll hmu; exact absurd hmu (Nat.not_lt_zero _)
      | succ n9 ih9 =>
        intro f b l va e hf hPa hTa hFa hll hmu9 H locs h ls hl
        refine lv_aload_n hx hb dX8_isE_9 rfl (lv_at hl 0 rfl) ?_
        refine lv_bipush (v := 124) hx hb dX8_isE_10 (by decide) ?_
        refine g_ki h (g_runV X h (As := [.int 124]) (rest := []) (c_X8_is gl Z va w 124 b z hPa.2.2.1 hPa.2.1 hPa.2.2.2.2.2.2.1 hPa.2.2.2.2.2.1) mi_X8_is ml_RX8_167 (cc_116) (by decide) kl8 rfl ⟨Nat.le_of_ble_eq_true rfl, Nat.le_of_ble_eq_true rfl⟩ rfl hl.1 rfl (Nat.le_of_ble_eq_true rfl) dX8_isE_12) (fun r12 v12 w12 H locs hp12 h => ?_)
        obtain ⟨hr12, hu12⟩ := hp12
        obtain ⟨hv12, rfl⟩ := Prod.mk.inj hu12
        rw [hPa.1] at hr12 hv12
        refine lv_if_eq (tgt := 35) hx hb dX8_isE_15 (by decide) (fun c_15 => ?_) (fun c_15 => ?_)
        · skip
          rw [hr12, bI_0] at c_15
          rw [c_15, if_neg (by decide)] at hv12
          refine lv_iconst (v := 1) hx hb dX8_isE_35 (by decide) ?_
          exact g_nret X h dX8_isE_36 rfl (rd_out (e.trans (rdL_s c_15)) rfl (rd_yes (by rw [← hv12]; exact hFa) (by rw [← hv12]; exact hPa) (by rw [← hv12]; exact hTa)))
        · skip
          rw [hr12, bI_n] at c_15
          rw [if_pos c_15] at hv12
          have hlt := isAt_lt c_15
          have hP12 : PS v12 t z (b + 1) (c + l.length) 4 := by rw [← hv12]; exact PS_at hPa (by omega) hlt
          refine lv_aload_n hx hb dX8_isE_18 rfl (lv_at hl 0 rfl) ?_
          refine g_ki h (g_runV X h (As := []) (rest := []) (c_X8_isT_0 gl Z v12 w t z (b + 1) (c + l.length) hP12) mi_X8_isT ml_RX8_201 (cc_116) (by decide) kl8 rfl ⟨Nat.le_of_ble_eq_true rfl, Nat.le_of_ble_eq_true rfl⟩ rfl hl.1 rfl (Nat.le_of_ble_eq_true rfl) dX8_isE_19) (fun r19 v19 w19 H locs hp19 h => ?_)
          obtain ⟨hr19, hu19, hq19⟩ := hp19
          obtain ⟨-, rfl⟩ := Prod.mk.inj hu19
          replace hq19 : PR t z _ _ _ v19 _ := hq19
          refine lv_if_eq (tgt := 33) hx hb dX8_isE_22 (by decide) (fun c_22 => ?_) (fun c_22 => ?_)
          · skip
            rw [hr19, bI_0] at c_22
            refine lv_iconst (v := 0) hx hb dX8_isE_33 (by decide) ?_
            exact g_nret X h dX8_isE_34 rfl (rd_out (e.trans (rdL_n c_15 hf c_22)) rfl (rd_no (PF_trans (by rw [← hv12]; exact PF_up hFa (by decide)) hq19.1 (by omega)) hq19.2.1))
          · skip
            rw [hr19, bI_n] at c_22
            obtain ⟨g1, g2, g3⟩ := rdA_G t z 0 (b + 1) hlt
            obtain ⟨g4, g5⟩ := g3 c_22
            have hcb := hP.2.2.2.2.2.2.2
            refine lv_aload_n hx hb dX8_isE_25 rfl (lv_at hl 0 rfl) ?_
            refine lv_iconst (v := 1) hx hb dX8_isE_26 (by decide) ?_
            refine g_ki h (g_runV X h (As := [.int 1]) (rest := []) (c_X8_codes gl Z v19 w 1 (c + l.length + (rdA t z 0 (b + 1)).2.2.length) (hq19.2.2 c_22).1.2.2.2.1 (by omega)) mi_X8_codes ml_RX8_183 (cc_116) (by decide) kl8 rfl ⟨Nat.le_of_ble_eq_true rfl, Nat.le_of_ble_eq_true rfl⟩ rfl hl.1 rfl (Nat.le_of_ble_eq_true rfl) dX8_isE_27) (fun r27 v27 w27 H locs hp27 h => ?_)
            obtain ⟨hr27, hu27⟩ := hp27
            obtain ⟨hv27, rfl⟩ := Prod.mk.inj hu27
            refine lv_if_ne (tgt := 9) hx hb dX8_isE_30 (by decide) (fun c_30 => ?_) (fun c_30 => ?_)
            · skip
              obtain ⟨s1, s2, s3⟩ := rd_step (s := 1) hPa hTa hFa hlt hv12 hq19 c_22 hll hcb g2 g5
              exact ih9 (f - 1) (rdA t z 0 (b + 1)).2.1 (l ++ (rdA t z 0 (b + 1)).2.2 ++ [1]) v27 (e.trans (rdL_y c_15 hf c_22)) (by omega) (by rw [← hv27]; exact s1) (by rw [← hv27]; exact s2) (by rw [← hv27]; exact s3) (by simp only [List.length_append, List.length_singleton]; omega) (by omega) _ _ h ls (lv_sub hl [0] rfl)
            · exact absurd c_30 (by rw [hr27]; decide)
    exact L9 (z - (rdA t z 0 a).2.1 + 1) (z - (rdA t z 0 a).2.1) (rdA t z 0 a).2.1 (rdA t z 0 a).2.2 v1 (rdT_y c_4) (Nat.le_refl _) hP1 hT1 hq1.1 g5 (Nat.lt_succ_self _) _ _ h ls (lv_sub hl [0] rfl)
  · skip
    rw [hr1, bI_0] at c_4
    refine lv_iconst (v := 0) hx hb dX8_isE_7 (by decide) ?_
    exact g_nret X h dX8_isE_8 rfl (rd_out (rdT_n c_4) rfl (rd_no hq1.1 hq1.2.1))

set_option maxRecDepth 100000 in
set_option maxHeartbeats 1000000 in
theorem c_X8_isF_1 (gl : Launch) (Z : PL) (v : VV) (w : WV) (t : Nat → Int32) (z : Nat) (a : Nat) (c : Nat) (hP : PS v t z a c 3) : CT gl yX8_isF cX8_isF 2 (some .boolean) 8 174 Z [.ref (zg Z 116)] v w (Qi Z (fun r u => r = bI (rdF t z 1 a).1 ∧ (u.1, w) = u ∧ PR t z c 3 v u.1 (rdF t z 1 a))) := by
  refine g_met (by decide) (Nat.le_of_ble_eq_true rfl) ?_
  intro gp ge gs gm ga gb gh gc X h ls hl
  have hx := X.1
  have hb := X.2.1
  have hl : lv_has ls 2 [(0, .ref (zg Z 116))] := hl
  refine lv_aload_n hx hb dX8_isF_0 rfl (lv_at hl 0 rfl) ?_
  refine lv_bipush (v := 33) hx hb dX8_isF_1 (by decide) ?_
  refine g_ki h (g_runV X h (As := [.int 33]) (rest := []) (c_X8_opens gl Z v w 33 3 hP.2.2.2.2.1 (by decide) a z hP.2.2.1 hP.2.1 hP.2.2.2.2.2.2.1 hP.2.2.2.2.2.1) mi_X8_opens ml_RX8_189 (cc_116) (by decide) kl8 rfl ⟨Nat.le_of_ble_eq_true rfl, Nat.le_of_ble_eq_true rfl⟩ rfl hl.1 rfl (Nat.le_of_ble_eq_true rfl) dX8_isF_3) (fun r3 v3 w3 H locs hp3 h => ?_)
  obtain ⟨hr3, hu3⟩ := hp3
  obtain ⟨hv3, rfl⟩ := Prod.mk.inj hu3
  rw [hP.1] at hr3 hv3
  refine lv_if_eq (tgt := 33) hx hb dX8_isF_6 (by decide) (fun c_6 => ?_) (fun c_6 => ?_)
  · skip
    rw [hr3, bI_0] at c_6
    rw [if_neg (by rw [c_6]; decide)] at hv3
    have e3 : v3 = v := hv3.symm
    have hP3 : PS v3 t z a c 3 := by rw [e3]; exact hP
    have hf33 : isAt t z a 33 = false := by simpa using c_6
    refine lv_aload_n hx hb dX8_isF_33 rfl (lv_at hl 0 rfl) ?_
    refine lv_bipush (v := 40) hx hb dX8_isF_34 (by decide) ?_
    refine g_ki h (g_runV X h (As := [.int 40]) (rest := []) (c_X8_opens gl Z v3 w 40 3 hP3.2.2.2.2.1 (by decide) a z hP3.2.2.1 hP3.2.1 hP3.2.2.2.2.2.2.1 hP3.2.2.2.2.2.1) mi_X8_opens ml_RX8_189 (cc_116) (by decide) kl8 rfl ⟨Nat.le_of_ble_eq_true rfl, Nat.le_of_ble_eq_true rfl⟩ rfl hl.1 rfl (Nat.le_of_ble_eq_true rfl) dX8_isF_36) (fun r36 v36 w36 H locs hp36 h => ?_)
    obtain ⟨hr36, hu36⟩ := hp36
    obtain ⟨hv36, rfl⟩ := Prod.mk.inj hu36
    rw [hP3.1] at hr36 hv36
    refine lv_if_eq (tgt := 67) hx hb dX8_isF_39 (by decide) (fun c_39 => ?_) (fun c_39 => ?_)
    · skip
      rw [hr36, bI_0] at c_39
      rw [if_neg (by rw [c_39]; decide)] at hv36
      have e36 : v36 = v3 := hv36.symm
      have hP36 : PS v36 t z a c 3 := by rw [e36]; exact hP3
      have hf40 : isAt t z a 40 = false := by simpa using c_39
      refine lv_aload_n hx hb dX8_isF_67 rfl (lv_at hl 0 rfl) ?_
      refine g_ki h (g_runV X h (As := []) (rest := []) (c_X8_isTest gl Z v36 w t z a c 3 hP36) mi_X8_isTest ml_RX8_198 (cc_116) (by decide) kl8 rfl ⟨Nat.le_of_ble_eq_true rfl, Nat.le_of_ble_eq_true rfl⟩ rfl hl.1 rfl (Nat.le_of_ble_eq_true rfl) dX8_isF_68) (fun r68 v68 w68 H locs hp68 h => ?_)
      obtain ⟨hr68, hu68, hq68⟩ := hp68
      obtain ⟨-, rfl⟩ := Prod.mk.inj hu68
      replace hq68 : PR t z _ _ _ v68 _ := hq68
      exact g_nret X h dX8_isF_71 (by rw [hr68]; exact nar_bI _) (rd_out (rdF_t (d := 0) hf33 hf40) hr68 (by rw [e36, e3] at hq68; exact hq68))
    · skip
      rw [hr36, bI_n] at c_39
      rw [if_pos c_39] at hv36
      have hat : isAt t z a 40 = true := by simpa using c_39
      have hP36 : PS v36 t z (a + 1) c 4 := by rw [← hv36]; exact PS_open hP3 (isAt_lt hat)
      have hF36 : PF c v v36 := by rw [← hv36, e3]; exact PF_up (PF_up (PF_refl _ _) (by decide)) (by decide)
      refine lv_aload_n hx hb dX8_isF_42 rfl (lv_at hl 0 rfl) ?_
      refine g_ki h (g_runV X h (As := []) (rest := []) (c_X8_isE_0 gl Z v36 w t z (a + 1) c hP36) mi_X8_isE ml_RX8_195 (cc_116) (by decide) kl8 rfl ⟨Nat.le_of_ble_eq_true rfl, Nat.le_of_ble_eq_true rfl⟩ rfl hl.1 rfl (Nat.le_of_ble_eq_true rfl) dX8_isF_43) (fun r43 v43 w43 H locs hp43 h => ?_)
      obtain ⟨hr43, hu43, hq43⟩ := hp43
      obtain ⟨-, rfl⟩ := Prod.mk.inj hu43
      replace hq43 : PR t z _ _ _ v43 _ := hq43
      refine lv_if_eq (tgt := 62) hx hb dX8_isF_46 (by decide) (fun c_46 => ?_) (fun c_46 => ?_)
      · skip
        rw [hr43, bI_0] at c_46
        refine lv_iconst (v := 0) hx hb dX8_isF_62 (by decide) ?_
        refine lv_istore_n (lv' := [(1, .int 0), (0, .ref (zg Z 116))]) hx hb dX8_isF_63 rfl hl (by decide) rfl (fun ls hl => ?_)
        refine lv_goto (tgt := 72) hx hb dX8_isF_64 (by decide) ?_
        refine lv_aload_n hx hb dX8_isF_72 rfl (lv_at hl 1 rfl) ?_
        refine lv_dup hx hb dX8_isF_73 rfl ?_
        refine g_geti X h (k := 24) (cc_116) fr_RX8_186 rfl (by decide) dX8_isF_74 ?_
        refine lv_iconst (v := 1) hx hb dX8_isF_77 (by decide) ?_
        refine lv_isub hx hb dX8_isF_78 ?_
        refine g_puti X h (k := 24) (cc_116) fp_RX8_186 rfl (by decide) dX8_isF_79 (fun v79 H locs ev79 h => ?_)
        refine lv_iload_n hx hb dX8_isF_82 rfl (lv_at hl 0 rfl) ?_
        exact g_nret X h dX8_isF_83 rfl (rd_out (rdF_pn (d := 0) hf33 hat c_46) rfl (rd_no (by rw [ev79]; exact PF_up (PF_trans hF36 hq43.1 (Nat.le_refl _)) (by decide)) (by show v79 116 23 = _; rw [ev79, up24_23]; exact hq43.2.1)))
      · skip
        rw [hr43, bI_n] at c_46
        obtain ⟨hP43, hT43⟩ := hq43.2.2 c_46
        refine lv_aload_n hx hb dX8_isF_49 rfl (lv_at hl 0 rfl) ?_
        refine lv_bipush (v := 41) hx hb dX8_isF_50 (by decide) ?_
        refine g_ki h (g_runV X h (As := [.int 41]) (rest := []) (c_X8_is gl Z v43 w 41 ((rdE t z 0 (a + 1)).2.1) z hP43.2.2.1 hP43.2.1 hP43.2.2.2.2.2.2.1 hP43.2.2.2.2.2.1) mi_X8_is ml_RX8_167 (cc_116) (by decide) kl8 rfl ⟨Nat.le_of_ble_eq_true rfl, Nat.le_of_ble_eq_true rfl⟩ rfl hl.1 rfl (Nat.le_of_ble_eq_true rfl) dX8_isF_52) (fun r52 v52 w52 H locs hp52 h => ?_)
        obtain ⟨hr52, hu52⟩ := hp52
        obtain ⟨hv52, rfl⟩ := Prod.mk.inj hu52
        rw [hP43.1] at hr52 hv52
        refine lv_if_eq (tgt := 62) hx hb dX8_isF_55 (by decide) (fun c_55 => ?_) (fun c_55 => ?_)
        · skip
          rw [hr52, bI_0] at c_55
          rw [c_55, if_neg (by decide)] at hv52
          refine lv_iconst (v := 0) hx hb dX8_isF_62 (by decide) ?_
          refine lv_istore_n (lv' := [(1, .int 0), (0, .ref (zg Z 116))]) hx hb dX8_isF_63 rfl hl (by decide) rfl (fun ls hl => ?_)
          refine lv_goto (tgt := 72) hx hb dX8_isF_64 (by decide) ?_
          refine lv_aload_n hx hb dX8_isF_72 rfl (lv_at hl 1 rfl) ?_
          refine lv_dup hx hb dX8_isF_73 rfl ?_
          refine g_geti X h (k := 24) (cc_116) fr_RX8_186 rfl (by decide) dX8_isF_74 ?_
          refine lv_iconst (v := 1) hx hb dX8_isF_77 (by decide) ?_
          refine lv_isub hx hb dX8_isF_78 ?_
          refine g_puti X h (k := 24) (cc_116) fp_RX8_186 rfl (by decide) dX8_isF_79 (fun v79 H locs ev79 h => ?_)
          refine lv_iload_n hx hb dX8_isF_82 rfl (lv_at hl 0 rfl) ?_
          exact g_nret X h dX8_isF_83 rfl (rd_out (rdF_pm (d := 0) hf33 hat c_46 c_55) rfl (rd_no (by rw [ev79]; exact PF_up (by rw [← hv52]; exact PF_trans hF36 hq43.1 (Nat.le_refl _)) (by decide)) (by show v79 116 23 = _; rw [ev79, up24_23, ← hv52]; exact hq43.2.1)))
        · skip
          rw [hr52, bI_n] at c_55
          rw [if_pos c_55] at hv52
          refine lv_iconst (v := 1) hx hb dX8_isF_58 (by decide) ?_
          refine lv_goto (tgt := 63) hx hb dX8_isF_59 (by decide) ?_
          refine lv_istore_n (lv' := [(1, .int 1), (0, .ref (zg Z 116))]) hx hb dX8_isF_63 rfl hl (by decide) rfl (fun ls hl => ?_)
          refine lv_goto (tgt := 72) hx hb dX8_isF_64 (by decide) ?_
          refine lv_aload_n hx hb dX8_isF_72 rfl (lv_at hl 1 rfl) ?_
          refine lv_dup hx hb dX8_isF_73 rfl ?_
          refine g_geti X h (k := 24) (cc_116) fr_RX8_186 rfl (by decide) dX8_isF_74 ?_
          refine lv_iconst (v := 1) hx hb dX8_isF_77 (by decide) ?_
          refine lv_isub hx hb dX8_isF_78 ?_
          refine g_puti X h (k := 24) (cc_116) fp_RX8_186 rfl (by decide) dX8_isF_79 (fun v79 H locs ev79 h => ?_)
          refine lv_iload_n hx hb dX8_isF_82 rfl (lv_at hl 0 rfl) ?_
          exact g_nret X h dX8_isF_83 rfl (rd_out (rdF_py (d := 0) hf33 hat c_46 c_55) rfl (rd_yes (by rw [ev79]; exact PF_up (by rw [← hv52]; exact PF_up (PF_trans hF36 hq43.1 (Nat.le_refl _)) (by decide)) (by decide)) (by rw [ev79, ← hv52]; exact PS_close (PS_at hP43 (by omega) (isAt_lt c_55))) (by rw [ev79, ← hv52]; exact TK_up (TK_up hT43))))
  · skip
    rw [hr3, bI_n] at c_6
    rw [if_pos c_6] at hv3
    have hat : isAt t z a 33 = true := by simpa using c_6
    have hP3 : PS v3 t z (a + 1) c 4 := by rw [← hv3]; exact PS_open hP (isAt_lt hat)
    have hF3 : PF c v v3 := by rw [← hv3]; exact PF_up (PF_up (PF_refl _ _) (by decide)) (by decide)
    refine lv_aload_n hx hb dX8_isF_9 rfl (lv_at hl 0 rfl) ?_
    refine g_ki h (g_runV X h (As := []) (rest := []) (c_X8_isF_0 gl Z v3 w t z (a + 1) c hP3) mi_X8_isF ml_RX8_192 (cc_116) (by decide) kl8 rfl ⟨Nat.le_of_ble_eq_true rfl, Nat.le_of_ble_eq_true rfl⟩ rfl hl.1 rfl (Nat.le_of_ble_eq_true rfl) dX8_isF_10) (fun r10 v10 w10 H locs hp10 h => ?_)
    obtain ⟨hr10, hu10, hq10⟩ := hp10
    obtain ⟨-, rfl⟩ := Prod.mk.inj hu10
    replace hq10 : PR t z _ _ _ v10 _ := hq10
    refine lv_if_eq (tgt := 28) hx hb dX8_isF_13 (by decide) (fun c_13 => ?_) (fun c_13 => ?_)
    · skip
      rw [hr10, bI_0] at c_13
      refine lv_iconst (v := 0) hx hb dX8_isF_28 (by decide) ?_
      refine lv_istore_n (lv' := [(1, .int 0), (0, .ref (zg Z 116))]) hx hb dX8_isF_29 rfl hl (by decide) rfl (fun ls hl => ?_)
      refine lv_goto (tgt := 72) hx hb dX8_isF_30 (by decide) ?_
      refine lv_aload_n hx hb dX8_isF_72 rfl (lv_at hl 1 rfl) ?_
      refine lv_dup hx hb dX8_isF_73 rfl ?_
      refine g_geti X h (k := 24) (cc_116) fr_RX8_186 rfl (by decide) dX8_isF_74 ?_
      refine lv_iconst (v := 1) hx hb dX8_isF_77 (by decide) ?_
      refine lv_isub hx hb dX8_isF_78 ?_
      refine g_puti X h (k := 24) (cc_116) fp_RX8_186 rfl (by decide) dX8_isF_79 (fun v79 H locs ev79 h => ?_)
      refine lv_iload_n hx hb dX8_isF_82 rfl (lv_at hl 0 rfl) ?_
      exact g_nret X h dX8_isF_83 rfl (rd_out (rdF_n (d := 0) hat c_13) rfl (rd_no (by rw [ev79]; exact PF_up (PF_trans hF3 hq10.1 (Nat.le_refl _)) (by decide)) (by show v79 116 23 = _; rw [ev79, up24_23]; exact hq10.2.1)))
    · skip
      rw [hr10, bI_n] at c_13
      obtain ⟨hP10, hT10⟩ := hq10.2.2 c_13
      obtain ⟨g1, g2, g3⟩ := rdF_G t z 0 (a + 1) (isAt_lt hat)
      obtain ⟨g4, g5⟩ := g3 c_13
      have hcb := hP.2.2.2.2.2.2.2
      refine lv_aload_n hx hb dX8_isF_16 rfl (lv_at hl 0 rfl) ?_
      refine lv_iconst (v := 2) hx hb dX8_isF_17 (by decide) ?_
      refine g_ki h (g_runV X h (As := [.int 2]) (rest := []) (c_X8_codes gl Z v10 w 2 (c + (rdF t z 0 (a + 1)).2.2.length) hP10.2.2.2.1 (by omega)) mi_X8_codes ml_RX8_183 (cc_116) (by decide) kl8 rfl ⟨Nat.le_of_ble_eq_true rfl, Nat.le_of_ble_eq_true rfl⟩ rfl hl.1 rfl (Nat.le_of_ble_eq_true rfl) dX8_isF_18) (fun r18 v18 w18 H locs hp18 h => ?_)
      obtain ⟨hr18, hu18⟩ := hp18
      obtain ⟨hv18, rfl⟩ := Prod.mk.inj hu18
      refine lv_if_eq (tgt := 28) hx hb dX8_isF_21 (by decide) (fun c_21 => ?_) (fun c_21 => ?_)
      · exact absurd c_21 (by rw [hr18]; decide)
      · skip
        refine lv_iconst (v := 1) hx hb dX8_isF_24 (by decide) ?_
        refine lv_goto (tgt := 29) hx hb dX8_isF_25 (by decide) ?_
        refine lv_istore_n (lv' := [(1, .int 1), (0, .ref (zg Z 116))]) hx hb dX8_isF_29 rfl hl (by decide) rfl (fun ls hl => ?_)
        refine lv_goto (tgt := 72) hx hb dX8_isF_30 (by decide) ?_
        refine lv_aload_n hx hb dX8_isF_72 rfl (lv_at hl 1 rfl) ?_
        refine lv_dup hx hb dX8_isF_73 rfl ?_
        refine g_geti X h (k := 24) (cc_116) fr_RX8_186 rfl (by decide) dX8_isF_74 ?_
        refine lv_iconst (v := 1) hx hb dX8_isF_77 (by decide) ?_
        refine lv_isub hx hb dX8_isF_78 ?_
        refine g_puti X h (k := 24) (cc_116) fp_RX8_186 rfl (by decide) dX8_isF_79 (fun v79 H locs ev79 h => ?_)
        refine lv_iload_n hx hb dX8_isF_82 rfl (lv_at hl 0 rfl) ?_
        exact g_nret X h dX8_isF_83 rfl (rd_out (rdF_y (d := 0) hat c_13) rfl (rd_yes (by rw [ev79]; exact PF_up (by rw [← hv18]; exact PF_code (PF_up (PF_trans hF3 hq10.1 (Nat.le_refl _)) (by decide)) (by omega)) (by decide)) (by rw [ev79, ← hv18]; exact PS_close (PS_len (PS_code hP10 (by omega)))) (by rw [ev79, ← hv18]; exact TK_up (TK_snoc hT10))))

set_option maxRecDepth 100000 in
set_option maxHeartbeats 1000000 in
theorem c_X8_isT_1 (gl : Launch) (Z : PL) (v : VV) (w : WV) (t : Nat → Int32) (z : Nat) (a : Nat) (c : Nat) (hP : PS v t z a c 3) : CT gl yX8_isT cX8_isT 1 (some .boolean) 9 195 Z [.ref (zg Z 116)] v w (Qi Z (fun r u => r = bI (rdA t z 1 a).1 ∧ (u.1, w) = u ∧ PR t z c 3 v u.1 (rdA t z 1 a))) := by
  refine g_met (by decide) (Nat.le_of_ble_eq_true rfl) ?_
  intro gp ge gs gm ga gb gh gc X h ls hl
  have hx := X.1
  have hb := X.2.1
  have hl : lv_has ls 1 [(0, .ref (zg Z 116))] := hl
  refine lv_aload_n hx hb dX8_isT_0 rfl (lv_at hl 0 rfl) ?_
  refine g_ki h (g_runV X h (As := []) (rest := []) (c_X8_isF_1 gl Z v w t z a c hP) mi_X8_isF ml_RX8_192 (cc_116) (by decide) kl8 rfl ⟨Nat.le_of_ble_eq_true rfl, Nat.le_of_ble_eq_true rfl⟩ rfl hl.1 rfl (Nat.le_of_ble_eq_true rfl) dX8_isT_1) (fun r1 v1 w1 H locs hp1 h => ?_)
  obtain ⟨hr1, hu1, hq1⟩ := hp1
  obtain ⟨-, rfl⟩ := Prod.mk.inj hu1
  replace hq1 : PR t z _ _ _ v1 _ := hq1
  refine lv_if_ne (tgt := 9) hx hb dX8_isT_4 (by decide) (fun c_4 => ?_) (fun c_4 => ?_)
  · skip
    rw [hr1, bI_n] at c_4
    obtain ⟨hP1, hT1⟩ := hq1.2.2 c_4
    obtain ⟨g1, g2, g3⟩ := rdF_G t z 1 a hP.2.2.2.2.2.2.1
    obtain ⟨g4, g5⟩ := g3 c_4
    have L9 : ∀ (n9 : Nat) (f b : Nat) (l : List Nat) (va : VV), (rdA t z 1 a = rdL (rdF t z 1) t z 38 0 f b l) → (z - b ≤ f) → (PS va t z b (c + l.length) 3) → (TK va c l) → (PF c v va) → (l.length + a ≤ b) → z - b < n9 → ∀ (H : Heap) (locs : List Loc), HS Z gs va w H locs → ∀ ls : Array Slot, lv_has ls 1 [(0, .ref (zg Z 116))] → W gp gl ge (rmm 9 195) gs gm ga gb gh gc H locs 0 0 (MQ gb (Qi Z (fun r u => r = bI (rdA t z 1 a).1 ∧ (u.1, w) = u ∧ PR t z c 3 v u.1 (rdA t z 1 a))) ga gs 0 0 (zA Z)) (F0 gm 9 ls []) := by
      intro n9
      induction n9 with
      | zero => intro f b l va e hf hPa hTa hFa hll hmu; exact absurd hmu (Nat.not_lt_zero _)
      | succ n9 ih9 =>
        intro f b l va e hf hPa hTa hFa hll hmu9 H locs h ls hl
        refine lv_aload_n hx hb dX8_isT_9 rfl (lv_at hl 0 rfl) ?_
        refine lv_bipush (v := 38) hx hb dX8_isT_10 (by decide) ?_
        refine g_ki h (g_runV X h (As := [.int 38]) (rest := []) (c_X8_is gl Z va w 38 b z hPa.2.2.1 hPa.2.1 hPa.2.2.2.2.2.2.1 hPa.2.2.2.2.2.1) mi_X8_is ml_RX8_167 (cc_116) (by decide) kl8 rfl ⟨Nat.le_of_ble_eq_true rfl, Nat.le_of_ble_eq_true rfl⟩ rfl hl.1 rfl (Nat.le_of_ble_eq_true rfl) dX8_isT_12) (fun r12 v12 w12 H locs hp12 h => ?_)
        obtain ⟨hr12, hu12⟩ := hp12
        obtain ⟨hv12, rfl⟩ := Prod.mk.inj hu12
        rw [hPa.1] at hr12 hv12
        refine lv_if_eq (tgt := 35) hx hb dX8_isT_15 (by decide) (fun c_15 => ?_) (fun c_15 => ?_)
        · skip
          rw [hr12, bI_0] at c_15
          rw [c_15, if_neg (by decide)] at hv12
          refine lv_iconst (v := 1) hx hb dX8_isT_35 (by decide) ?_
          exact g_nret X h dX8_isT_36 rfl (rd_out (e.trans (rdL_s c_15)) rfl (rd_yes (by rw [← hv12]; exact hFa) (by rw [← hv12]; exact hPa) (by rw [← hv12]; exact hTa)))
        · skip
          rw [hr12, bI_n] at c_15
          rw [if_pos c_15] at hv12
          have hlt := isAt_lt c_15
          have hP12 : PS v12 t z (b + 1) (c + l.length) 3 := by rw [← hv12]; exact PS_at hPa (by omega) hlt
          refine lv_aload_n hx hb dX8_isT_18 rfl (lv_at hl 0 rfl) ?_
          refine g_ki h (g_runV X h (As := []) (rest := []) (c_X8_isF_1 gl Z v12 w t z (b + 1) (c + l.length) hP12) mi_X8_isF ml_RX8_192 (cc_116) (by decide) kl8 rfl ⟨Nat.le_of_ble_eq_true rfl, Nat.le_of_ble_eq_true rfl⟩ rfl hl.1 rfl (Nat.le_of_ble_eq_true rfl) dX8_isT_19) (fun r19 v19 w19 H locs hp19 h => ?_)
          obtain ⟨hr19, hu19, hq19⟩ := hp19
          obtain ⟨-, rfl⟩ := Prod.mk.inj hu19
          replace hq19 : PR t z _ _ _ v19 _ := hq19
          refine lv_if_eq (tgt := 33) hx hb dX8_isT_22 (by decide) (fun c_22 => ?_) (fun c_22 => ?_)
          · skip
            rw [hr19, bI_0] at c_22
            refine lv_iconst (v := 0) hx hb dX8_isT_33 (by decide) ?_
            exact g_nret X h dX8_isT_34 rfl (rd_out (e.trans (rdL_n c_15 hf c_22)) rfl (rd_no (PF_trans (by rw [← hv12]; exact PF_up hFa (by decide)) hq19.1 (by omega)) hq19.2.1))
          · skip
            rw [hr19, bI_n] at c_22
            obtain ⟨g1, g2, g3⟩ := rdF_G t z 1 (b + 1) hlt
            obtain ⟨g4, g5⟩ := g3 c_22
            have hcb := hP.2.2.2.2.2.2.2
            refine lv_aload_n hx hb dX8_isT_25 rfl (lv_at hl 0 rfl) ?_
            refine lv_iconst (v := 0) hx hb dX8_isT_26 (by decide) ?_
            refine g_ki h (g_runV X h (As := [.int 0]) (rest := []) (c_X8_codes gl Z v19 w 0 (c + l.length + (rdF t z 1 (b + 1)).2.2.length) (hq19.2.2 c_22).1.2.2.2.1 (by omega)) mi_X8_codes ml_RX8_183 (cc_116) (by decide) kl8 rfl ⟨Nat.le_of_ble_eq_true rfl, Nat.le_of_ble_eq_true rfl⟩ rfl hl.1 rfl (Nat.le_of_ble_eq_true rfl) dX8_isT_27) (fun r27 v27 w27 H locs hp27 h => ?_)
            obtain ⟨hr27, hu27⟩ := hp27
            obtain ⟨hv27, rfl⟩ := Prod.mk.inj hu27
            refine lv_if_ne (tgt := 9) hx hb dX8_isT_30 (by decide) (fun c_30 => ?_) (fun c_30 => ?_)
            · skip
              obtain ⟨s1, s2, s3⟩ := rd_step (s := 0) hPa hTa hFa hlt hv12 hq19 c_22 hll hcb g2 g5
              exact ih9 (f - 1) (rdF t z 1 (b + 1)).2.1 (l ++ (rdF t z 1 (b + 1)).2.2 ++ [0]) v27 (e.trans (rdL_y c_15 hf c_22)) (by omega) (by rw [← hv27]; exact s1) (by rw [← hv27]; exact s2) (by rw [← hv27]; exact s3) (by simp only [List.length_append, List.length_singleton]; omega) (by omega) _ _ h ls (lv_sub hl [0] rfl)
            · exact absurd c_30 (by rw [hr27]; decide)
    exact L9 (z - (rdF t z 1 a).2.1 + 1) (z - (rdF t z 1 a).2.1) (rdF t z 1 a).2.1 (rdF t z 1 a).2.2 v1 (rdT_y c_4) (Nat.le_refl _) hP1 hT1 hq1.1 g5 (Nat.lt_succ_self _) _ _ h ls (lv_sub hl [0] rfl)
  · skip
    rw [hr1, bI_0] at c_4
    refine lv_iconst (v := 0) hx hb dX8_isT_7 (by decide) ?_
    exact g_nret X h dX8_isT_8 rfl (rd_out (rdT_n c_4) rfl (rd_no hq1.1 hq1.2.1))

set_option maxRecDepth 100000 in
set_option maxHeartbeats 1000000 in
theorem c_X8_isE_1 (gl : Launch) (Z : PL) (v : VV) (w : WV) (t : Nat → Int32) (z : Nat) (a : Nat) (c : Nat) (hP : PS v t z a c 3) : CT gl yX8_isE cX8_isE 1 (some .boolean) 10 215 Z [.ref (zg Z 116)] v w (Qi Z (fun r u => r = bI (rdE t z 1 a).1 ∧ (u.1, w) = u ∧ PR t z c 3 v u.1 (rdE t z 1 a))) := by
  refine g_met (by decide) (Nat.le_of_ble_eq_true rfl) ?_
  intro gp ge gs gm ga gb gh gc X h ls hl
  have hx := X.1
  have hb := X.2.1
  have hl : lv_has ls 1 [(0, .ref (zg Z 116))] := hl
  refine lv_aload_n hx hb dX8_isE_0 rfl (lv_at hl 0 rfl) ?_
  refine g_ki h (g_runV X h (As := []) (rest := []) (c_X8_isT_1 gl Z v w t z a c hP) mi_X8_isT ml_RX8_201 (cc_116) (by decide) kl8 rfl ⟨Nat.le_of_ble_eq_true rfl, Nat.le_of_ble_eq_true rfl⟩ rfl hl.1 rfl (Nat.le_of_ble_eq_true rfl) dX8_isE_1) (fun r1 v1 w1 H locs hp1 h => ?_)
  obtain ⟨hr1, hu1, hq1⟩ := hp1
  obtain ⟨-, rfl⟩ := Prod.mk.inj hu1
  replace hq1 : PR t z _ _ _ v1 _ := hq1
  refine lv_if_ne (tgt := 9) hx hb dX8_isE_4 (by decide) (fun c_4 => ?_) (fun c_4 => ?_)
  · skip
    rw [hr1, bI_n] at c_4
    obtain ⟨hP1, hT1⟩ := hq1.2.2 c_4
    obtain ⟨g1, g2, g3⟩ := rdA_G t z 1 a hP.2.2.2.2.2.2.1
    obtain ⟨g4, g5⟩ := g3 c_4
    have L9 : ∀ (n9 : Nat) (f b : Nat) (l : List Nat) (va : VV), (rdE t z 1 a = rdL (rdA t z 1) t z 124 1 f b l) → (z - b ≤ f) → (PS va t z b (c + l.length) 3) → (TK va c l) → (PF c v va) → (l.length + a ≤ b) → z - b < n9 → ∀ (H : Heap) (locs : List Loc), HS Z gs va w H locs → ∀ ls : Array Slot, lv_has ls 1 [(0, .ref (zg Z 116))] → W gp gl ge (rmm 10 215) gs gm ga gb gh gc H locs 0 0 (MQ gb (Qi Z (fun r u => r = bI (rdE t z 1 a).1 ∧ (u.1, w) = u ∧ PR t z c 3 v u.1 (rdE t z 1 a))) ga gs 0 0 (zA Z)) (F0 gm 9 ls []) := by
      intro n9
      induction n9 with
      | zero => intro f b l va e hf hPa hTa hFa hll hmu; exact absurd hmu (Nat.not_lt_zero _)
      | succ n9 ih9 =>
        intro f b l va e hf hPa hTa hFa hll hmu9 H locs h ls hl
        refine lv_aload_n hx hb dX8_isE_9 rfl (lv_at hl 0 rfl) ?_
        refine lv_bipush (v := 124) hx hb dX8_isE_10 (by decide) ?_
        refine g_ki h (g_runV X h (As := [.int 124]) (rest := []) (c_X8_is gl Z va w 124 b z hPa.2.2.1 hPa.2.1 hPa.2.2.2.2.2.2.1 hPa.2.2.2.2.2.1) mi_X8_is ml_RX8_167 (cc_116) (by decide) kl8 rfl ⟨Nat.le_of_ble_eq_true rfl, Nat.le_of_ble_eq_true rfl⟩ rfl hl.1 rfl (Nat.le_of_ble_eq_true rfl) dX8_isE_12) (fun r12 v12 w12 H locs hp12 h => ?_)
        obtain ⟨hr12, hu12⟩ := hp12
        obtain ⟨hv12, rfl⟩ := Prod.mk.inj hu12
        rw [hPa.1] at hr12 hv12
        refine lv_if_eq (tgt := 35) hx hb dX8_isE_15 (by decide) (fun c_15 => ?_) (fun c_15 => ?_)
        · skip
          rw [hr12, bI_0] at c_15
          rw [c_15, if_neg (by decide)] at hv12
          refine lv_iconst (v := 1) hx hb dX8_isE_35 (by decide) ?_
          exact g_nret X h dX8_isE_36 rfl (rd_out (e.trans (rdL_s c_15)) rfl (rd_yes (by rw [← hv12]; exact hFa) (by rw [← hv12]; exact hPa) (by rw [← hv12]; exact hTa)))
        · skip
          rw [hr12, bI_n] at c_15
          rw [if_pos c_15] at hv12
          have hlt := isAt_lt c_15
          have hP12 : PS v12 t z (b + 1) (c + l.length) 3 := by rw [← hv12]; exact PS_at hPa (by omega) hlt
          refine lv_aload_n hx hb dX8_isE_18 rfl (lv_at hl 0 rfl) ?_
          refine g_ki h (g_runV X h (As := []) (rest := []) (c_X8_isT_1 gl Z v12 w t z (b + 1) (c + l.length) hP12) mi_X8_isT ml_RX8_201 (cc_116) (by decide) kl8 rfl ⟨Nat.le_of_ble_eq_true rfl, Nat.le_of_ble_eq_true rfl⟩ rfl hl.1 rfl (Nat.le_of_ble_eq_true rfl) dX8_isE_19) (fun r19 v19 w19 H locs hp19 h => ?_)
          obtain ⟨hr19, hu19, hq19⟩ := hp19
          obtain ⟨-, rfl⟩ := Prod.mk.inj hu19
          replace hq19 : PR t z _ _ _ v19 _ := hq19
          refine lv_if_eq (tgt := 33) hx hb dX8_isE_22 (by decide) (fun c_22 => ?_) (fun c_22 => ?_)
          · skip
            rw [hr19, bI_0] at c_22
            refine lv_iconst (v := 0) hx hb dX8_isE_33 (by decide) ?_
            exact g_nret X h dX8_isE_34 rfl (rd_out (e.trans (rdL_n c_15 hf c_22)) rfl (rd_no (PF_trans (by rw [← hv12]; exact PF_up hFa (by decide)) hq19.1 (by omega)) hq19.2.1))
          · skip
            rw [hr19, bI_n] at c_22
            obtain ⟨g1, g2, g3⟩ := rdA_G t z 1 (b + 1) hlt
            obtain ⟨g4, g5⟩ := g3 c_22
            have hcb := hP.2.2.2.2.2.2.2
            refine lv_aload_n hx hb dX8_isE_25 rfl (lv_at hl 0 rfl) ?_
            refine lv_iconst (v := 1) hx hb dX8_isE_26 (by decide) ?_
            refine g_ki h (g_runV X h (As := [.int 1]) (rest := []) (c_X8_codes gl Z v19 w 1 (c + l.length + (rdA t z 1 (b + 1)).2.2.length) (hq19.2.2 c_22).1.2.2.2.1 (by omega)) mi_X8_codes ml_RX8_183 (cc_116) (by decide) kl8 rfl ⟨Nat.le_of_ble_eq_true rfl, Nat.le_of_ble_eq_true rfl⟩ rfl hl.1 rfl (Nat.le_of_ble_eq_true rfl) dX8_isE_27) (fun r27 v27 w27 H locs hp27 h => ?_)
            obtain ⟨hr27, hu27⟩ := hp27
            obtain ⟨hv27, rfl⟩ := Prod.mk.inj hu27
            refine lv_if_ne (tgt := 9) hx hb dX8_isE_30 (by decide) (fun c_30 => ?_) (fun c_30 => ?_)
            · skip
              obtain ⟨s1, s2, s3⟩ := rd_step (s := 1) hPa hTa hFa hlt hv12 hq19 c_22 hll hcb g2 g5
              exact ih9 (f - 1) (rdA t z 1 (b + 1)).2.1 (l ++ (rdA t z 1 (b + 1)).2.2 ++ [1]) v27 (e.trans (rdL_y c_15 hf c_22)) (by omega) (by rw [← hv27]; exact s1) (by rw [← hv27]; exact s2) (by rw [← hv27]; exact s3) (by simp only [List.length_append, List.length_singleton]; omega) (by omega) _ _ h ls (lv_sub hl [0] rfl)
            · exact absurd c_30 (by rw [hr27]; decide)
    exact L9 (z - (rdA t z 1 a).2.1 + 1) (z - (rdA t z 1 a).2.1) (rdA t z 1 a).2.1 (rdA t z 1 a).2.2 v1 (rdT_y c_4) (Nat.le_refl _) hP1 hT1 hq1.1 g5 (Nat.lt_succ_self _) _ _ h ls (lv_sub hl [0] rfl)
  · skip
    rw [hr1, bI_0] at c_4
    refine lv_iconst (v := 0) hx hb dX8_isE_7 (by decide) ?_
    exact g_nret X h dX8_isE_8 rfl (rd_out (rdT_n c_4) rfl (rd_no hq1.1 hq1.2.1))

set_option maxRecDepth 100000 in
set_option maxHeartbeats 1000000 in
theorem c_X8_isF_2 (gl : Launch) (Z : PL) (v : VV) (w : WV) (t : Nat → Int32) (z : Nat) (a : Nat) (c : Nat) (hP : PS v t z a c 2) : CT gl yX8_isF cX8_isF 2 (some .boolean) 11 235 Z [.ref (zg Z 116)] v w (Qi Z (fun r u => r = bI (rdF t z 2 a).1 ∧ (u.1, w) = u ∧ PR t z c 2 v u.1 (rdF t z 2 a))) := by
  refine g_met (by decide) (Nat.le_of_ble_eq_true rfl) ?_
  intro gp ge gs gm ga gb gh gc X h ls hl
  have hx := X.1
  have hb := X.2.1
  have hl : lv_has ls 2 [(0, .ref (zg Z 116))] := hl
  refine lv_aload_n hx hb dX8_isF_0 rfl (lv_at hl 0 rfl) ?_
  refine lv_bipush (v := 33) hx hb dX8_isF_1 (by decide) ?_
  refine g_ki h (g_runV X h (As := [.int 33]) (rest := []) (c_X8_opens gl Z v w 33 2 hP.2.2.2.2.1 (by decide) a z hP.2.2.1 hP.2.1 hP.2.2.2.2.2.2.1 hP.2.2.2.2.2.1) mi_X8_opens ml_RX8_189 (cc_116) (by decide) kl8 rfl ⟨Nat.le_of_ble_eq_true rfl, Nat.le_of_ble_eq_true rfl⟩ rfl hl.1 rfl (Nat.le_of_ble_eq_true rfl) dX8_isF_3) (fun r3 v3 w3 H locs hp3 h => ?_)
  obtain ⟨hr3, hu3⟩ := hp3
  obtain ⟨hv3, rfl⟩ := Prod.mk.inj hu3
  rw [hP.1] at hr3 hv3
  refine lv_if_eq (tgt := 33) hx hb dX8_isF_6 (by decide) (fun c_6 => ?_) (fun c_6 => ?_)
  · skip
    rw [hr3, bI_0] at c_6
    rw [if_neg (by rw [c_6]; decide)] at hv3
    have e3 : v3 = v := hv3.symm
    have hP3 : PS v3 t z a c 2 := by rw [e3]; exact hP
    have hf33 : isAt t z a 33 = false := by simpa using c_6
    refine lv_aload_n hx hb dX8_isF_33 rfl (lv_at hl 0 rfl) ?_
    refine lv_bipush (v := 40) hx hb dX8_isF_34 (by decide) ?_
    refine g_ki h (g_runV X h (As := [.int 40]) (rest := []) (c_X8_opens gl Z v3 w 40 2 hP3.2.2.2.2.1 (by decide) a z hP3.2.2.1 hP3.2.1 hP3.2.2.2.2.2.2.1 hP3.2.2.2.2.2.1) mi_X8_opens ml_RX8_189 (cc_116) (by decide) kl8 rfl ⟨Nat.le_of_ble_eq_true rfl, Nat.le_of_ble_eq_true rfl⟩ rfl hl.1 rfl (Nat.le_of_ble_eq_true rfl) dX8_isF_36) (fun r36 v36 w36 H locs hp36 h => ?_)
    obtain ⟨hr36, hu36⟩ := hp36
    obtain ⟨hv36, rfl⟩ := Prod.mk.inj hu36
    rw [hP3.1] at hr36 hv36
    refine lv_if_eq (tgt := 67) hx hb dX8_isF_39 (by decide) (fun c_39 => ?_) (fun c_39 => ?_)
    · skip
      rw [hr36, bI_0] at c_39
      rw [if_neg (by rw [c_39]; decide)] at hv36
      have e36 : v36 = v3 := hv36.symm
      have hP36 : PS v36 t z a c 2 := by rw [e36]; exact hP3
      have hf40 : isAt t z a 40 = false := by simpa using c_39
      refine lv_aload_n hx hb dX8_isF_67 rfl (lv_at hl 0 rfl) ?_
      refine g_ki h (g_runV X h (As := []) (rest := []) (c_X8_isTest gl Z v36 w t z a c 2 hP36) mi_X8_isTest ml_RX8_198 (cc_116) (by decide) kl8 rfl ⟨Nat.le_of_ble_eq_true rfl, Nat.le_of_ble_eq_true rfl⟩ rfl hl.1 rfl (Nat.le_of_ble_eq_true rfl) dX8_isF_68) (fun r68 v68 w68 H locs hp68 h => ?_)
      obtain ⟨hr68, hu68, hq68⟩ := hp68
      obtain ⟨-, rfl⟩ := Prod.mk.inj hu68
      replace hq68 : PR t z _ _ _ v68 _ := hq68
      exact g_nret X h dX8_isF_71 (by rw [hr68]; exact nar_bI _) (rd_out (rdF_t (d := 1) hf33 hf40) hr68 (by rw [e36, e3] at hq68; exact hq68))
    · skip
      rw [hr36, bI_n] at c_39
      rw [if_pos c_39] at hv36
      have hat : isAt t z a 40 = true := by simpa using c_39
      have hP36 : PS v36 t z (a + 1) c 3 := by rw [← hv36]; exact PS_open hP3 (isAt_lt hat)
      have hF36 : PF c v v36 := by rw [← hv36, e3]; exact PF_up (PF_up (PF_refl _ _) (by decide)) (by decide)
      refine lv_aload_n hx hb dX8_isF_42 rfl (lv_at hl 0 rfl) ?_
      refine g_ki h (g_runV X h (As := []) (rest := []) (c_X8_isE_1 gl Z v36 w t z (a + 1) c hP36) mi_X8_isE ml_RX8_195 (cc_116) (by decide) kl8 rfl ⟨Nat.le_of_ble_eq_true rfl, Nat.le_of_ble_eq_true rfl⟩ rfl hl.1 rfl (Nat.le_of_ble_eq_true rfl) dX8_isF_43) (fun r43 v43 w43 H locs hp43 h => ?_)
      obtain ⟨hr43, hu43, hq43⟩ := hp43
      obtain ⟨-, rfl⟩ := Prod.mk.inj hu43
      replace hq43 : PR t z _ _ _ v43 _ := hq43
      refine lv_if_eq (tgt := 62) hx hb dX8_isF_46 (by decide) (fun c_46 => ?_) (fun c_46 => ?_)
      · skip
        rw [hr43, bI_0] at c_46
        refine lv_iconst (v := 0) hx hb dX8_isF_62 (by decide) ?_
        refine lv_istore_n (lv' := [(1, .int 0), (0, .ref (zg Z 116))]) hx hb dX8_isF_63 rfl hl (by decide) rfl (fun ls hl => ?_)
        refine lv_goto (tgt := 72) hx hb dX8_isF_64 (by decide) ?_
        refine lv_aload_n hx hb dX8_isF_72 rfl (lv_at hl 1 rfl) ?_
        refine lv_dup hx hb dX8_isF_73 rfl ?_
        refine g_geti X h (k := 24) (cc_116) fr_RX8_186 rfl (by decide) dX8_isF_74 ?_
        refine lv_iconst (v := 1) hx hb dX8_isF_77 (by decide) ?_
        refine lv_isub hx hb dX8_isF_78 ?_
        refine g_puti X h (k := 24) (cc_116) fp_RX8_186 rfl (by decide) dX8_isF_79 (fun v79 H locs ev79 h => ?_)
        refine lv_iload_n hx hb dX8_isF_82 rfl (lv_at hl 0 rfl) ?_
        exact g_nret X h dX8_isF_83 rfl (rd_out (rdF_pn (d := 1) hf33 hat c_46) rfl (rd_no (by rw [ev79]; exact PF_up (PF_trans hF36 hq43.1 (Nat.le_refl _)) (by decide)) (by show v79 116 23 = _; rw [ev79, up24_23]; exact hq43.2.1)))
      · skip
        rw [hr43, bI_n] at c_46
        obtain ⟨hP43, hT43⟩ := hq43.2.2 c_46
        refine lv_aload_n hx hb dX8_isF_49 rfl (lv_at hl 0 rfl) ?_
        refine lv_bipush (v := 41) hx hb dX8_isF_50 (by decide) ?_
        refine g_ki h (g_runV X h (As := [.int 41]) (rest := []) (c_X8_is gl Z v43 w 41 ((rdE t z 1 (a + 1)).2.1) z hP43.2.2.1 hP43.2.1 hP43.2.2.2.2.2.2.1 hP43.2.2.2.2.2.1) mi_X8_is ml_RX8_167 (cc_116) (by decide) kl8 rfl ⟨Nat.le_of_ble_eq_true rfl, Nat.le_of_ble_eq_true rfl⟩ rfl hl.1 rfl (Nat.le_of_ble_eq_true rfl) dX8_isF_52) (fun r52 v52 w52 H locs hp52 h => ?_)
        obtain ⟨hr52, hu52⟩ := hp52
        obtain ⟨hv52, rfl⟩ := Prod.mk.inj hu52
        rw [hP43.1] at hr52 hv52
        refine lv_if_eq (tgt := 62) hx hb dX8_isF_55 (by decide) (fun c_55 => ?_) (fun c_55 => ?_)
        · skip
          rw [hr52, bI_0] at c_55
          rw [c_55, if_neg (by decide)] at hv52
          refine lv_iconst (v := 0) hx hb dX8_isF_62 (by decide) ?_
          refine lv_istore_n (lv' := [(1, .int 0), (0, .ref (zg Z 116))]) hx hb dX8_isF_63 rfl hl (by decide) rfl (fun ls hl => ?_)
          refine lv_goto (tgt := 72) hx hb dX8_isF_64 (by decide) ?_
          refine lv_aload_n hx hb dX8_isF_72 rfl (lv_at hl 1 rfl) ?_
          refine lv_dup hx hb dX8_isF_73 rfl ?_
          refine g_geti X h (k := 24) (cc_116) fr_RX8_186 rfl (by decide) dX8_isF_74 ?_
          refine lv_iconst (v := 1) hx hb dX8_isF_77 (by decide) ?_
          refine lv_isub hx hb dX8_isF_78 ?_
          refine g_puti X h (k := 24) (cc_116) fp_RX8_186 rfl (by decide) dX8_isF_79 (fun v79 H locs ev79 h => ?_)
          refine lv_iload_n hx hb dX8_isF_82 rfl (lv_at hl 0 rfl) ?_
          exact g_nret X h dX8_isF_83 rfl (rd_out (rdF_pm (d := 1) hf33 hat c_46 c_55) rfl (rd_no (by rw [ev79]; exact PF_up (by rw [← hv52]; exact PF_trans hF36 hq43.1 (Nat.le_refl _)) (by decide)) (by show v79 116 23 = _; rw [ev79, up24_23, ← hv52]; exact hq43.2.1)))
        · skip
          rw [hr52, bI_n] at c_55
          rw [if_pos c_55] at hv52
          refine lv_iconst (v := 1) hx hb dX8_isF_58 (by decide) ?_
          refine lv_goto (tgt := 63) hx hb dX8_isF_59 (by decide) ?_
          refine lv_istore_n (lv' := [(1, .int 1), (0, .ref (zg Z 116))]) hx hb dX8_isF_63 rfl hl (by decide) rfl (fun ls hl => ?_)
          refine lv_goto (tgt := 72) hx hb dX8_isF_64 (by decide) ?_
          refine lv_aload_n hx hb dX8_isF_72 rfl (lv_at hl 1 rfl) ?_
          refine lv_dup hx hb dX8_isF_73 rfl ?_
          refine g_geti X h (k := 24) (cc_116) fr_RX8_186 rfl (by decide) dX8_isF_74 ?_
          refine lv_iconst (v := 1) hx hb dX8_isF_77 (by decide) ?_
          refine lv_isub hx hb dX8_isF_78 ?_
          refine g_puti X h (k := 24) (cc_116) fp_RX8_186 rfl (by decide) dX8_isF_79 (fun v79 H locs ev79 h => ?_)
          refine lv_iload_n hx hb dX8_isF_82 rfl (lv_at hl 0 rfl) ?_
          exact g_nret X h dX8_isF_83 rfl (rd_out (rdF_py (d := 1) hf33 hat c_46 c_55) rfl (rd_yes (by rw [ev79]; exact PF_up (by rw [← hv52]; exact PF_up (PF_trans hF36 hq43.1 (Nat.le_refl _)) (by decide)) (by decide)) (by rw [ev79, ← hv52]; exact PS_close (PS_at hP43 (by omega) (isAt_lt c_55))) (by rw [ev79, ← hv52]; exact TK_up (TK_up hT43))))
  · skip
    rw [hr3, bI_n] at c_6
    rw [if_pos c_6] at hv3
    have hat : isAt t z a 33 = true := by simpa using c_6
    have hP3 : PS v3 t z (a + 1) c 3 := by rw [← hv3]; exact PS_open hP (isAt_lt hat)
    have hF3 : PF c v v3 := by rw [← hv3]; exact PF_up (PF_up (PF_refl _ _) (by decide)) (by decide)
    refine lv_aload_n hx hb dX8_isF_9 rfl (lv_at hl 0 rfl) ?_
    refine g_ki h (g_runV X h (As := []) (rest := []) (c_X8_isF_1 gl Z v3 w t z (a + 1) c hP3) mi_X8_isF ml_RX8_192 (cc_116) (by decide) kl8 rfl ⟨Nat.le_of_ble_eq_true rfl, Nat.le_of_ble_eq_true rfl⟩ rfl hl.1 rfl (Nat.le_of_ble_eq_true rfl) dX8_isF_10) (fun r10 v10 w10 H locs hp10 h => ?_)
    obtain ⟨hr10, hu10, hq10⟩ := hp10
    obtain ⟨-, rfl⟩ := Prod.mk.inj hu10
    replace hq10 : PR t z _ _ _ v10 _ := hq10
    refine lv_if_eq (tgt := 28) hx hb dX8_isF_13 (by decide) (fun c_13 => ?_) (fun c_13 => ?_)
    · skip
      rw [hr10, bI_0] at c_13
      refine lv_iconst (v := 0) hx hb dX8_isF_28 (by decide) ?_
      refine lv_istore_n (lv' := [(1, .int 0), (0, .ref (zg Z 116))]) hx hb dX8_isF_29 rfl hl (by decide) rfl (fun ls hl => ?_)
      refine lv_goto (tgt := 72) hx hb dX8_isF_30 (by decide) ?_
      refine lv_aload_n hx hb dX8_isF_72 rfl (lv_at hl 1 rfl) ?_
      refine lv_dup hx hb dX8_isF_73 rfl ?_
      refine g_geti X h (k := 24) (cc_116) fr_RX8_186 rfl (by decide) dX8_isF_74 ?_
      refine lv_iconst (v := 1) hx hb dX8_isF_77 (by decide) ?_
      refine lv_isub hx hb dX8_isF_78 ?_
      refine g_puti X h (k := 24) (cc_116) fp_RX8_186 rfl (by decide) dX8_isF_79 (fun v79 H locs ev79 h => ?_)
      refine lv_iload_n hx hb dX8_isF_82 rfl (lv_at hl 0 rfl) ?_
      exact g_nret X h dX8_isF_83 rfl (rd_out (rdF_n (d := 1) hat c_13) rfl (rd_no (by rw [ev79]; exact PF_up (PF_trans hF3 hq10.1 (Nat.le_refl _)) (by decide)) (by show v79 116 23 = _; rw [ev79, up24_23]; exact hq10.2.1)))
    · skip
      rw [hr10, bI_n] at c_13
      obtain ⟨hP10, hT10⟩ := hq10.2.2 c_13
      obtain ⟨g1, g2, g3⟩ := rdF_G t z 1 (a + 1) (isAt_lt hat)
      obtain ⟨g4, g5⟩ := g3 c_13
      have hcb := hP.2.2.2.2.2.2.2
      refine lv_aload_n hx hb dX8_isF_16 rfl (lv_at hl 0 rfl) ?_
      refine lv_iconst (v := 2) hx hb dX8_isF_17 (by decide) ?_
      refine g_ki h (g_runV X h (As := [.int 2]) (rest := []) (c_X8_codes gl Z v10 w 2 (c + (rdF t z 1 (a + 1)).2.2.length) hP10.2.2.2.1 (by omega)) mi_X8_codes ml_RX8_183 (cc_116) (by decide) kl8 rfl ⟨Nat.le_of_ble_eq_true rfl, Nat.le_of_ble_eq_true rfl⟩ rfl hl.1 rfl (Nat.le_of_ble_eq_true rfl) dX8_isF_18) (fun r18 v18 w18 H locs hp18 h => ?_)
      obtain ⟨hr18, hu18⟩ := hp18
      obtain ⟨hv18, rfl⟩ := Prod.mk.inj hu18
      refine lv_if_eq (tgt := 28) hx hb dX8_isF_21 (by decide) (fun c_21 => ?_) (fun c_21 => ?_)
      · exact absurd c_21 (by rw [hr18]; decide)
      · skip
        refine lv_iconst (v := 1) hx hb dX8_isF_24 (by decide) ?_
        refine lv_goto (tgt := 29) hx hb dX8_isF_25 (by decide) ?_
        refine lv_istore_n (lv' := [(1, .int 1), (0, .ref (zg Z 116))]) hx hb dX8_isF_29 rfl hl (by decide) rfl (fun ls hl => ?_)
        refine lv_goto (tgt := 72) hx hb dX8_isF_30 (by decide) ?_
        refine lv_aload_n hx hb dX8_isF_72 rfl (lv_at hl 1 rfl) ?_
        refine lv_dup hx hb dX8_isF_73 rfl ?_
        refine g_geti X h (k := 24) (cc_116) fr_RX8_186 rfl (by decide) dX8_isF_74 ?_
        refine lv_iconst (v := 1) hx hb dX8_isF_77 (by decide) ?_
        refine lv_isub hx hb dX8_isF_78 ?_
        refine g_puti X h (k := 24) (cc_116) fp_RX8_186 rfl (by decide) dX8_isF_79 (fun v79 H locs ev79 h => ?_)
        refine lv_iload_n hx hb dX8_isF_82 rfl (lv_at hl 0 rfl) ?_
        exact g_nret X h dX8_isF_83 rfl (rd_out (rdF_y (d := 1) hat c_13) rfl (rd_yes (by rw [ev79]; exact PF_up (by rw [← hv18]; exact PF_code (PF_up (PF_trans hF3 hq10.1 (Nat.le_refl _)) (by decide)) (by omega)) (by decide)) (by rw [ev79, ← hv18]; exact PS_close (PS_len (PS_code hP10 (by omega)))) (by rw [ev79, ← hv18]; exact TK_up (TK_snoc hT10))))

set_option maxRecDepth 100000 in
set_option maxHeartbeats 1000000 in
theorem c_X8_isT_2 (gl : Launch) (Z : PL) (v : VV) (w : WV) (t : Nat → Int32) (z : Nat) (a : Nat) (c : Nat) (hP : PS v t z a c 2) : CT gl yX8_isT cX8_isT 1 (some .boolean) 12 256 Z [.ref (zg Z 116)] v w (Qi Z (fun r u => r = bI (rdA t z 2 a).1 ∧ (u.1, w) = u ∧ PR t z c 2 v u.1 (rdA t z 2 a))) := by
  refine g_met (by decide) (Nat.le_of_ble_eq_true rfl) ?_
  intro gp ge gs gm ga gb gh gc X h ls hl
  have hx := X.1
  have hb := X.2.1
  have hl : lv_has ls 1 [(0, .ref (zg Z 116))] := hl
  refine lv_aload_n hx hb dX8_isT_0 rfl (lv_at hl 0 rfl) ?_
  refine g_ki h (g_runV X h (As := []) (rest := []) (c_X8_isF_2 gl Z v w t z a c hP) mi_X8_isF ml_RX8_192 (cc_116) (by decide) kl8 rfl ⟨Nat.le_of_ble_eq_true rfl, Nat.le_of_ble_eq_true rfl⟩ rfl hl.1 rfl (Nat.le_of_ble_eq_true rfl) dX8_isT_1) (fun r1 v1 w1 H locs hp1 h => ?_)
  obtain ⟨hr1, hu1, hq1⟩ := hp1
  obtain ⟨-, rfl⟩ := Prod.mk.inj hu1
  replace hq1 : PR t z _ _ _ v1 _ := hq1
  refine lv_if_ne (tgt := 9) hx hb dX8_isT_4 (by decide) (fun c_4 => ?_) (fun c_4 => ?_)
  · skip
    rw [hr1, bI_n] at c_4
    obtain ⟨hP1, hT1⟩ := hq1.2.2 c_4
    obtain ⟨g1, g2, g3⟩ := rdF_G t z 2 a hP.2.2.2.2.2.2.1
    obtain ⟨g4, g5⟩ := g3 c_4
    have L9 : ∀ (n9 : Nat) (f b : Nat) (l : List Nat) (va : VV), (rdA t z 2 a = rdL (rdF t z 2) t z 38 0 f b l) → (z - b ≤ f) → (PS va t z b (c + l.length) 2) → (TK va c l) → (PF c v va) → (l.length + a ≤ b) → z - b < n9 → ∀ (H : Heap) (locs : List Loc), HS Z gs va w H locs → ∀ ls : Array Slot, lv_has ls 1 [(0, .ref (zg Z 116))] → W gp gl ge (rmm 12 256) gs gm ga gb gh gc H locs 0 0 (MQ gb (Qi Z (fun r u => r = bI (rdA t z 2 a).1 ∧ (u.1, w) = u ∧ PR t z c 2 v u.1 (rdA t z 2 a))) ga gs 0 0 (zA Z)) (F0 gm 9 ls []) := by
      intro n9
      induction n9 with
      | zero => intro f b l va e hf hPa hTa hFa hll hmu; exact absurd hmu (Nat.not_lt_zero _)
      | succ n9 ih9 =>
        intro f b l va e hf hPa hTa hFa hll hmu9 H locs h ls hl
        refine lv_aload_n hx hb dX8_isT_9 rfl (lv_at hl 0 rfl) ?_
        refine lv_bipush (v := 38) hx hb dX8_isT_10 (by decide) ?_
        refine g_ki h (g_runV X h (As := [.int 38]) (rest := []) (c_X8_is gl Z va w 38 b z hPa.2.2.1 hPa.2.1 hPa.2.2.2.2.2.2.1 hPa.2.2.2.2.2.1) mi_X8_is ml_RX8_167 (cc_116) (by decide) kl8 rfl ⟨Nat.le_of_ble_eq_true rfl, Nat.le_of_ble_eq_true rfl⟩ rfl hl.1 rfl (Nat.le_of_ble_eq_true rfl) dX8_isT_12) (fun r12 v12 w12 H locs hp12 h => ?_)
        obtain ⟨hr12, hu12⟩ := hp12
        obtain ⟨hv12, rfl⟩ := Prod.mk.inj hu12
        rw [hPa.1] at hr12 hv12
        refine lv_if_eq (tgt := 35) hx hb dX8_isT_15 (by decide) (fun c_15 => ?_) (fun c_15 => ?_)
        · skip
          rw [hr12, bI_0] at c_15
          rw [c_15, if_neg (by decide)] at hv12
          refine lv_iconst (v := 1) hx hb dX8_isT_35 (by decide) ?_
          exact g_nret X h dX8_isT_36 rfl (rd_out (e.trans (rdL_s c_15)) rfl (rd_yes (by rw [← hv12]; exact hFa) (by rw [← hv12]; exact hPa) (by rw [← hv12]; exact hTa)))
        · skip
          rw [hr12, bI_n] at c_15
          rw [if_pos c_15] at hv12
          have hlt := isAt_lt c_15
          have hP12 : PS v12 t z (b + 1) (c + l.length) 2 := by rw [← hv12]; exact PS_at hPa (by omega) hlt
          refine lv_aload_n hx hb dX8_isT_18 rfl (lv_at hl 0 rfl) ?_
          refine g_ki h (g_runV X h (As := []) (rest := []) (c_X8_isF_2 gl Z v12 w t z (b + 1) (c + l.length) hP12) mi_X8_isF ml_RX8_192 (cc_116) (by decide) kl8 rfl ⟨Nat.le_of_ble_eq_true rfl, Nat.le_of_ble_eq_true rfl⟩ rfl hl.1 rfl (Nat.le_of_ble_eq_true rfl) dX8_isT_19) (fun r19 v19 w19 H locs hp19 h => ?_)
          obtain ⟨hr19, hu19, hq19⟩ := hp19
          obtain ⟨-, rfl⟩ := Prod.mk.inj hu19
          replace hq19 : PR t z _ _ _ v19 _ := hq19
          refine lv_if_eq (tgt := 33) hx hb dX8_isT_22 (by decide) (fun c_22 => ?_) (fun c_22 => ?_)
          · skip
            rw [hr19, bI_0] at c_22
            refine lv_iconst (v := 0) hx hb dX8_isT_33 (by decide) ?_
            exact g_nret X h dX8_isT_34 rfl (rd_out (e.trans (rdL_n c_15 hf c_22)) rfl (rd_no (PF_trans (by rw [← hv12]; exact PF_up hFa (by decide)) hq19.1 (by omega)) hq19.2.1))
          · skip
            rw [hr19, bI_n] at c_22
            obtain ⟨g1, g2, g3⟩ := rdF_G t z 2 (b + 1) hlt
            obtain ⟨g4, g5⟩ := g3 c_22
            have hcb := hP.2.2.2.2.2.2.2
            refine lv_aload_n hx hb dX8_isT_25 rfl (lv_at hl 0 rfl) ?_
            refine lv_iconst (v := 0) hx hb dX8_isT_26 (by decide) ?_
            refine g_ki h (g_runV X h (As := [.int 0]) (rest := []) (c_X8_codes gl Z v19 w 0 (c + l.length + (rdF t z 2 (b + 1)).2.2.length) (hq19.2.2 c_22).1.2.2.2.1 (by omega)) mi_X8_codes ml_RX8_183 (cc_116) (by decide) kl8 rfl ⟨Nat.le_of_ble_eq_true rfl, Nat.le_of_ble_eq_true rfl⟩ rfl hl.1 rfl (Nat.le_of_ble_eq_true rfl) dX8_isT_27) (fun r27 v27 w27 H locs hp27 h => ?_)
            obtain ⟨hr27, hu27⟩ := hp27
            obtain ⟨hv27, rfl⟩ := Prod.mk.inj hu27
            refine lv_if_ne (tgt := 9) hx hb dX8_isT_30 (by decide) (fun c_30 => ?_) (fun c_30 => ?_)
            · skip
              obtain ⟨s1, s2, s3⟩ := rd_step (s := 0) hPa hTa hFa hlt hv12 hq19 c_22 hll hcb g2 g5
              exact ih9 (f - 1) (rdF t z 2 (b + 1)).2.1 (l ++ (rdF t z 2 (b + 1)).2.2 ++ [0]) v27 (e.trans (rdL_y c_15 hf c_22)) (by omega) (by rw [← hv27]; exact s1) (by rw [← hv27]; exact s2) (by rw [← hv27]; exact s3) (by simp only [List.length_append, List.length_singleton]; omega) (by omega) _ _ h ls (lv_sub hl [0] rfl)
            · exact absurd c_30 (by rw [hr27]; decide)
    exact L9 (z - (rdF t z 2 a).2.1 + 1) (z - (rdF t z 2 a).2.1) (rdF t z 2 a).2.1 (rdF t z 2 a).2.2 v1 (rdT_y c_4) (Nat.le_refl _) hP1 hT1 hq1.1 g5 (Nat.lt_succ_self _) _ _ h ls (lv_sub hl [0] rfl)
  · skip
    rw [hr1, bI_0] at c_4
    refine lv_iconst (v := 0) hx hb dX8_isT_7 (by decide) ?_
    exact g_nret X h dX8_isT_8 rfl (rd_out (rdT_n c_4) rfl (rd_no hq1.1 hq1.2.1))

set_option maxRecDepth 100000 in
set_option maxHeartbeats 1000000 in
theorem c_X8_isE_2 (gl : Launch) (Z : PL) (v : VV) (w : WV) (t : Nat → Int32) (z : Nat) (a : Nat) (c : Nat) (hP : PS v t z a c 2) : CT gl yX8_isE cX8_isE 1 (some .boolean) 13 276 Z [.ref (zg Z 116)] v w (Qi Z (fun r u => r = bI (rdE t z 2 a).1 ∧ (u.1, w) = u ∧ PR t z c 2 v u.1 (rdE t z 2 a))) := by
  refine g_met (by decide) (Nat.le_of_ble_eq_true rfl) ?_
  intro gp ge gs gm ga gb gh gc X h ls hl
  have hx := X.1
  have hb := X.2.1
  have hl : lv_has ls 1 [(0, .ref (zg Z 116))] := hl
  refine lv_aload_n hx hb dX8_isE_0 rfl (lv_at hl 0 rfl) ?_
  refine g_ki h (g_runV X h (As := []) (rest := []) (c_X8_isT_2 gl Z v w t z a c hP) mi_X8_isT ml_RX8_201 (cc_116) (by decide) kl8 rfl ⟨Nat.le_of_ble_eq_true rfl, Nat.le_of_ble_eq_true rfl⟩ rfl hl.1 rfl (Nat.le_of_ble_eq_true rfl) dX8_isE_1) (fun r1 v1 w1 H locs hp1 h => ?_)
  obtain ⟨hr1, hu1, hq1⟩ := hp1
  obtain ⟨-, rfl⟩ := Prod.mk.inj hu1
  replace hq1 : PR t z _ _ _ v1 _ := hq1
  refine lv_if_ne (tgt := 9) hx hb dX8_isE_4 (by decide) (fun c_4 => ?_) (fun c_4 => ?_)
  · skip
    rw [hr1, bI_n] at c_4
    obtain ⟨hP1, hT1⟩ := hq1.2.2 c_4
    obtain ⟨g1, g2, g3⟩ := rdA_G t z 2 a hP.2.2.2.2.2.2.1
    obtain ⟨g4, g5⟩ := g3 c_4
    have L9 : ∀ (n9 : Nat) (f b : Nat) (l : List Nat) (va : VV), (rdE t z 2 a = rdL (rdA t z 2) t z 124 1 f b l) → (z - b ≤ f) → (PS va t z b (c + l.length) 2) → (TK va c l) → (PF c v va) → (l.length + a ≤ b) → z - b < n9 → ∀ (H : Heap) (locs : List Loc), HS Z gs va w H locs → ∀ ls : Array Slot, lv_has ls 1 [(0, .ref (zg Z 116))] → W gp gl ge (rmm 13 276) gs gm ga gb gh gc H locs 0 0 (MQ gb (Qi Z (fun r u => r = bI (rdE t z 2 a).1 ∧ (u.1, w) = u ∧ PR t z c 2 v u.1 (rdE t z 2 a))) ga gs 0 0 (zA Z)) (F0 gm 9 ls []) := by
      intro n9
      induction n9 with
      | zero => intro f b l va e hf hPa hTa hFa hll hmu; exact absurd hmu (Nat.not_lt_zero _)
      | succ n9 ih9 =>
        intro f b l va e hf hPa hTa hFa hll hmu9 H locs h ls hl
        refine lv_aload_n hx hb dX8_isE_9 rfl (lv_at hl 0 rfl) ?_
        refine lv_bipush (v := 124) hx hb dX8_isE_10 (by decide) ?_
        refine g_ki h (g_runV X h (As := [.int 124]) (rest := []) (c_X8_is gl Z va w 124 b z hPa.2.2.1 hPa.2.1 hPa.2.2.2.2.2.2.1 hPa.2.2.2.2.2.1) mi_X8_is ml_RX8_167 (cc_116) (by decide) kl8 rfl ⟨Nat.le_of_ble_eq_true rfl, Nat.le_of_ble_eq_true rfl⟩ rfl hl.1 rfl (Nat.le_of_ble_eq_true rfl) dX8_isE_12) (fun r12 v12 w12 H locs hp12 h => ?_)
        obtain ⟨hr12, hu12⟩ := hp12
        obtain ⟨hv12, rfl⟩ := Prod.mk.inj hu12
        rw [hPa.1] at hr12 hv12
        refine lv_if_eq (tgt := 35) hx hb dX8_isE_15 (by decide) (fun c_15 => ?_) (fun c_15 => ?_)
        · skip
          rw [hr12, bI_0] at c_15
          rw [c_15, if_neg (by decide)] at hv12
          refine lv_iconst (v := 1) hx hb dX8_isE_35 (by decide) ?_
          exact g_nret X h dX8_isE_36 rfl (rd_out (e.trans (rdL_s c_15)) rfl (rd_yes (by rw [← hv12]; exact hFa) (by rw [← hv12]; exact hPa) (by rw [← hv12]; exact hTa)))
        · skip
          rw [hr12, bI_n] at c_15
          rw [if_pos c_15] at hv12
          have hlt := isAt_lt c_15
          have hP12 : PS v12 t z (b + 1) (c + l.length) 2 := by rw [← hv12]; exact PS_at hPa (by omega) hlt
          refine lv_aload_n hx hb dX8_isE_18 rfl (lv_at hl 0 rfl) ?_
          refine g_ki h (g_runV X h (As := []) (rest := []) (c_X8_isT_2 gl Z v12 w t z (b + 1) (c + l.length) hP12) mi_X8_isT ml_RX8_201 (cc_116) (by decide) kl8 rfl ⟨Nat.le_of_ble_eq_true rfl, Nat.le_of_ble_eq_true rfl⟩ rfl hl.1 rfl (Nat.le_of_ble_eq_true rfl) dX8_isE_19) (fun r19 v19 w19 H locs hp19 h => ?_)
          obtain ⟨hr19, hu19, hq19⟩ := hp19
          obtain ⟨-, rfl⟩ := Prod.mk.inj hu19
          replace hq19 : PR t z _ _ _ v19 _ := hq19
          refine lv_if_eq (tgt := 33) hx hb dX8_isE_22 (by decide) (fun c_22 => ?_) (fun c_22 => ?_)
          · skip
            rw [hr19, bI_0] at c_22
            refine lv_iconst (v := 0) hx hb dX8_isE_33 (by decide) ?_
            exact g_nret X h dX8_isE_34 rfl (rd_out (e.trans (rdL_n c_15 hf c_22)) rfl (rd_no (PF_trans (by rw [← hv12]; exact PF_up hFa (by decide)) hq19.1 (by omega)) hq19.2.1))
          · skip
            rw [hr19, bI_n] at c_22
            obtain ⟨g1, g2, g3⟩ := rdA_G t z 2 (b + 1) hlt
            obtain ⟨g4, g5⟩ := g3 c_22
            have hcb := hP.2.2.2.2.2.2.2
            refine lv_aload_n hx hb dX8_isE_25 rfl (lv_at hl 0 rfl) ?_
            refine lv_iconst (v := 1) hx hb dX8_isE_26 (by decide) ?_
            refine g_ki h (g_runV X h (As := [.int 1]) (rest := []) (c_X8_codes gl Z v19 w 1 (c + l.length + (rdA t z 2 (b + 1)).2.2.length) (hq19.2.2 c_22).1.2.2.2.1 (by omega)) mi_X8_codes ml_RX8_183 (cc_116) (by decide) kl8 rfl ⟨Nat.le_of_ble_eq_true rfl, Nat.le_of_ble_eq_true rfl⟩ rfl hl.1 rfl (Nat.le_of_ble_eq_true rfl) dX8_isE_27) (fun r27 v27 w27 H locs hp27 h => ?_)
            obtain ⟨hr27, hu27⟩ := hp27
            obtain ⟨hv27, rfl⟩ := Prod.mk.inj hu27
            refine lv_if_ne (tgt := 9) hx hb dX8_isE_30 (by decide) (fun c_30 => ?_) (fun c_30 => ?_)
            · skip
              obtain ⟨s1, s2, s3⟩ := rd_step (s := 1) hPa hTa hFa hlt hv12 hq19 c_22 hll hcb g2 g5
              exact ih9 (f - 1) (rdA t z 2 (b + 1)).2.1 (l ++ (rdA t z 2 (b + 1)).2.2 ++ [1]) v27 (e.trans (rdL_y c_15 hf c_22)) (by omega) (by rw [← hv27]; exact s1) (by rw [← hv27]; exact s2) (by rw [← hv27]; exact s3) (by simp only [List.length_append, List.length_singleton]; omega) (by omega) _ _ h ls (lv_sub hl [0] rfl)
            · exact absurd c_30 (by rw [hr27]; decide)
    exact L9 (z - (rdA t z 2 a).2.1 + 1) (z - (rdA t z 2 a).2.1) (rdA t z 2 a).2.1 (rdA t z 2 a).2.2 v1 (rdT_y c_4) (Nat.le_refl _) hP1 hT1 hq1.1 g5 (Nat.lt_succ_self _) _ _ h ls (lv_sub hl [0] rfl)
  · skip
    rw [hr1, bI_0] at c_4
    refine lv_iconst (v := 0) hx hb dX8_isE_7 (by decide) ?_
    exact g_nret X h dX8_isE_8 rfl (rd_out (rdT_n c_4) rfl (rd_no hq1.1 hq1.2.1))

set_option maxRecDepth 100000 in
set_option maxHeartbeats 1000000 in
theorem c_X8_isF_3 (gl : Launch) (Z : PL) (v : VV) (w : WV) (t : Nat → Int32) (z : Nat) (a : Nat) (c : Nat) (hP : PS v t z a c 1) : CT gl yX8_isF cX8_isF 2 (some .boolean) 14 296 Z [.ref (zg Z 116)] v w (Qi Z (fun r u => r = bI (rdF t z 3 a).1 ∧ (u.1, w) = u ∧ PR t z c 1 v u.1 (rdF t z 3 a))) := by
  refine g_met (by decide) (Nat.le_of_ble_eq_true rfl) ?_
  intro gp ge gs gm ga gb gh gc X h ls hl
  have hx := X.1
  have hb := X.2.1
  have hl : lv_has ls 2 [(0, .ref (zg Z 116))] := hl
  refine lv_aload_n hx hb dX8_isF_0 rfl (lv_at hl 0 rfl) ?_
  refine lv_bipush (v := 33) hx hb dX8_isF_1 (by decide) ?_
  refine g_ki h (g_runV X h (As := [.int 33]) (rest := []) (c_X8_opens gl Z v w 33 1 hP.2.2.2.2.1 (by decide) a z hP.2.2.1 hP.2.1 hP.2.2.2.2.2.2.1 hP.2.2.2.2.2.1) mi_X8_opens ml_RX8_189 (cc_116) (by decide) kl8 rfl ⟨Nat.le_of_ble_eq_true rfl, Nat.le_of_ble_eq_true rfl⟩ rfl hl.1 rfl (Nat.le_of_ble_eq_true rfl) dX8_isF_3) (fun r3 v3 w3 H locs hp3 h => ?_)
  obtain ⟨hr3, hu3⟩ := hp3
  obtain ⟨hv3, rfl⟩ := Prod.mk.inj hu3
  rw [hP.1] at hr3 hv3
  refine lv_if_eq (tgt := 33) hx hb dX8_isF_6 (by decide) (fun c_6 => ?_) (fun c_6 => ?_)
  · skip
    rw [hr3, bI_0] at c_6
    rw [if_neg (by rw [c_6]; decide)] at hv3
    have e3 : v3 = v := hv3.symm
    have hP3 : PS v3 t z a c 1 := by rw [e3]; exact hP
    have hf33 : isAt t z a 33 = false := by simpa using c_6
    refine lv_aload_n hx hb dX8_isF_33 rfl (lv_at hl 0 rfl) ?_
    refine lv_bipush (v := 40) hx hb dX8_isF_34 (by decide) ?_
    refine g_ki h (g_runV X h (As := [.int 40]) (rest := []) (c_X8_opens gl Z v3 w 40 1 hP3.2.2.2.2.1 (by decide) a z hP3.2.2.1 hP3.2.1 hP3.2.2.2.2.2.2.1 hP3.2.2.2.2.2.1) mi_X8_opens ml_RX8_189 (cc_116) (by decide) kl8 rfl ⟨Nat.le_of_ble_eq_true rfl, Nat.le_of_ble_eq_true rfl⟩ rfl hl.1 rfl (Nat.le_of_ble_eq_true rfl) dX8_isF_36) (fun r36 v36 w36 H locs hp36 h => ?_)
    obtain ⟨hr36, hu36⟩ := hp36
    obtain ⟨hv36, rfl⟩ := Prod.mk.inj hu36
    rw [hP3.1] at hr36 hv36
    refine lv_if_eq (tgt := 67) hx hb dX8_isF_39 (by decide) (fun c_39 => ?_) (fun c_39 => ?_)
    · skip
      rw [hr36, bI_0] at c_39
      rw [if_neg (by rw [c_39]; decide)] at hv36
      have e36 : v36 = v3 := hv36.symm
      have hP36 : PS v36 t z a c 1 := by rw [e36]; exact hP3
      have hf40 : isAt t z a 40 = false := by simpa using c_39
      refine lv_aload_n hx hb dX8_isF_67 rfl (lv_at hl 0 rfl) ?_
      refine g_ki h (g_runV X h (As := []) (rest := []) (c_X8_isTest gl Z v36 w t z a c 1 hP36) mi_X8_isTest ml_RX8_198 (cc_116) (by decide) kl8 rfl ⟨Nat.le_of_ble_eq_true rfl, Nat.le_of_ble_eq_true rfl⟩ rfl hl.1 rfl (Nat.le_of_ble_eq_true rfl) dX8_isF_68) (fun r68 v68 w68 H locs hp68 h => ?_)
      obtain ⟨hr68, hu68, hq68⟩ := hp68
      obtain ⟨-, rfl⟩ := Prod.mk.inj hu68
      replace hq68 : PR t z _ _ _ v68 _ := hq68
      exact g_nret X h dX8_isF_71 (by rw [hr68]; exact nar_bI _) (rd_out (rdF_t (d := 2) hf33 hf40) hr68 (by rw [e36, e3] at hq68; exact hq68))
    · skip
      rw [hr36, bI_n] at c_39
      rw [if_pos c_39] at hv36
      have hat : isAt t z a 40 = true := by simpa using c_39
      have hP36 : PS v36 t z (a + 1) c 2 := by rw [← hv36]; exact PS_open hP3 (isAt_lt hat)
      have hF36 : PF c v v36 := by rw [← hv36, e3]; exact PF_up (PF_up (PF_refl _ _) (by decide)) (by decide)
      refine lv_aload_n hx hb dX8_isF_42 rfl (lv_at hl 0 rfl) ?_
      refine g_ki h (g_runV X h (As := []) (rest := []) (c_X8_isE_2 gl Z v36 w t z (a + 1) c hP36) mi_X8_isE ml_RX8_195 (cc_116) (by decide) kl8 rfl ⟨Nat.le_of_ble_eq_true rfl, Nat.le_of_ble_eq_true rfl⟩ rfl hl.1 rfl (Nat.le_of_ble_eq_true rfl) dX8_isF_43) (fun r43 v43 w43 H locs hp43 h => ?_)
      obtain ⟨hr43, hu43, hq43⟩ := hp43
      obtain ⟨-, rfl⟩ := Prod.mk.inj hu43
      replace hq43 : PR t z _ _ _ v43 _ := hq43
      refine lv_if_eq (tgt := 62) hx hb dX8_isF_46 (by decide) (fun c_46 => ?_) (fun c_46 => ?_)
      · skip
        rw [hr43, bI_0] at c_46
        refine lv_iconst (v := 0) hx hb dX8_isF_62 (by decide) ?_
        refine lv_istore_n (lv' := [(1, .int 0), (0, .ref (zg Z 116))]) hx hb dX8_isF_63 rfl hl (by decide) rfl (fun ls hl => ?_)
        refine lv_goto (tgt := 72) hx hb dX8_isF_64 (by decide) ?_
        refine lv_aload_n hx hb dX8_isF_72 rfl (lv_at hl 1 rfl) ?_
        refine lv_dup hx hb dX8_isF_73 rfl ?_
        refine g_geti X h (k := 24) (cc_116) fr_RX8_186 rfl (by decide) dX8_isF_74 ?_
        refine lv_iconst (v := 1) hx hb dX8_isF_77 (by decide) ?_
        refine lv_isub hx hb dX8_isF_78 ?_
        refine g_puti X h (k := 24) (cc_116) fp_RX8_186 rfl (by decide) dX8_isF_79 (fun v79 H locs ev79 h => ?_)
        refine lv_iload_n hx hb dX8_isF_82 rfl (lv_at hl 0 rfl) ?_
        exact g_nret X h dX8_isF_83 rfl (rd_out (rdF_pn (d := 2) hf33 hat c_46) rfl (rd_no (by rw [ev79]; exact PF_up (PF_trans hF36 hq43.1 (Nat.le_refl _)) (by decide)) (by show v79 116 23 = _; rw [ev79, up24_23]; exact hq43.2.1)))
      · skip
        rw [hr43, bI_n] at c_46
        obtain ⟨hP43, hT43⟩ := hq43.2.2 c_46
        refine lv_aload_n hx hb dX8_isF_49 rfl (lv_at hl 0 rfl) ?_
        refine lv_bipush (v := 41) hx hb dX8_isF_50 (by decide) ?_
        refine g_ki h (g_runV X h (As := [.int 41]) (rest := []) (c_X8_is gl Z v43 w 41 ((rdE t z 2 (a + 1)).2.1) z hP43.2.2.1 hP43.2.1 hP43.2.2.2.2.2.2.1 hP43.2.2.2.2.2.1) mi_X8_is ml_RX8_167 (cc_116) (by decide) kl8 rfl ⟨Nat.le_of_ble_eq_true rfl, Nat.le_of_ble_eq_true rfl⟩ rfl hl.1 rfl (Nat.le_of_ble_eq_true rfl) dX8_isF_52) (fun r52 v52 w52 H locs hp52 h => ?_)
        obtain ⟨hr52, hu52⟩ := hp52
        obtain ⟨hv52, rfl⟩ := Prod.mk.inj hu52
        rw [hP43.1] at hr52 hv52
        refine lv_if_eq (tgt := 62) hx hb dX8_isF_55 (by decide) (fun c_55 => ?_) (fun c_55 => ?_)
        · skip
          rw [hr52, bI_0] at c_55
          rw [c_55, if_neg (by decide)] at hv52
          refine lv_iconst (v := 0) hx hb dX8_isF_62 (by decide) ?_
          refine lv_istore_n (lv' := [(1, .int 0), (0, .ref (zg Z 116))]) hx hb dX8_isF_63 rfl hl (by decide) rfl (fun ls hl => ?_)
          refine lv_goto (tgt := 72) hx hb dX8_isF_64 (by decide) ?_
          refine lv_aload_n hx hb dX8_isF_72 rfl (lv_at hl 1 rfl) ?_
          refine lv_dup hx hb dX8_isF_73 rfl ?_
          refine g_geti X h (k := 24) (cc_116) fr_RX8_186 rfl (by decide) dX8_isF_74 ?_
          refine lv_iconst (v := 1) hx hb dX8_isF_77 (by decide) ?_
          refine lv_isub hx hb dX8_isF_78 ?_
          refine g_puti X h (k := 24) (cc_116) fp_RX8_186 rfl (by decide) dX8_isF_79 (fun v79 H locs ev79 h => ?_)
          refine lv_iload_n hx hb dX8_isF_82 rfl (lv_at hl 0 rfl) ?_
          exact g_nret X h dX8_isF_83 rfl (rd_out (rdF_pm (d := 2) hf33 hat c_46 c_55) rfl (rd_no (by rw [ev79]; exact PF_up (by rw [← hv52]; exact PF_trans hF36 hq43.1 (Nat.le_refl _)) (by decide)) (by show v79 116 23 = _; rw [ev79, up24_23, ← hv52]; exact hq43.2.1)))
        · skip
          rw [hr52, bI_n] at c_55
          rw [if_pos c_55] at hv52
          refine lv_iconst (v := 1) hx hb dX8_isF_58 (by decide) ?_
          refine lv_goto (tgt := 63) hx hb dX8_isF_59 (by decide) ?_
          refine lv_istore_n (lv' := [(1, .int 1), (0, .ref (zg Z 116))]) hx hb dX8_isF_63 rfl hl (by decide) rfl (fun ls hl => ?_)
          refine lv_goto (tgt := 72) hx hb dX8_isF_64 (by decide) ?_
          refine lv_aload_n hx hb dX8_isF_72 rfl (lv_at hl 1 rfl) ?_
          refine lv_dup hx hb dX8_isF_73 rfl ?_
          refine g_geti X h (k := 24) (cc_116) fr_RX8_186 rfl (by decide) dX8_isF_74 ?_
          refine lv_iconst (v := 1) hx hb dX8_isF_77 (by decide) ?_
          refine lv_isub hx hb dX8_isF_78 ?_
          refine g_puti X h (k := 24) (cc_116) fp_RX8_186 rfl (by decide) dX8_isF_79 (fun v79 H locs ev79 h => ?_)
          refine lv_iload_n hx hb dX8_isF_82 rfl (lv_at hl 0 rfl) ?_
          exact g_nret X h dX8_isF_83 rfl (rd_out (rdF_py (d := 2) hf33 hat c_46 c_55) rfl (rd_yes (by rw [ev79]; exact PF_up (by rw [← hv52]; exact PF_up (PF_trans hF36 hq43.1 (Nat.le_refl _)) (by decide)) (by decide)) (by rw [ev79, ← hv52]; exact PS_close (PS_at hP43 (by omega) (isAt_lt c_55))) (by rw [ev79, ← hv52]; exact TK_up (TK_up hT43))))
  · skip
    rw [hr3, bI_n] at c_6
    rw [if_pos c_6] at hv3
    have hat : isAt t z a 33 = true := by simpa using c_6
    have hP3 : PS v3 t z (a + 1) c 2 := by rw [← hv3]; exact PS_open hP (isAt_lt hat)
    have hF3 : PF c v v3 := by rw [← hv3]; exact PF_up (PF_up (PF_refl _ _) (by decide)) (by decide)
    refine lv_aload_n hx hb dX8_isF_9 rfl (lv_at hl 0 rfl) ?_
    refine g_ki h (g_runV X h (As := []) (rest := []) (c_X8_isF_2 gl Z v3 w t z (a + 1) c hP3) mi_X8_isF ml_RX8_192 (cc_116) (by decide) kl8 rfl ⟨Nat.le_of_ble_eq_true rfl, Nat.le_of_ble_eq_true rfl⟩ rfl hl.1 rfl (Nat.le_of_ble_eq_true rfl) dX8_isF_10) (fun r10 v10 w10 H locs hp10 h => ?_)
    obtain ⟨hr10, hu10, hq10⟩ := hp10
    obtain ⟨-, rfl⟩ := Prod.mk.inj hu10
    replace hq10 : PR t z _ _ _ v10 _ := hq10
    refine lv_if_eq (tgt := 28) hx hb dX8_isF_13 (by decide) (fun c_13 => ?_) (fun c_13 => ?_)
    · skip
      rw [hr10, bI_0] at c_13
      refine lv_iconst (v := 0) hx hb dX8_isF_28 (by decide) ?_
      refine lv_istore_n (lv' := [(1, .int 0), (0, .ref (zg Z 116))]) hx hb dX8_isF_29 rfl hl (by decide) rfl (fun ls hl => ?_)
      refine lv_goto (tgt := 72) hx hb dX8_isF_30 (by decide) ?_
      refine lv_aload_n hx hb dX8_isF_72 rfl (lv_at hl 1 rfl) ?_
      refine lv_dup hx hb dX8_isF_73 rfl ?_
      refine g_geti X h (k := 24) (cc_116) fr_RX8_186 rfl (by decide) dX8_isF_74 ?_
      refine lv_iconst (v := 1) hx hb dX8_isF_77 (by decide) ?_
      refine lv_isub hx hb dX8_isF_78 ?_
      refine g_puti X h (k := 24) (cc_116) fp_RX8_186 rfl (by decide) dX8_isF_79 (fun v79 H locs ev79 h => ?_)
      refine lv_iload_n hx hb dX8_isF_82 rfl (lv_at hl 0 rfl) ?_
      exact g_nret X h dX8_isF_83 rfl (rd_out (rdF_n (d := 2) hat c_13) rfl (rd_no (by rw [ev79]; exact PF_up (PF_trans hF3 hq10.1 (Nat.le_refl _)) (by decide)) (by show v79 116 23 = _; rw [ev79, up24_23]; exact hq10.2.1)))
    · skip
      rw [hr10, bI_n] at c_13
      obtain ⟨hP10, hT10⟩ := hq10.2.2 c_13
      obtain ⟨g1, g2, g3⟩ := rdF_G t z 2 (a + 1) (isAt_lt hat)
      obtain ⟨g4, g5⟩ := g3 c_13
      have hcb := hP.2.2.2.2.2.2.2
      refine lv_aload_n hx hb dX8_isF_16 rfl (lv_at hl 0 rfl) ?_
      refine lv_iconst (v := 2) hx hb dX8_isF_17 (by decide) ?_
      refine g_ki h (g_runV X h (As := [.int 2]) (rest := []) (c_X8_codes gl Z v10 w 2 (c + (rdF t z 2 (a + 1)).2.2.length) hP10.2.2.2.1 (by omega)) mi_X8_codes ml_RX8_183 (cc_116) (by decide) kl8 rfl ⟨Nat.le_of_ble_eq_true rfl, Nat.le_of_ble_eq_true rfl⟩ rfl hl.1 rfl (Nat.le_of_ble_eq_true rfl) dX8_isF_18) (fun r18 v18 w18 H locs hp18 h => ?_)
      obtain ⟨hr18, hu18⟩ := hp18
      obtain ⟨hv18, rfl⟩ := Prod.mk.inj hu18
      refine lv_if_eq (tgt := 28) hx hb dX8_isF_21 (by decide) (fun c_21 => ?_) (fun c_21 => ?_)
      · exact absurd c_21 (by rw [hr18]; decide)
      · skip
        refine lv_iconst (v := 1) hx hb dX8_isF_24 (by decide) ?_
        refine lv_goto (tgt := 29) hx hb dX8_isF_25 (by decide) ?_
        refine lv_istore_n (lv' := [(1, .int 1), (0, .ref (zg Z 116))]) hx hb dX8_isF_29 rfl hl (by decide) rfl (fun ls hl => ?_)
        refine lv_goto (tgt := 72) hx hb dX8_isF_30 (by decide) ?_
        refine lv_aload_n hx hb dX8_isF_72 rfl (lv_at hl 1 rfl) ?_
        refine lv_dup hx hb dX8_isF_73 rfl ?_
        refine g_geti X h (k := 24) (cc_116) fr_RX8_186 rfl (by decide) dX8_isF_74 ?_
        refine lv_iconst (v := 1) hx hb dX8_isF_77 (by decide) ?_
        refine lv_isub hx hb dX8_isF_78 ?_
        refine g_puti X h (k := 24) (cc_116) fp_RX8_186 rfl (by decide) dX8_isF_79 (fun v79 H locs ev79 h => ?_)
        refine lv_iload_n hx hb dX8_isF_82 rfl (lv_at hl 0 rfl) ?_
        exact g_nret X h dX8_isF_83 rfl (rd_out (rdF_y (d := 2) hat c_13) rfl (rd_yes (by rw [ev79]; exact PF_up (by rw [← hv18]; exact PF_code (PF_up (PF_trans hF3 hq10.1 (Nat.le_refl _)) (by decide)) (by omega)) (by decide)) (by rw [ev79, ← hv18]; exact PS_close (PS_len (PS_code hP10 (by omega)))) (by rw [ev79, ← hv18]; exact TK_up (TK_snoc hT10))))

set_option maxRecDepth 100000 in
set_option maxHeartbeats 1000000 in
theorem c_X8_isT_3 (gl : Launch) (Z : PL) (v : VV) (w : WV) (t : Nat → Int32) (z : Nat) (a : Nat) (c : Nat) (hP : PS v t z a c 1) : CT gl yX8_isT cX8_isT 1 (some .boolean) 15 317 Z [.ref (zg Z 116)] v w (Qi Z (fun r u => r = bI (rdA t z 3 a).1 ∧ (u.1, w) = u ∧ PR t z c 1 v u.1 (rdA t z 3 a))) := by
  refine g_met (by decide) (Nat.le_of_ble_eq_true rfl) ?_
  intro gp ge gs gm ga gb gh gc X h ls hl
  have hx := X.1
  have hb := X.2.1
  have hl : lv_has ls 1 [(0, .ref (zg Z 116))] := hl
  refine lv_aload_n hx hb dX8_isT_0 rfl (lv_at hl 0 rfl) ?_
  refine g_ki h (g_runV X h (As := []) (rest := []) (c_X8_isF_3 gl Z v w t z a c hP) mi_X8_isF ml_RX8_192 (cc_116) (by decide) kl8 rfl ⟨Nat.le_of_ble_eq_true rfl, Nat.le_of_ble_eq_true rfl⟩ rfl hl.1 rfl (Nat.le_of_ble_eq_true rfl) dX8_isT_1) (fun r1 v1 w1 H locs hp1 h => ?_)
  obtain ⟨hr1, hu1, hq1⟩ := hp1
  obtain ⟨-, rfl⟩ := Prod.mk.inj hu1
  replace hq1 : PR t z _ _ _ v1 _ := hq1
  refine lv_if_ne (tgt := 9) hx hb dX8_isT_4 (by decide) (fun c_4 => ?_) (fun c_4 => ?_)
  · skip
    rw [hr1, bI_n] at c_4
    obtain ⟨hP1, hT1⟩ := hq1.2.2 c_4
    obtain ⟨g1, g2, g3⟩ := rdF_G t z 3 a hP.2.2.2.2.2.2.1
    obtain ⟨g4, g5⟩ := g3 c_4
    have L9 : ∀ (n9 : Nat) (f b : Nat) (l : List Nat) (va : VV), (rdA t z 3 a = rdL (rdF t z 3) t z 38 0 f b l) → (z - b ≤ f) → (PS va t z b (c + l.length) 1) → (TK va c l) → (PF c v va) → (l.length + a ≤ b) → z - b < n9 → ∀ (H : Heap) (locs : List Loc), HS Z gs va w H locs → ∀ ls : Array Slot, lv_has ls 1 [(0, .ref (zg Z 116))] → W gp gl ge (rmm 15 317) gs gm ga gb gh gc H locs 0 0 (MQ gb (Qi Z (fun r u => r = bI (rdA t z 3 a).1 ∧ (u.1, w) = u ∧ PR t z c 1 v u.1 (rdA t z 3 a))) ga gs 0 0 (zA Z)) (F0 gm 9 ls []) := by
      intro n9
      induction n9 with
      | zero => intro f b l va e hf hPa hTa hFa hll hmu; exact absurd hmu (Nat.not_lt_zero _)
      | succ n9 ih9 =>
        intro f b l va e hf hPa hTa hFa hll hmu9 H locs h ls hl
        refine lv_aload_n hx hb dX8_isT_9 rfl (lv_at hl 0 rfl) ?_
        refine lv_bipush (v := 38) hx hb dX8_isT_10 (by decide) ?_
        refine g_ki h (g_runV X h (As := [.int 38]) (rest := []) (c_X8_is gl Z va w 38 b z hPa.2.2.1 hPa.2.1 hPa.2.2.2.2.2.2.1 hPa.2.2.2.2.2.1) mi_X8_is ml_RX8_167 (cc_116) (by decide) kl8 rfl ⟨Nat.le_of_ble_eq_true rfl, Nat.le_of_ble_eq_true rfl⟩ rfl hl.1 rfl (Nat.le_of_ble_eq_true rfl) dX8_isT_12) (fun r12 v12 w12 H locs hp12 h => ?_)
        obtain ⟨hr12, hu12⟩ := hp12
        obtain ⟨hv12, rfl⟩ := Prod.mk.inj hu12
        rw [hPa.1] at hr12 hv12
        refine lv_if_eq (tgt := 35) hx hb dX8_isT_15 (by decide) (fun c_15 => ?_) (fun c_15 => ?_)
        · skip
          rw [hr12, bI_0] at c_15
          rw [c_15, if_neg (by decide)] at hv12
          refine lv_iconst (v := 1) hx hb dX8_isT_35 (by decide) ?_
          exact g_nret X h dX8_isT_36 rfl (rd_out (e.trans (rdL_s c_15)) rfl (rd_yes (by rw [← hv12]; exact hFa) (by rw [← hv12]; exact hPa) (by rw [← hv12]; exact hTa)))
        · skip
          rw [hr12, bI_n] at c_15
          rw [if_pos c_15] at hv12
          have hlt := isAt_lt c_15
          have hP12 : PS v12 t z (b + 1) (c + l.length) 1 := by rw [← hv12]; exact PS_at hPa (by omega) hlt
          refine lv_aload_n hx hb dX8_isT_18 rfl (lv_at hl 0 rfl) ?_
          refine g_ki h (g_runV X h (As := []) (rest := []) (c_X8_isF_3 gl Z v12 w t z (b + 1) (c + l.length) hP12) mi_X8_isF ml_RX8_192 (cc_116) (by decide) kl8 rfl ⟨Nat.le_of_ble_eq_true rfl, Nat.le_of_ble_eq_true rfl⟩ rfl hl.1 rfl (Nat.le_of_ble_eq_true rfl) dX8_isT_19) (fun r19 v19 w19 H locs hp19 h => ?_)
          obtain ⟨hr19, hu19, hq19⟩ := hp19
          obtain ⟨-, rfl⟩ := Prod.mk.inj hu19
          replace hq19 : PR t z _ _ _ v19 _ := hq19
          refine lv_if_eq (tgt := 33) hx hb dX8_isT_22 (by decide) (fun c_22 => ?_) (fun c_22 => ?_)
          · skip
            rw [hr19, bI_0] at c_22
            refine lv_iconst (v := 0) hx hb dX8_isT_33 (by decide) ?_
            exact g_nret X h dX8_isT_34 rfl (rd_out (e.trans (rdL_n c_15 hf c_22)) rfl (rd_no (PF_trans (by rw [← hv12]; exact PF_up hFa (by decide)) hq19.1 (by omega)) hq19.2.1))
          · skip
            rw [hr19, bI_n] at c_22
            obtain ⟨g1, g2, g3⟩ := rdF_G t z 3 (b + 1) hlt
            obtain ⟨g4, g5⟩ := g3 c_22
            have hcb := hP.2.2.2.2.2.2.2
            refine lv_aload_n hx hb dX8_isT_25 rfl (lv_at hl 0 rfl) ?_
            refine lv_iconst (v := 0) hx hb dX8_isT_26 (by decide) ?_
            refine g_ki h (g_runV X h (As := [.int 0]) (rest := []) (c_X8_codes gl Z v19 w 0 (c + l.length + (rdF t z 3 (b + 1)).2.2.length) (hq19.2.2 c_22).1.2.2.2.1 (by omega)) mi_X8_codes ml_RX8_183 (cc_116) (by decide) kl8 rfl ⟨Nat.le_of_ble_eq_true rfl, Nat.le_of_ble_eq_true rfl⟩ rfl hl.1 rfl (Nat.le_of_ble_eq_true rfl) dX8_isT_27) (fun r27 v27 w27 H locs hp27 h => ?_)
            obtain ⟨hr27, hu27⟩ := hp27
            obtain ⟨hv27, rfl⟩ := Prod.mk.inj hu27
            refine lv_if_ne (tgt := 9) hx hb dX8_isT_30 (by decide) (fun c_30 => ?_) (fun c_30 => ?_)
            · skip
              obtain ⟨s1, s2, s3⟩ := rd_step (s := 0) hPa hTa hFa hlt hv12 hq19 c_22 hll hcb g2 g5
              exact ih9 (f - 1) (rdF t z 3 (b + 1)).2.1 (l ++ (rdF t z 3 (b + 1)).2.2 ++ [0]) v27 (e.trans (rdL_y c_15 hf c_22)) (by omega) (by rw [← hv27]; exact s1) (by rw [← hv27]; exact s2) (by rw [← hv27]; exact s3) (by simp only [List.length_append, List.length_singleton]; omega) (by omega) _ _ h ls (lv_sub hl [0] rfl)
            · exact absurd c_30 (by rw [hr27]; decide)
    exact L9 (z - (rdF t z 3 a).2.1 + 1) (z - (rdF t z 3 a).2.1) (rdF t z 3 a).2.1 (rdF t z 3 a).2.2 v1 (rdT_y c_4) (Nat.le_refl _) hP1 hT1 hq1.1 g5 (Nat.lt_succ_self _) _ _ h ls (lv_sub hl [0] rfl)
  · skip
    rw [hr1, bI_0] at c_4
    refine lv_iconst (v := 0) hx hb dX8_isT_7 (by decide) ?_
    exact g_nret X h dX8_isT_8 rfl (rd_out (rdT_n c_4) rfl (rd_no hq1.1 hq1.2.1))

set_option maxRecDepth 100000 in
set_option maxHeartbeats 1000000 in
theorem c_X8_isE_3 (gl : Launch) (Z : PL) (v : VV) (w : WV) (t : Nat → Int32) (z : Nat) (a : Nat) (c : Nat) (hP : PS v t z a c 1) : CT gl yX8_isE cX8_isE 1 (some .boolean) 16 337 Z [.ref (zg Z 116)] v w (Qi Z (fun r u => r = bI (rdE t z 3 a).1 ∧ (u.1, w) = u ∧ PR t z c 1 v u.1 (rdE t z 3 a))) := by
  refine g_met (by decide) (Nat.le_of_ble_eq_true rfl) ?_
  intro gp ge gs gm ga gb gh gc X h ls hl
  have hx := X.1
  have hb := X.2.1
  have hl : lv_has ls 1 [(0, .ref (zg Z 116))] := hl
  refine lv_aload_n hx hb dX8_isE_0 rfl (lv_at hl 0 rfl) ?_
  refine g_ki h (g_runV X h (As := []) (rest := []) (c_X8_isT_3 gl Z v w t z a c hP) mi_X8_isT ml_RX8_201 (cc_116) (by decide) kl8 rfl ⟨Nat.le_of_ble_eq_true rfl, Nat.le_of_ble_eq_true rfl⟩ rfl hl.1 rfl (Nat.le_of_ble_eq_true rfl) dX8_isE_1) (fun r1 v1 w1 H locs hp1 h => ?_)
  obtain ⟨hr1, hu1, hq1⟩ := hp1
  obtain ⟨-, rfl⟩ := Prod.mk.inj hu1
  replace hq1 : PR t z _ _ _ v1 _ := hq1
  refine lv_if_ne (tgt := 9) hx hb dX8_isE_4 (by decide) (fun c_4 => ?_) (fun c_4 => ?_)
  · skip
    rw [hr1, bI_n] at c_4
    obtain ⟨hP1, hT1⟩ := hq1.2.2 c_4
    obtain ⟨g1, g2, g3⟩ := rdA_G t z 3 a hP.2.2.2.2.2.2.1
    obtain ⟨g4, g5⟩ := g3 c_4
    have L9 : ∀ (n9 : Nat) (f b : Nat) (l : List Nat) (va : VV), (rdE t z 3 a = rdL (rdA t z 3) t z 124 1 f b l) → (z - b ≤ f) → (PS va t z b (c + l.length) 1) → (TK va c l) → (PF c v va) → (l.length + a ≤ b) → z - b < n9 → ∀ (H : Heap) (locs : List Loc), HS Z gs va w H locs → ∀ ls : Array Slot, lv_has ls 1 [(0, .ref (zg Z 116))] → W gp gl ge (rmm 16 337) gs gm ga gb gh gc H locs 0 0 (MQ gb (Qi Z (fun r u => r = bI (rdE t z 3 a).1 ∧ (u.1, w) = u ∧ PR t z c 1 v u.1 (rdE t z 3 a))) ga gs 0 0 (zA Z)) (F0 gm 9 ls []) := by
      intro n9
      induction n9 with
      | zero => intro f b l va e hf hPa hTa hFa hll hmu; exact absurd hmu (Nat.not_lt_zero _)
      | succ n9 ih9 =>
        intro f b l va e hf hPa hTa hFa hll hmu9 H locs h ls hl
        refine lv_aload_n hx hb dX8_isE_9 rfl (lv_at hl 0 rfl) ?_
        refine lv_bipush (v := 124) hx hb dX8_isE_10 (by decide) ?_
        refine g_ki h (g_runV X h (As := [.int 124]) (rest := []) (c_X8_is gl Z va w 124 b z hPa.2.2.1 hPa.2.1 hPa.2.2.2.2.2.2.1 hPa.2.2.2.2.2.1) mi_X8_is ml_RX8_167 (cc_116) (by decide) kl8 rfl ⟨Nat.le_of_ble_eq_true rfl, Nat.le_of_ble_eq_true rfl⟩ rfl hl.1 rfl (Nat.le_of_ble_eq_true rfl) dX8_isE_12) (fun r12 v12 w12 H locs hp12 h => ?_)
        obtain ⟨hr12, hu12⟩ := hp12
        obtain ⟨hv12, rfl⟩ := Prod.mk.inj hu12
        rw [hPa.1] at hr12 hv12
        refine lv_if_eq (tgt := 35) hx hb dX8_isE_15 (by decide) (fun c_15 => ?_) (fun c_15 => ?_)
        · skip
          rw [hr12, bI_0] at c_15
          rw [c_15, if_neg (by decide)] at hv12
          refine lv_iconst (v := 1) hx hb dX8_isE_35 (by decide) ?_
          exact g_nret X h dX8_isE_36 rfl (rd_out (e.trans (rdL_s c_15)) rfl (rd_yes (by rw [← hv12]; exact hFa) (by rw [← hv12]; exact hPa) (by rw [← hv12]; exact hTa)))
        · skip
          rw [hr12, bI_n] at c_15
          rw [if_pos c_15] at hv12
          have hlt := isAt_lt c_15
          have hP12 : PS v12 t z (b + 1) (c + l.length) 1 := by rw [← hv12]; exact PS_at hPa (by omega) hlt
          refine lv_aload_n hx hb dX8_isE_18 rfl (lv_at hl 0 rfl) ?_
          refine g_ki h (g_runV X h (As := []) (rest := []) (c_X8_isT_3 gl Z v12 w t z (b + 1) (c + l.length) hP12) mi_X8_isT ml_RX8_201 (cc_116) (by decide) kl8 rfl ⟨Nat.le_of_ble_eq_true rfl, Nat.le_of_ble_eq_true rfl⟩ rfl hl.1 rfl (Nat.le_of_ble_eq_true rfl) dX8_isE_19) (fun r19 v19 w19 H locs hp19 h => ?_)
          obtain ⟨hr19, hu19, hq19⟩ := hp19
          obtain ⟨-, rfl⟩ := Prod.mk.inj hu19
          replace hq19 : PR t z _ _ _ v19 _ := hq19
          refine lv_if_eq (tgt := 33) hx hb dX8_isE_22 (by decide) (fun c_22 => ?_) (fun c_22 => ?_)
          · skip
            rw [hr19, bI_0] at c_22
            refine lv_iconst (v := 0) hx hb dX8_isE_33 (by decide) ?_
            exact g_nret X h dX8_isE_34 rfl (rd_out (e.trans (rdL_n c_15 hf c_22)) rfl (rd_no (PF_trans (by rw [← hv12]; exact PF_up hFa (by decide)) hq19.1 (by omega)) hq19.2.1))
          · skip
            rw [hr19, bI_n] at c_22
            obtain ⟨g1, g2, g3⟩ := rdA_G t z 3 (b + 1) hlt
            obtain ⟨g4, g5⟩ := g3 c_22
            have hcb := hP.2.2.2.2.2.2.2
            refine lv_aload_n hx hb dX8_isE_25 rfl (lv_at hl 0 rfl) ?_
            refine lv_iconst (v := 1) hx hb dX8_isE_26 (by decide) ?_
            refine g_ki h (g_runV X h (As := [.int 1]) (rest := []) (c_X8_codes gl Z v19 w 1 (c + l.length + (rdA t z 3 (b + 1)).2.2.length) (hq19.2.2 c_22).1.2.2.2.1 (by omega)) mi_X8_codes ml_RX8_183 (cc_116) (by decide) kl8 rfl ⟨Nat.le_of_ble_eq_true rfl, Nat.le_of_ble_eq_true rfl⟩ rfl hl.1 rfl (Nat.le_of_ble_eq_true rfl) dX8_isE_27) (fun r27 v27 w27 H locs hp27 h => ?_)
            obtain ⟨hr27, hu27⟩ := hp27
            obtain ⟨hv27, rfl⟩ := Prod.mk.inj hu27
            refine lv_if_ne (tgt := 9) hx hb dX8_isE_30 (by decide) (fun c_30 => ?_) (fun c_30 => ?_)
            · skip
              obtain ⟨s1, s2, s3⟩ := rd_step (s := 1) hPa hTa hFa hlt hv12 hq19 c_22 hll hcb g2 g5
              exact ih9 (f - 1) (rdA t z 3 (b + 1)).2.1 (l ++ (rdA t z 3 (b + 1)).2.2 ++ [1]) v27 (e.trans (rdL_y c_15 hf c_22)) (by omega) (by rw [← hv27]; exact s1) (by rw [← hv27]; exact s2) (by rw [← hv27]; exact s3) (by simp only [List.length_append, List.length_singleton]; omega) (by omega) _ _ h ls (lv_sub hl [0] rfl)
            · exact absurd c_30 (by rw [hr27]; decide)
    exact L9 (z - (rdA t z 3 a).2.1 + 1) (z - (rdA t z 3 a).2.1) (rdA t z 3 a).2.1 (rdA t z 3 a).2.2 v1 (rdT_y c_4) (Nat.le_refl _) hP1 hT1 hq1.1 g5 (Nat.lt_succ_self _) _ _ h ls (lv_sub hl [0] rfl)
  · skip
    rw [hr1, bI_0] at c_4
    refine lv_iconst (v := 0) hx hb dX8_isE_7 (by decide) ?_
    exact g_nret X h dX8_isE_8 rfl (rd_out (rdT_n c_4) rfl (rd_no hq1.1 hq1.2.1))

set_option maxRecDepth 100000 in
set_option maxHeartbeats 1000000 in
theorem c_X8_isF_4 (gl : Launch) (Z : PL) (v : VV) (w : WV) (t : Nat → Int32) (z : Nat) (a : Nat) (c : Nat) (hP : PS v t z a c 0) : CT gl yX8_isF cX8_isF 2 (some .boolean) 17 357 Z [.ref (zg Z 116)] v w (Qi Z (fun r u => r = bI (rdF t z 4 a).1 ∧ (u.1, w) = u ∧ PR t z c 0 v u.1 (rdF t z 4 a))) := by
  refine g_met (by decide) (Nat.le_of_ble_eq_true rfl) ?_
  intro gp ge gs gm ga gb gh gc X h ls hl
  have hx := X.1
  have hb := X.2.1
  have hl : lv_has ls 2 [(0, .ref (zg Z 116))] := hl
  refine lv_aload_n hx hb dX8_isF_0 rfl (lv_at hl 0 rfl) ?_
  refine lv_bipush (v := 33) hx hb dX8_isF_1 (by decide) ?_
  refine g_ki h (g_runV X h (As := [.int 33]) (rest := []) (c_X8_opens gl Z v w 33 0 hP.2.2.2.2.1 (by decide) a z hP.2.2.1 hP.2.1 hP.2.2.2.2.2.2.1 hP.2.2.2.2.2.1) mi_X8_opens ml_RX8_189 (cc_116) (by decide) kl8 rfl ⟨Nat.le_of_ble_eq_true rfl, Nat.le_of_ble_eq_true rfl⟩ rfl hl.1 rfl (Nat.le_of_ble_eq_true rfl) dX8_isF_3) (fun r3 v3 w3 H locs hp3 h => ?_)
  obtain ⟨hr3, hu3⟩ := hp3
  obtain ⟨hv3, rfl⟩ := Prod.mk.inj hu3
  rw [hP.1] at hr3 hv3
  refine lv_if_eq (tgt := 33) hx hb dX8_isF_6 (by decide) (fun c_6 => ?_) (fun c_6 => ?_)
  · skip
    rw [hr3, bI_0] at c_6
    rw [if_neg (by rw [c_6]; decide)] at hv3
    have e3 : v3 = v := hv3.symm
    have hP3 : PS v3 t z a c 0 := by rw [e3]; exact hP
    have hf33 : isAt t z a 33 = false := by simpa using c_6
    refine lv_aload_n hx hb dX8_isF_33 rfl (lv_at hl 0 rfl) ?_
    refine lv_bipush (v := 40) hx hb dX8_isF_34 (by decide) ?_
    refine g_ki h (g_runV X h (As := [.int 40]) (rest := []) (c_X8_opens gl Z v3 w 40 0 hP3.2.2.2.2.1 (by decide) a z hP3.2.2.1 hP3.2.1 hP3.2.2.2.2.2.2.1 hP3.2.2.2.2.2.1) mi_X8_opens ml_RX8_189 (cc_116) (by decide) kl8 rfl ⟨Nat.le_of_ble_eq_true rfl, Nat.le_of_ble_eq_true rfl⟩ rfl hl.1 rfl (Nat.le_of_ble_eq_true rfl) dX8_isF_36) (fun r36 v36 w36 H locs hp36 h => ?_)
    obtain ⟨hr36, hu36⟩ := hp36
    obtain ⟨hv36, rfl⟩ := Prod.mk.inj hu36
    rw [hP3.1] at hr36 hv36
    refine lv_if_eq (tgt := 67) hx hb dX8_isF_39 (by decide) (fun c_39 => ?_) (fun c_39 => ?_)
    · skip
      rw [hr36, bI_0] at c_39
      rw [if_neg (by rw [c_39]; decide)] at hv36
      have e36 : v36 = v3 := hv36.symm
      have hP36 : PS v36 t z a c 0 := by rw [e36]; exact hP3
      have hf40 : isAt t z a 40 = false := by simpa using c_39
      refine lv_aload_n hx hb dX8_isF_67 rfl (lv_at hl 0 rfl) ?_
      refine g_ki h (g_runV X h (As := []) (rest := []) (c_X8_isTest gl Z v36 w t z a c 0 hP36) mi_X8_isTest ml_RX8_198 (cc_116) (by decide) kl8 rfl ⟨Nat.le_of_ble_eq_true rfl, Nat.le_of_ble_eq_true rfl⟩ rfl hl.1 rfl (Nat.le_of_ble_eq_true rfl) dX8_isF_68) (fun r68 v68 w68 H locs hp68 h => ?_)
      obtain ⟨hr68, hu68, hq68⟩ := hp68
      obtain ⟨-, rfl⟩ := Prod.mk.inj hu68
      replace hq68 : PR t z _ _ _ v68 _ := hq68
      exact g_nret X h dX8_isF_71 (by rw [hr68]; exact nar_bI _) (rd_out (rdF_t (d := 3) hf33 hf40) hr68 (by rw [e36, e3] at hq68; exact hq68))
    · skip
      rw [hr36, bI_n] at c_39
      rw [if_pos c_39] at hv36
      have hat : isAt t z a 40 = true := by simpa using c_39
      have hP36 : PS v36 t z (a + 1) c 1 := by rw [← hv36]; exact PS_open hP3 (isAt_lt hat)
      have hF36 : PF c v v36 := by rw [← hv36, e3]; exact PF_up (PF_up (PF_refl _ _) (by decide)) (by decide)
      refine lv_aload_n hx hb dX8_isF_42 rfl (lv_at hl 0 rfl) ?_
      refine g_ki h (g_runV X h (As := []) (rest := []) (c_X8_isE_3 gl Z v36 w t z (a + 1) c hP36) mi_X8_isE ml_RX8_195 (cc_116) (by decide) kl8 rfl ⟨Nat.le_of_ble_eq_true rfl, Nat.le_of_ble_eq_true rfl⟩ rfl hl.1 rfl (Nat.le_of_ble_eq_true rfl) dX8_isF_43) (fun r43 v43 w43 H locs hp43 h => ?_)
      obtain ⟨hr43, hu43, hq43⟩ := hp43
      obtain ⟨-, rfl⟩ := Prod.mk.inj hu43
      replace hq43 : PR t z _ _ _ v43 _ := hq43
      refine lv_if_eq (tgt := 62) hx hb dX8_isF_46 (by decide) (fun c_46 => ?_) (fun c_46 => ?_)
      · skip
        rw [hr43, bI_0] at c_46
        refine lv_iconst (v := 0) hx hb dX8_isF_62 (by decide) ?_
        refine lv_istore_n (lv' := [(1, .int 0), (0, .ref (zg Z 116))]) hx hb dX8_isF_63 rfl hl (by decide) rfl (fun ls hl => ?_)
        refine lv_goto (tgt := 72) hx hb dX8_isF_64 (by decide) ?_
        refine lv_aload_n hx hb dX8_isF_72 rfl (lv_at hl 1 rfl) ?_
        refine lv_dup hx hb dX8_isF_73 rfl ?_
        refine g_geti X h (k := 24) (cc_116) fr_RX8_186 rfl (by decide) dX8_isF_74 ?_
        refine lv_iconst (v := 1) hx hb dX8_isF_77 (by decide) ?_
        refine lv_isub hx hb dX8_isF_78 ?_
        refine g_puti X h (k := 24) (cc_116) fp_RX8_186 rfl (by decide) dX8_isF_79 (fun v79 H locs ev79 h => ?_)
        refine lv_iload_n hx hb dX8_isF_82 rfl (lv_at hl 0 rfl) ?_
        exact g_nret X h dX8_isF_83 rfl (rd_out (rdF_pn (d := 3) hf33 hat c_46) rfl (rd_no (by rw [ev79]; exact PF_up (PF_trans hF36 hq43.1 (Nat.le_refl _)) (by decide)) (by show v79 116 23 = _; rw [ev79, up24_23]; exact hq43.2.1)))
      · skip
        rw [hr43, bI_n] at c_46
        obtain ⟨hP43, hT43⟩ := hq43.2.2 c_46
        refine lv_aload_n hx hb dX8_isF_49 rfl (lv_at hl 0 rfl) ?_
        refine lv_bipush (v := 41) hx hb dX8_isF_50 (by decide) ?_
        refine g_ki h (g_runV X h (As := [.int 41]) (rest := []) (c_X8_is gl Z v43 w 41 ((rdE t z 3 (a + 1)).2.1) z hP43.2.2.1 hP43.2.1 hP43.2.2.2.2.2.2.1 hP43.2.2.2.2.2.1) mi_X8_is ml_RX8_167 (cc_116) (by decide) kl8 rfl ⟨Nat.le_of_ble_eq_true rfl, Nat.le_of_ble_eq_true rfl⟩ rfl hl.1 rfl (Nat.le_of_ble_eq_true rfl) dX8_isF_52) (fun r52 v52 w52 H locs hp52 h => ?_)
        obtain ⟨hr52, hu52⟩ := hp52
        obtain ⟨hv52, rfl⟩ := Prod.mk.inj hu52
        rw [hP43.1] at hr52 hv52
        refine lv_if_eq (tgt := 62) hx hb dX8_isF_55 (by decide) (fun c_55 => ?_) (fun c_55 => ?_)
        · skip
          rw [hr52, bI_0] at c_55
          rw [c_55, if_neg (by decide)] at hv52
          refine lv_iconst (v := 0) hx hb dX8_isF_62 (by decide) ?_
          refine lv_istore_n (lv' := [(1, .int 0), (0, .ref (zg Z 116))]) hx hb dX8_isF_63 rfl hl (by decide) rfl (fun ls hl => ?_)
          refine lv_goto (tgt := 72) hx hb dX8_isF_64 (by decide) ?_
          refine lv_aload_n hx hb dX8_isF_72 rfl (lv_at hl 1 rfl) ?_
          refine lv_dup hx hb dX8_isF_73 rfl ?_
          refine g_geti X h (k := 24) (cc_116) fr_RX8_186 rfl (by decide) dX8_isF_74 ?_
          refine lv_iconst (v := 1) hx hb dX8_isF_77 (by decide) ?_
          refine lv_isub hx hb dX8_isF_78 ?_
          refine g_puti X h (k := 24) (cc_116) fp_RX8_186 rfl (by decide) dX8_isF_79 (fun v79 H locs ev79 h => ?_)
          refine lv_iload_n hx hb dX8_isF_82 rfl (lv_at hl 0 rfl) ?_
          exact g_nret X h dX8_isF_83 rfl (rd_out (rdF_pm (d := 3) hf33 hat c_46 c_55) rfl (rd_no (by rw [ev79]; exact PF_up (by rw [← hv52]; exact PF_trans hF36 hq43.1 (Nat.le_refl _)) (by decide)) (by show v79 116 23 = _; rw [ev79, up24_23, ← hv52]; exact hq43.2.1)))
        · skip
          rw [hr52, bI_n] at c_55
          rw [if_pos c_55] at hv52
          refine lv_iconst (v := 1) hx hb dX8_isF_58 (by decide) ?_
          refine lv_goto (tgt := 63) hx hb dX8_isF_59 (by decide) ?_
          refine lv_istore_n (lv' := [(1, .int 1), (0, .ref (zg Z 116))]) hx hb dX8_isF_63 rfl hl (by decide) rfl (fun ls hl => ?_)
          refine lv_goto (tgt := 72) hx hb dX8_isF_64 (by decide) ?_
          refine lv_aload_n hx hb dX8_isF_72 rfl (lv_at hl 1 rfl) ?_
          refine lv_dup hx hb dX8_isF_73 rfl ?_
          refine g_geti X h (k := 24) (cc_116) fr_RX8_186 rfl (by decide) dX8_isF_74 ?_
          refine lv_iconst (v := 1) hx hb dX8_isF_77 (by decide) ?_
          refine lv_isub hx hb dX8_isF_78 ?_
          refine g_puti X h (k := 24) (cc_116) fp_RX8_186 rfl (by decide) dX8_isF_79 (fun v79 H locs ev79 h => ?_)
          refine lv_iload_n hx hb dX8_isF_82 rfl (lv_at hl 0 rfl) ?_
          exact g_nret X h dX8_isF_83 rfl (rd_out (rdF_py (d := 3) hf33 hat c_46 c_55) rfl (rd_yes (by rw [ev79]; exact PF_up (by rw [← hv52]; exact PF_up (PF_trans hF36 hq43.1 (Nat.le_refl _)) (by decide)) (by decide)) (by rw [ev79, ← hv52]; exact PS_close (PS_at hP43 (by omega) (isAt_lt c_55))) (by rw [ev79, ← hv52]; exact TK_up (TK_up hT43))))
  · skip
    rw [hr3, bI_n] at c_6
    rw [if_pos c_6] at hv3
    have hat : isAt t z a 33 = true := by simpa using c_6
    have hP3 : PS v3 t z (a + 1) c 1 := by rw [← hv3]; exact PS_open hP (isAt_lt hat)
    have hF3 : PF c v v3 := by rw [← hv3]; exact PF_up (PF_up (PF_refl _ _) (by decide)) (by decide)
    refine lv_aload_n hx hb dX8_isF_9 rfl (lv_at hl 0 rfl) ?_
    refine g_ki h (g_runV X h (As := []) (rest := []) (c_X8_isF_3 gl Z v3 w t z (a + 1) c hP3) mi_X8_isF ml_RX8_192 (cc_116) (by decide) kl8 rfl ⟨Nat.le_of_ble_eq_true rfl, Nat.le_of_ble_eq_true rfl⟩ rfl hl.1 rfl (Nat.le_of_ble_eq_true rfl) dX8_isF_10) (fun r10 v10 w10 H locs hp10 h => ?_)
    obtain ⟨hr10, hu10, hq10⟩ := hp10
    obtain ⟨-, rfl⟩ := Prod.mk.inj hu10
    replace hq10 : PR t z _ _ _ v10 _ := hq10
    refine lv_if_eq (tgt := 28) hx hb dX8_isF_13 (by decide) (fun c_13 => ?_) (fun c_13 => ?_)
    · skip
      rw [hr10, bI_0] at c_13
      refine lv_iconst (v := 0) hx hb dX8_isF_28 (by decide) ?_
      refine lv_istore_n (lv' := [(1, .int 0), (0, .ref (zg Z 116))]) hx hb dX8_isF_29 rfl hl (by decide) rfl (fun ls hl => ?_)
      refine lv_goto (tgt := 72) hx hb dX8_isF_30 (by decide) ?_
      refine lv_aload_n hx hb dX8_isF_72 rfl (lv_at hl 1 rfl) ?_
      refine lv_dup hx hb dX8_isF_73 rfl ?_
      refine g_geti X h (k := 24) (cc_116) fr_RX8_186 rfl (by decide) dX8_isF_74 ?_
      refine lv_iconst (v := 1) hx hb dX8_isF_77 (by decide) ?_
      refine lv_isub hx hb dX8_isF_78 ?_
      refine g_puti X h (k := 24) (cc_116) fp_RX8_186 rfl (by decide) dX8_isF_79 (fun v79 H locs ev79 h => ?_)
      refine lv_iload_n hx hb dX8_isF_82 rfl (lv_at hl 0 rfl) ?_
      exact g_nret X h dX8_isF_83 rfl (rd_out (rdF_n (d := 3) hat c_13) rfl (rd_no (by rw [ev79]; exact PF_up (PF_trans hF3 hq10.1 (Nat.le_refl _)) (by decide)) (by show v79 116 23 = _; rw [ev79, up24_23]; exact hq10.2.1)))
    · skip
      rw [hr10, bI_n] at c_13
      obtain ⟨hP10, hT10⟩ := hq10.2.2 c_13
      obtain ⟨g1, g2, g3⟩ := rdF_G t z 3 (a + 1) (isAt_lt hat)
      obtain ⟨g4, g5⟩ := g3 c_13
      have hcb := hP.2.2.2.2.2.2.2
      refine lv_aload_n hx hb dX8_isF_16 rfl (lv_at hl 0 rfl) ?_
      refine lv_iconst (v := 2) hx hb dX8_isF_17 (by decide) ?_
      refine g_ki h (g_runV X h (As := [.int 2]) (rest := []) (c_X8_codes gl Z v10 w 2 (c + (rdF t z 3 (a + 1)).2.2.length) hP10.2.2.2.1 (by omega)) mi_X8_codes ml_RX8_183 (cc_116) (by decide) kl8 rfl ⟨Nat.le_of_ble_eq_true rfl, Nat.le_of_ble_eq_true rfl⟩ rfl hl.1 rfl (Nat.le_of_ble_eq_true rfl) dX8_isF_18) (fun r18 v18 w18 H locs hp18 h => ?_)
      obtain ⟨hr18, hu18⟩ := hp18
      obtain ⟨hv18, rfl⟩ := Prod.mk.inj hu18
      refine lv_if_eq (tgt := 28) hx hb dX8_isF_21 (by decide) (fun c_21 => ?_) (fun c_21 => ?_)
      · exact absurd c_21 (by rw [hr18]; decide)
      · skip
        refine lv_iconst (v := 1) hx hb dX8_isF_24 (by decide) ?_
        refine lv_goto (tgt := 29) hx hb dX8_isF_25 (by decide) ?_
        refine lv_istore_n (lv' := [(1, .int 1), (0, .ref (zg Z 116))]) hx hb dX8_isF_29 rfl hl (by decide) rfl (fun ls hl => ?_)
        refine lv_goto (tgt := 72) hx hb dX8_isF_30 (by decide) ?_
        refine lv_aload_n hx hb dX8_isF_72 rfl (lv_at hl 1 rfl) ?_
        refine lv_dup hx hb dX8_isF_73 rfl ?_
        refine g_geti X h (k := 24) (cc_116) fr_RX8_186 rfl (by decide) dX8_isF_74 ?_
        refine lv_iconst (v := 1) hx hb dX8_isF_77 (by decide) ?_
        refine lv_isub hx hb dX8_isF_78 ?_
        refine g_puti X h (k := 24) (cc_116) fp_RX8_186 rfl (by decide) dX8_isF_79 (fun v79 H locs ev79 h => ?_)
        refine lv_iload_n hx hb dX8_isF_82 rfl (lv_at hl 0 rfl) ?_
        exact g_nret X h dX8_isF_83 rfl (rd_out (rdF_y (d := 3) hat c_13) rfl (rd_yes (by rw [ev79]; exact PF_up (by rw [← hv18]; exact PF_code (PF_up (PF_trans hF3 hq10.1 (Nat.le_refl _)) (by decide)) (by omega)) (by decide)) (by rw [ev79, ← hv18]; exact PS_close (PS_len (PS_code hP10 (by omega)))) (by rw [ev79, ← hv18]; exact TK_up (TK_snoc hT10))))

set_option maxRecDepth 100000 in
set_option maxHeartbeats 1000000 in
theorem c_X8_isT_4 (gl : Launch) (Z : PL) (v : VV) (w : WV) (t : Nat → Int32) (z : Nat) (a : Nat) (c : Nat) (hP : PS v t z a c 0) : CT gl yX8_isT cX8_isT 1 (some .boolean) 18 378 Z [.ref (zg Z 116)] v w (Qi Z (fun r u => r = bI (rdA t z 4 a).1 ∧ (u.1, w) = u ∧ PR t z c 0 v u.1 (rdA t z 4 a))) := by
  refine g_met (by decide) (Nat.le_of_ble_eq_true rfl) ?_
  intro gp ge gs gm ga gb gh gc X h ls hl
  have hx := X.1
  have hb := X.2.1
  have hl : lv_has ls 1 [(0, .ref (zg Z 116))] := hl
  refine lv_aload_n hx hb dX8_isT_0 rfl (lv_at hl 0 rfl) ?_
  refine g_ki h (g_runV X h (As := []) (rest := []) (c_X8_isF_4 gl Z v w t z a c hP) mi_X8_isF ml_RX8_192 (cc_116) (by decide) kl8 rfl ⟨Nat.le_of_ble_eq_true rfl, Nat.le_of_ble_eq_true rfl⟩ rfl hl.1 rfl (Nat.le_of_ble_eq_true rfl) dX8_isT_1) (fun r1 v1 w1 H locs hp1 h => ?_)
  obtain ⟨hr1, hu1, hq1⟩ := hp1
  obtain ⟨-, rfl⟩ := Prod.mk.inj hu1
  replace hq1 : PR t z _ _ _ v1 _ := hq1
  refine lv_if_ne (tgt := 9) hx hb dX8_isT_4 (by decide) (fun c_4 => ?_) (fun c_4 => ?_)
  · skip
    rw [hr1, bI_n] at c_4
    obtain ⟨hP1, hT1⟩ := hq1.2.2 c_4
    obtain ⟨g1, g2, g3⟩ := rdF_G t z 4 a hP.2.2.2.2.2.2.1
    obtain ⟨g4, g5⟩ := g3 c_4
    have L9 : ∀ (n9 : Nat) (f b : Nat) (l : List Nat) (va : VV), (rdA t z 4 a = rdL (rdF t z 4) t z 38 0 f b l) → (z - b ≤ f) → (PS va t z b (c + l.length) 0) → (TK va c l) → (PF c v va) → (l.length + a ≤ b) → z - b < n9 → ∀ (H : Heap) (locs : List Loc), HS Z gs va w H locs → ∀ ls : Array Slot, lv_has ls 1 [(0, .ref (zg Z 116))] → W gp gl ge (rmm 18 378) gs gm ga gb gh gc H locs 0 0 (MQ gb (Qi Z (fun r u => r = bI (rdA t z 4 a).1 ∧ (u.1, w) = u ∧ PR t z c 0 v u.1 (rdA t z 4 a))) ga gs 0 0 (zA Z)) (F0 gm 9 ls []) := by
      intro n9
      induction n9 with
      | zero => intro f b l va e hf hPa hTa hFa hll hmu; exact absurd hmu (Nat.not_lt_zero _)
      | succ n9 ih9 =>
        intro f b l va e hf hPa hTa hFa hll hmu9 H locs h ls hl
        refine lv_aload_n hx hb dX8_isT_9 rfl (lv_at hl 0 rfl) ?_
        refine lv_bipush (v := 38) hx hb dX8_isT_10 (by decide) ?_
        refine g_ki h (g_runV X h (As := [.int 38]) (rest := []) (c_X8_is gl Z va w 38 b z hPa.2.2.1 hPa.2.1 hPa.2.2.2.2.2.2.1 hPa.2.2.2.2.2.1) mi_X8_is ml_RX8_167 (cc_116) (by decide) kl8 rfl ⟨Nat.le_of_ble_eq_true rfl, Nat.le_of_ble_eq_true rfl⟩ rfl hl.1 rfl (Nat.le_of_ble_eq_true rfl) dX8_isT_12) (fun r12 v12 w12 H locs hp12 h => ?_)
        obtain ⟨hr12, hu12⟩ := hp12
        obtain ⟨hv12, rfl⟩ := Prod.mk.inj hu12
        rw [hPa.1] at hr12 hv12
        refine lv_if_eq (tgt := 35) hx hb dX8_isT_15 (by decide) (fun c_15 => ?_) (fun c_15 => ?_)
        · skip
          rw [hr12, bI_0] at c_15
          rw [c_15, if_neg (by decide)] at hv12
          refine lv_iconst (v := 1) hx hb dX8_isT_35 (by decide) ?_
          exact g_nret X h dX8_isT_36 rfl (rd_out (e.trans (rdL_s c_15)) rfl (rd_yes (by rw [← hv12]; exact hFa) (by rw [← hv12]; exact hPa) (by rw [← hv12]; exact hTa)))
        · skip
          rw [hr12, bI_n] at c_15
          rw [if_pos c_15] at hv12
          have hlt := isAt_lt c_15
          have hP12 : PS v12 t z (b + 1) (c + l.length) 0 := by rw [← hv12]; exact PS_at hPa (by omega) hlt
          refine lv_aload_n hx hb dX8_isT_18 rfl (lv_at hl 0 rfl) ?_
          refine g_ki h (g_runV X h (As := []) (rest := []) (c_X8_isF_4 gl Z v12 w t z (b + 1) (c + l.length) hP12) mi_X8_isF ml_RX8_192 (cc_116) (by decide) kl8 rfl ⟨Nat.le_of_ble_eq_true rfl, Nat.le_of_ble_eq_true rfl⟩ rfl hl.1 rfl (Nat.le_of_ble_eq_true rfl) dX8_isT_19) (fun r19 v19 w19 H locs hp19 h => ?_)
          obtain ⟨hr19, hu19, hq19⟩ := hp19
          obtain ⟨-, rfl⟩ := Prod.mk.inj hu19
          replace hq19 : PR t z _ _ _ v19 _ := hq19
          refine lv_if_eq (tgt := 33) hx hb dX8_isT_22 (by decide) (fun c_22 => ?_) (fun c_22 => ?_)
          · skip
            rw [hr19, bI_0] at c_22
            refine lv_iconst (v := 0) hx hb dX8_isT_33 (by decide) ?_
            exact g_nret X h dX8_isT_34 rfl (rd_out (e.trans (rdL_n c_15 hf c_22)) rfl (rd_no (PF_trans (by rw [← hv12]; exact PF_up hFa (by decide)) hq19.1 (by omega)) hq19.2.1))
          · skip
            rw [hr19, bI_n] at c_22
            obtain ⟨g1, g2, g3⟩ := rdF_G t z 4 (b + 1) hlt
            obtain ⟨g4, g5⟩ := g3 c_22
            have hcb := hP.2.2.2.2.2.2.2
            refine lv_aload_n hx hb dX8_isT_25 rfl (lv_at hl 0 rfl) ?_
            refine lv_iconst (v := 0) hx hb dX8_isT_26 (by decide) ?_
            refine g_ki h (g_runV X h (As := [.int 0]) (rest := []) (c_X8_codes gl Z v19 w 0 (c + l.length + (rdF t z 4 (b + 1)).2.2.length) (hq19.2.2 c_22).1.2.2.2.1 (by omega)) mi_X8_codes ml_RX8_183 (cc_116) (by decide) kl8 rfl ⟨Nat.le_of_ble_eq_true rfl, Nat.le_of_ble_eq_true rfl⟩ rfl hl.1 rfl (Nat.le_of_ble_eq_true rfl) dX8_isT_27) (fun r27 v27 w27 H locs hp27 h => ?_)
            obtain ⟨hr27, hu27⟩ := hp27
            obtain ⟨hv27, rfl⟩ := Prod.mk.inj hu27
            refine lv_if_ne (tgt := 9) hx hb dX8_isT_30 (by decide) (fun c_30 => ?_) (fun c_30 => ?_)
            · skip
              obtain ⟨s1, s2, s3⟩ := rd_step (s := 0) hPa hTa hFa hlt hv12 hq19 c_22 hll hcb g2 g5
              exact ih9 (f - 1) (rdF t z 4 (b + 1)).2.1 (l ++ (rdF t z 4 (b + 1)).2.2 ++ [0]) v27 (e.trans (rdL_y c_15 hf c_22)) (by omega) (by rw [← hv27]; exact s1) (by rw [← hv27]; exact s2) (by rw [← hv27]; exact s3) (by simp only [List.length_append, List.length_singleton]; omega) (by omega) _ _ h ls (lv_sub hl [0] rfl)
            · exact absurd c_30 (by rw [hr27]; decide)
    exact L9 (z - (rdF t z 4 a).2.1 + 1) (z - (rdF t z 4 a).2.1) (rdF t z 4 a).2.1 (rdF t z 4 a).2.2 v1 (rdT_y c_4) (Nat.le_refl _) hP1 hT1 hq1.1 g5 (Nat.lt_succ_self _) _ _ h ls (lv_sub hl [0] rfl)
  · skip
    rw [hr1, bI_0] at c_4
    refine lv_iconst (v := 0) hx hb dX8_isT_7 (by decide) ?_
    exact g_nret X h dX8_isT_8 rfl (rd_out (rdT_n c_4) rfl (rd_no hq1.1 hq1.2.1))

set_option maxRecDepth 100000 in
set_option maxHeartbeats 1000000 in
theorem c_X8_isE_4 (gl : Launch) (Z : PL) (v : VV) (w : WV) (t : Nat → Int32) (z : Nat) (a : Nat) (c : Nat) (hP : PS v t z a c 0) : CT gl yX8_isE cX8_isE 1 (some .boolean) 19 398 Z [.ref (zg Z 116)] v w (Qi Z (fun r u => r = bI (rdE t z 4 a).1 ∧ (u.1, w) = u ∧ PR t z c 0 v u.1 (rdE t z 4 a))) := by
  refine g_met (by decide) (Nat.le_of_ble_eq_true rfl) ?_
  intro gp ge gs gm ga gb gh gc X h ls hl
  have hx := X.1
  have hb := X.2.1
  have hl : lv_has ls 1 [(0, .ref (zg Z 116))] := hl
  refine lv_aload_n hx hb dX8_isE_0 rfl (lv_at hl 0 rfl) ?_
  refine g_ki h (g_runV X h (As := []) (rest := []) (c_X8_isT_4 gl Z v w t z a c hP) mi_X8_isT ml_RX8_201 (cc_116) (by decide) kl8 rfl ⟨Nat.le_of_ble_eq_true rfl, Nat.le_of_ble_eq_true rfl⟩ rfl hl.1 rfl (Nat.le_of_ble_eq_true rfl) dX8_isE_1) (fun r1 v1 w1 H locs hp1 h => ?_)
  obtain ⟨hr1, hu1, hq1⟩ := hp1
  obtain ⟨-, rfl⟩ := Prod.mk.inj hu1
  replace hq1 : PR t z _ _ _ v1 _ := hq1
  refine lv_if_ne (tgt := 9) hx hb dX8_isE_4 (by decide) (fun c_4 => ?_) (fun c_4 => ?_)
  · skip
    rw [hr1, bI_n] at c_4
    obtain ⟨hP1, hT1⟩ := hq1.2.2 c_4
    obtain ⟨g1, g2, g3⟩ := rdA_G t z 4 a hP.2.2.2.2.2.2.1
    obtain ⟨g4, g5⟩ := g3 c_4
    have L9 : ∀ (n9 : Nat) (f b : Nat) (l : List Nat) (va : VV), (rdE t z 4 a = rdL (rdA t z 4) t z 124 1 f b l) → (z - b ≤ f) → (PS va t z b (c + l.length) 0) → (TK va c l) → (PF c v va) → (l.length + a ≤ b) → z - b < n9 → ∀ (H : Heap) (locs : List Loc), HS Z gs va w H locs → ∀ ls : Array Slot, lv_has ls 1 [(0, .ref (zg Z 116))] → W gp gl ge (rmm 19 398) gs gm ga gb gh gc H locs 0 0 (MQ gb (Qi Z (fun r u => r = bI (rdE t z 4 a).1 ∧ (u.1, w) = u ∧ PR t z c 0 v u.1 (rdE t z 4 a))) ga gs 0 0 (zA Z)) (F0 gm 9 ls []) := by
      intro n9
      induction n9 with
      | zero => intro f b l va e hf hPa hTa hFa hll hmu; exact absurd hmu (Nat.not_lt_zero _)
      | succ n9 ih9 =>
        intro f b l va e hf hPa hTa hFa hll hmu9 H locs h ls hl
        refine lv_aload_n hx hb dX8_isE_9 rfl (lv_at hl 0 rfl) ?_
        refine lv_bipush (v := 124) hx hb dX8_isE_10 (by decide) ?_
        refine g_ki h (g_runV X h (As := [.int 124]) (rest := []) (c_X8_is gl Z va w 124 b z hPa.2.2.1 hPa.2.1 hPa.2.2.2.2.2.2.1 hPa.2.2.2.2.2.1) mi_X8_is ml_RX8_167 (cc_116) (by decide) kl8 rfl ⟨Nat.le_of_ble_eq_true rfl, Nat.le_of_ble_eq_true rfl⟩ rfl hl.1 rfl (Nat.le_of_ble_eq_true rfl) dX8_isE_12) (fun r12 v12 w12 H locs hp12 h => ?_)
        obtain ⟨hr12, hu12⟩ := hp12
        obtain ⟨hv12, rfl⟩ := Prod.mk.inj hu12
        rw [hPa.1] at hr12 hv12
        refine lv_if_eq (tgt := 35) hx hb dX8_isE_15 (by decide) (fun c_15 => ?_) (fun c_15 => ?_)
        · skip
          rw [hr12, bI_0] at c_15
          rw [c_15, if_neg (by decide)] at hv12
          refine lv_iconst (v := 1) hx hb dX8_isE_35 (by decide) ?_
          exact g_nret X h dX8_isE_36 rfl (rd_out (e.trans (rdL_s c_15)) rfl (rd_yes (by rw [← hv12]; exact hFa) (by rw [← hv12]; exact hPa) (by rw [← hv12]; exact hTa)))
        · skip
          rw [hr12, bI_n] at c_15
          rw [if_pos c_15] at hv12
          have hlt := isAt_lt c_15
          have hP12 : PS v12 t z (b + 1) (c + l.length) 0 := by rw [← hv12]; exact PS_at hPa (by omega) hlt
          refine lv_aload_n hx hb dX8_isE_18 rfl (lv_at hl 0 rfl) ?_
          refine g_ki h (g_runV X h (As := []) (rest := []) (c_X8_isT_4 gl Z v12 w t z (b + 1) (c + l.length) hP12) mi_X8_isT ml_RX8_201 (cc_116) (by decide) kl8 rfl ⟨Nat.le_of_ble_eq_true rfl, Nat.le_of_ble_eq_true rfl⟩ rfl hl.1 rfl (Nat.le_of_ble_eq_true rfl) dX8_isE_19) (fun r19 v19 w19 H locs hp19 h => ?_)
          obtain ⟨hr19, hu19, hq19⟩ := hp19
          obtain ⟨-, rfl⟩ := Prod.mk.inj hu19
          replace hq19 : PR t z _ _ _ v19 _ := hq19
          refine lv_if_eq (tgt := 33) hx hb dX8_isE_22 (by decide) (fun c_22 => ?_) (fun c_22 => ?_)
          · skip
            rw [hr19, bI_0] at c_22
            refine lv_iconst (v := 0) hx hb dX8_isE_33 (by decide) ?_
            exact g_nret X h dX8_isE_34 rfl (rd_out (e.trans (rdL_n c_15 hf c_22)) rfl (rd_no (PF_trans (by rw [← hv12]; exact PF_up hFa (by decide)) hq19.1 (by omega)) hq19.2.1))
          · skip
            rw [hr19, bI_n] at c_22
            obtain ⟨g1, g2, g3⟩ := rdA_G t z 4 (b + 1) hlt
            obtain ⟨g4, g5⟩ := g3 c_22
            have hcb := hP.2.2.2.2.2.2.2
            refine lv_aload_n hx hb dX8_isE_25 rfl (lv_at hl 0 rfl) ?_
            refine lv_iconst (v := 1) hx hb dX8_isE_26 (by decide) ?_
            refine g_ki h (g_runV X h (As := [.int 1]) (rest := []) (c_X8_codes gl Z v19 w 1 (c + l.length + (rdA t z 4 (b + 1)).2.2.length) (hq19.2.2 c_22).1.2.2.2.1 (by omega)) mi_X8_codes ml_RX8_183 (cc_116) (by decide) kl8 rfl ⟨Nat.le_of_ble_eq_true rfl, Nat.le_of_ble_eq_true rfl⟩ rfl hl.1 rfl (Nat.le_of_ble_eq_true rfl) dX8_isE_27) (fun r27 v27 w27 H locs hp27 h => ?_)
            obtain ⟨hr27, hu27⟩ := hp27
            obtain ⟨hv27, rfl⟩ := Prod.mk.inj hu27
            refine lv_if_ne (tgt := 9) hx hb dX8_isE_30 (by decide) (fun c_30 => ?_) (fun c_30 => ?_)
            · skip
              obtain ⟨s1, s2, s3⟩ := rd_step (s := 1) hPa hTa hFa hlt hv12 hq19 c_22 hll hcb g2 g5
              exact ih9 (f - 1) (rdA t z 4 (b + 1)).2.1 (l ++ (rdA t z 4 (b + 1)).2.2 ++ [1]) v27 (e.trans (rdL_y c_15 hf c_22)) (by omega) (by rw [← hv27]; exact s1) (by rw [← hv27]; exact s2) (by rw [← hv27]; exact s3) (by simp only [List.length_append, List.length_singleton]; omega) (by omega) _ _ h ls (lv_sub hl [0] rfl)
            · exact absurd c_30 (by rw [hr27]; decide)
    exact L9 (z - (rdA t z 4 a).2.1 + 1) (z - (rdA t z 4 a).2.1) (rdA t z 4 a).2.1 (rdA t z 4 a).2.2 v1 (rdT_y c_4) (Nat.le_refl _) hP1 hT1 hq1.1 g5 (Nat.lt_succ_self _) _ _ h ls (lv_sub hl [0] rfl)
  · skip
    rw [hr1, bI_0] at c_4
    refine lv_iconst (v := 0) hx hb dX8_isE_7 (by decide) ?_
    exact g_nret X h dX8_isE_8 rfl (rd_out (rdT_n c_4) rfl (rd_no hq1.1 hq1.2.1))
