/-! the class: an E, read in one loop -/
def rdZ (q : Nat → RD) (t : Nat → Int32) (z : Nat) (x : Int32) (s : Nat) (a : Nat) (l : List Nat) : RD := rdL q t z x s (z - a) a l
theorem rdL_en {q : Nat → RD} {t : Nat → Int32} {z : Nat} {x : Int32} {s : Nat} (hG : rdG q z) : ∀ (n f : Nat), f ≤ n → ∀ (a : Nat) (l : List Nat), z ≤ f + a → a ≤ z → rdL q t z x s f a l = rdZ q t z x s a l := by
  intro n
  induction n with
  | zero =>
    intro f hf a l h1 h2
    rw [show f = 0 by omega, rdZ, show z - a = 0 by omega]
  | succ n ih =>
    intro f hf a l h1 h2
    rcases Nat.eq_zero_or_pos f with h0 | h0
    · rw [h0, rdZ, show z - a = 0 by omega]
    · obtain ⟨f, rfl⟩ : ∃ g, f = g + 1 := ⟨f - 1, by omega⟩
      by_cases c1 : isAt t z a x = true
      · have hlt := isAt_lt c1
        rw [rdZ, show z - a = (z - a - 1) + 1 by omega, rdL, rdL, if_pos c1, if_pos c1]
        obtain ⟨g1, g2, -⟩ := hG (a + 1) hlt
        split
        · rw [ih f (by omega) _ _ (by omega) g2, ih (z - a - 1) (by omega) _ _ (by omega) g2]
        · rfl
      · have e : ∀ k, rdL q t z x s k a l = (true, a, l) := by
          intro k
          cases k with
          | zero => rfl
          | succ k => rw [rdL, if_neg c1]
        rw [rdZ, e, e]
theorem rdZ_y {q : Nat → RD} {t : Nat → Int32} {z a : Nat} {x : Int32} {s : Nat} {l : List Nat} (hG : rdG q z) (c1 : isAt t z a x = true) (c2 : (q (a + 1)).1 = true) : rdZ q t z x s a l = rdZ q t z x s (q (a + 1)).2.1 (l ++ (q (a + 1)).2.2 ++ [s]) := by
  have hlt := isAt_lt c1
  obtain ⟨g1, g2, -⟩ := hG (a + 1) hlt
  rw [rdZ, show z - a = (z - a - 1) + 1 by omega, rdL, if_pos c1, if_pos c2]
  exact rdL_en hG _ _ (Nat.le_refl _) _ _ (by omega) g2
theorem rdZ_n {q : Nat → RD} {t : Nat → Int32} {z a : Nat} {x : Int32} {s : Nat} {l : List Nat} (c1 : isAt t z a x = true) (c2 : (q (a + 1)).1 = false) : rdZ q t z x s a l = (false, (q (a + 1)).2.1, []) := by
  have hlt := isAt_lt c1
  rw [rdZ, show z - a = (z - a - 1) + 1 by omega, rdL, if_pos c1, if_neg (by rw [c2]; decide)]
theorem rdZ_e {q : Nat → RD} {t : Nat → Int32} {z a : Nat} {x : Int32} {s : Nat} {l : List Nat} (c1 : isAt t z a x = false) : rdZ q t z x s a l = (true, a, l) := by
  rw [rdZ]
  cases z - a with
  | zero => rfl
  | succ k => rw [rdL, if_neg (by rw [c1]; decide)]
theorem rdT_Z {q : Nat → RD} {t : Nat → Int32} {z a : Nat} {x : Int32} {s : Nat} : rdT q t z x s a = if (q a).1 then rdZ q t z x s (q a).2.1 (q a).2.2 else (false, (q a).2.1, []) := rfl
/-- the T begun, and the E, from here on -/
def rsT (t : Nat → Int32) (z d : Nat) (ia : Bool) (a : Nat) (li : List Nat) : RD := if (rdF t z d a).1 then rdZ (rdF t z d) t z 38 0 (rdF t z d a).2.1 (if ia then li ++ (rdF t z d a).2.2 ++ [0] else (rdF t z d a).2.2) else (false, (rdF t z d a).2.1, [])
def rsE (t : Nat → Int32) (z d : Nat) (ia io : Bool) (a : Nat) (lo li : List Nat) : RD := if (rsT t z d ia a li).1 then rdZ (rdA t z d) t z 124 1 (rsT t z d ia a li).2.1 (if io then lo ++ (rsT t z d ia a li).2.2 ++ [1] else (rsT t z d ia a li).2.2) else (false, (rsT t z d ia a li).2.1, [])
section RSE
variable {t : Nat → Int32} {z d a : Nat} {ia io : Bool} {lo li : List Nat}
theorem rsT_0 : rsT t z d false a [] = rdA t z d a := by rw [rsT, rdA, rdT_Z]; rfl
theorem rsE_0 : rdE t z d a = rsE t z d false false a [] [] := by rw [rsE, rsT_0, rdE, rdT_Z]; rfl
theorem rsE_n (h : (rdF t z d a).1 = false) : rsE t z d ia io a lo li = (false, (rdF t z d a).2.1, []) := by
  have e : rsT t z d ia a li = (false, (rdF t z d a).2.1, []) := by rw [rsT, if_neg (by rw [h]; decide)]
  rw [rsE, e, if_neg (fun q => by cases q)]
def liN (t : Nat → Int32) (z d : Nat) (ia : Bool) (a : Nat) (li : List Nat) : List Nat := if ia then li ++ (rdF t z d a).2.2 ++ [0] else (rdF t z d a).2.2
theorem rsT_and (h : (rdF t z d a).1 = true) (h2 : isAt t z (rdF t z d a).2.1 38 = true) : rsT t z d ia a li = rsT t z d true ((rdF t z d a).2.1 + 1) (liN t z d ia a li) := by
  rw [rsT, if_pos h]
  show rdZ _ t z 38 0 (rdF t z d a).2.1 (liN t z d ia a li) = _
  cases h3 : (rdF t z d ((rdF t z d a).2.1 + 1)).1 with
  | true => rw [rdZ_y (rdF_G t z d) h2 h3, rsT, if_pos h3]; rfl
  | false => rw [rdZ_n h2 h3, rsT, if_neg (by rw [h3]; decide)]
theorem rsE_and (h : (rdF t z d a).1 = true) (h2 : isAt t z (rdF t z d a).2.1 38 = true) : rsE t z d ia io a lo li = rsE t z d true io ((rdF t z d a).2.1 + 1) lo (liN t z d ia a li) := by
  rw [rsE, rsT_and h h2]; rfl
theorem rsT_end (h : (rdF t z d a).1 = true) (h2 : isAt t z (rdF t z d a).2.1 38 = false) : rsT t z d ia a li = (true, (rdF t z d a).2.1, liN t z d ia a li) := by
  rw [rsT, if_pos h]
  exact rdZ_e h2
theorem rsE_mid (h : (rdF t z d a).1 = true) (h2 : isAt t z (rdF t z d a).2.1 38 = false) : rsE t z d ia io a lo li = rdZ (rdA t z d) t z 124 1 (rdF t z d a).2.1 (if io then lo ++ liN t z d ia a li ++ [1] else liN t z d ia a li) := by
  rw [rsE, rsT_end h h2, if_pos rfl]
theorem rsE_or (h : (rdF t z d a).1 = true) (h2 : isAt t z (rdF t z d a).2.1 38 = false) (h3 : isAt t z (rdF t z d a).2.1 124 = true) : rsE t z d ia io a lo li = rsE t z d false true ((rdF t z d a).2.1 + 1) (if io then lo ++ liN t z d ia a li ++ [1] else liN t z d ia a li) [] := by
  rw [rsE_mid h h2]
  cases h4 : (rdA t z d ((rdF t z d a).2.1 + 1)).1 with
  | true => rw [rdZ_y (rdA_G t z d) h3 h4, rsE, rsT_0, if_pos h4]; rfl
  | false => rw [rdZ_n h3 h4, rsE, rsT_0, if_neg (by rw [h4]; decide)]
theorem rsE_end (h : (rdF t z d a).1 = true) (h2 : isAt t z (rdF t z d a).2.1 38 = false) (h3 : isAt t z (rdF t z d a).2.1 124 = false) : rsE t z d ia io a lo li = (true, (rdF t z d a).2.1, if io then lo ++ liN t z d ia a li ++ [1] else liN t z d ia a li) := by
  rw [rsE_mid h h2]
  exact rdZ_e h3
end RSE
theorem rdF_z (t : Nat → Int32) (z : Nat) : ∀ d, rdF t z d z = (false, z, []) := by
  have e : tstR t z z = (false, z, []) := by unfold tstR; rw [if_neg (fun q => absurd q.1 (Nat.lt_irrefl _))]
  intro d
  cases d with
  | zero => exact e
  | succ d => rw [rdF_t (isAt_f1 rfl) (isAt_f1 rfl)]; exact e
theorem tst_b {t : Nat → Int32} {z a : Nat} {x : Int32} (h : isAt t z a x = true) (hx : x = 33 ∨ x = 40) : tstR t z a = (false, a, []) := by
  apply tstR_l
  have e : t a = x := by simp [isAt] at h; exact h.2
  rw [oneS, if_pos (isAt_lt h), e]
  rcases hx with rfl | rfl <;> decide
def bN (b : Bool) : Nat := if b then 1 else 0
theorem RT_no {z lb s b : Nat} {v u : VV} (h : FT v u lb s) (h2 : u 108 2 = nI b) : RT z lb s v u (false, b, []) := ⟨h, h2, fun q => by cases q⟩
theorem RT_yes {z lb s b : Nat} {v u : VV} {l : List Nat} (h : FT v u lb s) (h2 : u 108 2 = nI b) (h3 : TS u lb s l) : RT z lb s v u (true, b, l) := ⟨h, h2, fun _ => h3⟩
theorem RT_eq {z lb s : Nat} {v u : VV} {r : Int32} {w : WV} {R e : RD} (he : e = R) (hr : r = bI R.1) (h : RT z lb s v u R) : r = bI e.1 ∧ (u, w) = (u, w) ∧ RT z lb s v u e := by subst he; exact ⟨hr, rfl, h⟩
set_option maxRecDepth 100000 in
set_option maxHeartbeats 1000000 in
theorem c_X5_test (gl : Launch) (Z : PL) (v : VV) (w : WV) (t : Nat → Int32) (z : Nat) (a : Nat) (hP : PT v t z a) (j : Nat) (hj7 : j < 7) (s : Nat) (hs : v (2 + 7 * j) 9 = nI s) (hsz : s + (z - a) ≤ 100) : CT gl yX5_test cX5_test 5 (some .boolean) 5 113 Z [.ref (zg Z 108), .ref (zg Z (2 + 7 * j))] v w (Qi Z (fun r u => r = bI (tstR t z a).1 ∧ (u.1, w) = u ∧ RT z (2 + 7 * j) s v u.1 (tstR t z a))) := by
  refine g_met (by decide) (Nat.le_of_ble_eq_true rfl) ?_
  intro gp ge gs gm ga gb gh gc X h ls hl
  have hx := X.1
  have hb := X.2.1
  have hl : lv_has ls 5 [(0, .ref (zg Z 108)), (1, .ref (zg Z (2 + 7 * j)))] := hl
  obtain ⟨ht, hz, ha, hz1, haz, hch⟩ := id hP
  have hL : isL (2 + 7 * j) := isLj hj7
  refine lv_aload_n hx hb dX5_test_0 rfl (lv_at hl 0 rfl) ?_
  refine g_ldcs X sE_5 dX5_test_1 ?_
  refine g_ki h (g_runV X h (As := [.ref (zK Z 5)]) (rest := []) (c_X5_oneOf gl Z v w 5 (by first | decide | assumption) t z a hP) mi_X5_oneOf ml_RX5_100 (cc_108) (by decide) kl5 rfl ⟨Nat.le_of_ble_eq_true rfl, Nat.le_of_ble_eq_true rfl⟩ rfl hl.1 rfl (Nat.le_of_ble_eq_true rfl) dX5_test_3) (fun r3 v3 w3 H locs hp3 h => ?_)
  obtain ⟨hr3, hu3⟩ := hp3
  obtain ⟨ev3, rfl⟩ := Prod.mk.inj hu3
  replace ev3 := ev3.symm
  refine lv_istore_n (lv' := [(2, .int r3), (0, .ref (zg Z 108)), (1, .ref (zg Z (2 + 7 * j)))]) hx hb dX5_test_6 rfl hl (by decide) rfl (fun ls hl => ?_)
  refine lv_iload_n hx hb dX5_test_7 rfl (lv_at hl 0 rfl) ?_
  refine lv_if_ge (tgt := 15) hx hb dX5_test_8 (by decide) (fun c_8 => ?_) (fun c_8 => ?_)
  · skip
    have hl0 : ¬ oneS t z a 5 < 0 := by rw [← hr3]; exact Int32.not_lt.mpr c_8
    rw [if_neg hl0] at ev3
    refine lv_aload_n hx hb dX5_test_15 rfl (lv_at hl 1 rfl) ?_
    refine g_ldcs X sE_6 dX5_test_16 ?_
    refine g_ki h (g_runV X h (As := [.ref (zK Z 6)]) (rest := []) (c_X5_oneOf gl Z v3 w 6 (by first | decide | assumption) t z (a + 1) (by rw [ev3]; exact PT_at hP (by have := oneS_lt hl0; omega))) mi_X5_oneOf ml_RX5_100 (cc_108) (by decide) kl5 rfl ⟨Nat.le_of_ble_eq_true rfl, Nat.le_of_ble_eq_true rfl⟩ rfl hl.1 rfl (Nat.le_of_ble_eq_true rfl) dX5_test_18) (fun r18 v18 w18 H locs hp18 h => ?_)
    obtain ⟨hr18, hu18⟩ := hp18
    obtain ⟨ev18, rfl⟩ := Prod.mk.inj hu18
    replace ev18 := ev18.symm
    refine lv_istore_n (lv' := [(3, .int r18), (2, .int r3), (0, .ref (zg Z 108)), (1, .ref (zg Z (2 + 7 * j)))]) hx hb dX5_test_21 rfl hl (by decide) rfl (fun ls hl => ?_)
    refine lv_iload_n hx hb dX5_test_22 rfl (lv_at hl 0 rfl) ?_
    refine lv_if_ge (tgt := 30) hx hb dX5_test_23 (by decide) (fun c_23 => ?_) (fun c_23 => ?_)
    · skip
      have hg0 : ¬ oneS t z (a + 1) 6 < 0 := by rw [← hr18]; exact Int32.not_lt.mpr c_23
      rw [if_neg hg0] at ev18
      refine lv_aload_n hx hb dX5_test_30 rfl (lv_at hl 2 rfl) ?_
      refine g_ki h (g_runV X h (As := []) (rest := []) (c_X5_number gl Z v18 w t z (a + 2) (by rw [ev18, ev3, up2_up2]; exact PT_at hP (by have := oneS_lt hg0; omega))) mi_X5_number ml_RX5_43 (cc_108) (by decide) kl5 rfl ⟨Nat.le_of_ble_eq_true rfl, Nat.le_of_ble_eq_true rfl⟩ rfl hl.1 rfl (Nat.le_of_ble_eq_true rfl) dX5_test_31) (fun r31 v31 w31 H locs hp31 h => ?_)
      obtain ⟨hr31, hu31⟩ := hp31
      obtain ⟨ev31, rfl⟩ := Prod.mk.inj hu31
      replace ev31 := ev31.symm
      refine lv_istore (lv' := [(4, .int r31), (3, .int r18), (2, .int r3), (0, .ref (zg Z 108)), (1, .ref (zg Z (2 + 7 * j)))]) hx hb dX5_test_34 hl (by decide) rfl (fun ls hl => ?_)
      refine lv_iload hx hb dX5_test_36 (lv_at hl 0 rfl) ?_
      refine lv_if_ge (tgt := 43) hx hb dX5_test_38 (by decide) (fun c_38 => ?_) (fun c_38 => ?_)
      · skip
        have hn0 : ¬ nmC t z (a + 2) = 0 := fun q => absurd (numA_neg.mpr q) (by rw [← hr31]; exact Int32.not_lt.mpr c_38)
        obtain ⟨kl, ekl, hkl9, hkl⟩ := oneS_nat (by decide) hl0
        obtain ⟨kg, ekg, hkg9, hkg⟩ := oneS_nat (by decide) hg0
        refine lv_aload_n hx hb dX5_test_43 rfl (lv_at hl 4 rfl) ?_
        refine lv_iload_n hx hb dX5_test_44 rfl (lv_at hl 2 rfl) ?_
        refine lv_iload_n hx hb dX5_test_45 rfl (lv_at hl 1 rfl) ?_
        refine lv_iload hx hb dX5_test_46 (lv_at hl 0 rfl) ?_
        refine g_kv h (g_runV X h (As := [.int r3, .int r18, .int r31]) (rest := []) (c_X1_addTest gl Z v31 w r3 kl (hr3.trans ekl) r18 kg (hr18.trans ekg) r31 (nmV t (a + 2) (nmC t z (a + 2))) (by rw [hr31, numA, if_neg hn0]) (2 + 7 * j) hL s (by rw [ev31, ev18, ev3, up2_ne (by omega), up2_ne (by omega), up2_ne (by omega)]; exact hs) (by have := oneS_lt hl0; omega) (by have := show strN 5 = 6 from rfl; omega) (by have := show strN 6 = 3 from rfl; omega) (nmV_le (z := z) (nmC_2 t z (a + 2)) (fun j hj => nmC_dig hj))) mi_X1_addTest ml_RX5_106 (cL_0 hL) (by decide) kl1 rfl ⟨Nat.le_of_ble_eq_true rfl, Nat.le_of_ble_eq_true rfl⟩ rfl hl.1 rfl (Nat.le_of_ble_eq_true rfl) dX5_test_48) (fun v48 w48 H locs hp48 h => ?_)
        obtain ⟨ev48, rfl⟩ := Prod.mk.inj hp48
        replace ev48 := ev48.symm
        refine lv_iconst (v := 1) hx hb dX5_test_51 (by decide) ?_
        exact g_nret X h dX5_test_52 rfl (RT_eq (u := v48) ((tstR_n hl0 hg0).trans (if_neg hn0)) rfl (RT_yes (FT_trans (u := v31) (by rw [ev31, ev18, ev3]; exact FT_at (by omega) (FT_at (by omega) (FT_at (by omega) (FT_refl _ _ _)))) (by rw [ev48]; exact FT_atS (by omega)) (Nat.le_refl _)) (by rw [ev48, atS, up2_ne (by omega), up2_ne (by omega), up2_ne (by omega), up2_ne (by omega), ev31, up2_same]) (by rw [ev48, hkl, hkg]; exact TS_atS)))
      · skip
        have hn0 : nmC t z (a + 2) = 0 := numA_neg.mp (by rw [← hr31]; exact Int32.not_le.mp c_38)
        refine lv_iconst (v := 0) hx hb dX5_test_41 (by decide) ?_
        exact g_nret X h dX5_test_42 rfl (RT_eq (u := v31) ((tstR_n hl0 hg0).trans (if_pos hn0)) rfl (RT_no (by rw [ev31, ev18, ev3]; exact FT_at (by omega) (FT_at (by omega) (FT_at (by omega) (FT_refl _ _ _)))) (by rw [ev31, up2_same, hn0])))
    · skip
      have hg0 : oneS t z (a + 1) 6 < 0 := by rw [← hr18]; exact Int32.not_le.mp c_23
      rw [if_pos hg0] at ev18
      refine lv_iconst (v := (-1)) hx hb dX5_test_26 (by decide) ?_
      refine lv_goto (tgt := 34) hx hb dX5_test_27 (by decide) ?_
      refine lv_istore (lv' := [(4, .int (-1)), (3, .int r18), (2, .int r3), (0, .ref (zg Z 108)), (1, .ref (zg Z (2 + 7 * j)))]) hx hb dX5_test_34 hl (by decide) rfl (fun ls hl => ?_)
      refine lv_iload hx hb dX5_test_36 (lv_at hl 0 rfl) ?_
      refine lv_if_ge (tgt := 43) hx hb dX5_test_38 (by decide) (fun q => absurd q (by decide)) (fun _ => ?_)
      refine lv_iconst (v := 0) hx hb dX5_test_41 (by decide) ?_
      exact g_nret X h dX5_test_42 rfl (RT_eq (u := v18) (tstR_g hl0 hg0) rfl (RT_no (by rw [ev18, ev3]; exact FT_at (by omega) (FT_refl _ _ _)) (by rw [ev18, ev3, up2_same])))
  · skip
    have hl0 : oneS t z a 5 < 0 := by rw [← hr3]; exact Int32.not_le.mp c_8
    rw [if_pos hl0] at ev3
    refine lv_iconst (v := (-1)) hx hb dX5_test_11 (by decide) ?_
    refine lv_goto (tgt := 21) hx hb dX5_test_12 (by decide) ?_
    refine lv_istore_n (lv' := [(3, .int (-1)), (2, .int r3), (0, .ref (zg Z 108)), (1, .ref (zg Z (2 + 7 * j)))]) hx hb dX5_test_21 rfl hl (by decide) rfl (fun ls hl => ?_)
    refine lv_iload_n hx hb dX5_test_22 rfl (lv_at hl 0 rfl) ?_
    refine lv_if_ge (tgt := 30) hx hb dX5_test_23 (by decide) (fun q => absurd q (by decide)) (fun _ => ?_)
    refine lv_iconst (v := (-1)) hx hb dX5_test_26 (by decide) ?_
    refine lv_goto (tgt := 34) hx hb dX5_test_27 (by decide) ?_
    refine lv_istore (lv' := [(4, .int (-1)), (3, .int (-1)), (2, .int r3), (0, .ref (zg Z 108)), (1, .ref (zg Z (2 + 7 * j)))]) hx hb dX5_test_34 hl (by decide) rfl (fun ls hl => ?_)
    refine lv_iload hx hb dX5_test_36 (lv_at hl 0 rfl) ?_
    refine lv_if_ge (tgt := 43) hx hb dX5_test_38 (by decide) (fun q => absurd q (by decide)) (fun _ => ?_)
    refine lv_iconst (v := 0) hx hb dX5_test_41 (by decide) ?_
    exact g_nret X h dX5_test_42 rfl (RT_eq (u := v3) (tstR_l hl0) rfl (RT_no (by rw [ev3]; exact FT_refl _ _ _) (by rw [ev3]; exact ha)))

set_option maxRecDepth 100000 in
set_option maxHeartbeats 1000000 in
theorem c_X5_single_4 (gl : Launch) (Z : PL) (v : VV) (w : WV) (t : Nat → Int32) (z : Nat) (a : Nat) (hP : PT v t z a) (j : Nat) (hj7 : j < 7) (s : Nat) (hs : v (2 + 7 * j) 9 = nI s) (hsz : s + (z - a) ≤ 100) : CT gl yX5_single cX5_single 4 (some .boolean) 6 137 Z [.ref (zg Z 108), .ref (zg Z (2 + 7 * j)), .int 4] v w (Qi Z (fun r u => r = bI (rdF t z 0 a).1 ∧ (u.1, w) = u ∧ RT z (2 + 7 * j) s v u.1 (rdF t z 0 a))) := by
  refine g_met (by decide) (Nat.le_of_ble_eq_true rfl) ?_
  intro gp ge gs gm ga gb gh gc X h ls hl
  have hx := X.1
  have hb := X.2.1
  have hl : lv_has ls 4 [(0, .ref (zg Z 108)), (1, .ref (zg Z (2 + 7 * j))), (2, .int 4)] := hl
  obtain ⟨ht, hz, ha, hz1, haz, hch⟩ := id hP
  have hL : isL (2 + 7 * j) := isLj hj7
  refine lv_aload_n hx hb dX5_single_0 rfl (lv_at hl 0 rfl) ?_
  refine g_geti X h (k := 2) (cc_108) fr_RX5_28 rfl (by decide) dX5_single_1 ?_
  refine lv_aload_n hx hb dX5_single_4 rfl (lv_at hl 0 rfl) ?_
  refine g_geti X h (k := 1) (cc_108) fr_RX5_15 rfl (by decide) dX5_single_5 ?_
  refine lv_icmp_ge (tgt := 23) hx hb dX5_single_8 (by decide) (fun c_8 => ?_) (fun c_8 => ?_)
  · skip
    have hle := nI_le1 (a := z) (b := a) hz ha (by omega) (by omega) c_8
    refine lv_iconst (v := (-1)) hx hb dX5_single_23 (by decide) ?_
    refine lv_istore_n (lv' := [(3, .int (-1)), (0, .ref (zg Z 108)), (1, .ref (zg Z (2 + 7 * j))), (2, .int 4)]) hx hb dX5_single_24 rfl hl (by decide) rfl (fun ls hl => ?_)
    refine lv_iload_n hx hb dX5_single_25 rfl (lv_at hl 0 rfl) ?_
    refine lv_bipush (v := 33) hx hb dX5_single_26 (by decide) ?_
    refine lv_icmp_eq (tgt := 43) hx hb dX5_single_28 (by decide) (fun q => absurd q (by decide)) (fun _ => ?_)
    refine lv_iload_n hx hb dX5_single_31 rfl (lv_at hl 0 rfl) ?_
    refine lv_bipush (v := 40) hx hb dX5_single_32 (by decide) ?_
    refine lv_icmp_eq (tgt := 43) hx hb dX5_single_34 (by decide) (fun q => absurd q (by decide)) (fun _ => ?_)
    refine lv_aload_n hx hb dX5_single_37 rfl (lv_at hl 1 rfl) ?_
    refine lv_aload_n hx hb dX5_single_38 rfl (lv_at hl 2 rfl) ?_
    refine g_ki h (g_runV X h (As := [.ref (zg Z (2 + 7 * j))]) (rest := []) (c_X5_test gl Z v w t z a hP j hj7 s hs hsz) mi_X5_test ml_RX5_95 (cc_108) (by decide) kl5 rfl ⟨Nat.le_of_ble_eq_true rfl, Nat.le_of_ble_eq_true rfl⟩ rfl hl.1 rfl (Nat.le_of_ble_eq_true rfl) dX5_single_39) (fun r39 v39 w39 H locs hp39 h => ?_)
    obtain ⟨hr39, hw39, hRT39⟩ := hp39
    obtain ⟨-, rfl⟩ := Prod.mk.inj hw39
    replace hRT39 : RT _ _ _ _ v39 _ := hRT39
    exact g_nret X h dX5_single_42 (by rw [hr39]; exact nar_bI _) (RT_eq (u := v39) (e := rdF t z 0 a) rfl hr39 hRT39)
  · skip
    have hle := nI_le0 (a := z) (b := a) hz ha (by omega) (by omega) c_8
    refine lv_aload_n hx hb dX5_single_11 rfl (lv_at hl 0 rfl) ?_
    refine g_getr X h (k := 0) (t := 109) (cc_108) fr_RX5_11 rfl (by decide) (by decide) (by decide) dX5_single_12 ?_
    refine lv_aload_n hx hb dX5_single_15 rfl (lv_at hl 0 rfl) ?_
    refine g_geti X h (k := 2) (cc_108) fr_RX5_28 rfl (by decide) dX5_single_16 ?_
    refine g_bald X h (k := a) (cc_109) ha (by omega) (by decide) dX5_single_19 ?_
    refine lv_goto (tgt := 24) hx hb dX5_single_20 (by decide) ?_
    refine lv_topi (fun x3_24 ex3_24 => ?_)
    refine lv_istore_n (lv' := [(3, .int x3_24), (0, .ref (zg Z 108)), (1, .ref (zg Z (2 + 7 * j))), (2, .int 4)]) hx hb dX5_single_24 rfl hl (by decide) rfl (fun ls hl => ?_)
    refine lv_iload_n hx hb dX5_single_25 rfl (lv_at hl 0 rfl) ?_
    refine lv_bipush (v := 33) hx hb dX5_single_26 (by decide) ?_
    refine lv_icmp_eq (tgt := 43) hx hb dX5_single_28 (by decide) (fun c_28 => ?_) (fun c_28 => ?_)
    · skip
      have h33 : isAt t z a 33 = true := isAt_t hle (by rw [← ht, ← ex3_24]; exact c_28)
      have h33z := isAt_lt h33
      refine lv_iload_n hx hb dX5_single_43 rfl (lv_at hl 3 rfl) ?_
      refine lv_iconst (v := 4) hx hb dX5_single_44 (by decide) ?_
      refine lv_icmp_lt (tgt := 50) hx hb dX5_single_45 (by decide) (fun q => absurd q (by decide)) (fun _ => ?_)
      refine lv_iconst (v := 0) hx hb dX5_single_48 (by decide) ?_
      exact g_nret X h dX5_single_49 rfl (RT_eq (u := v) (tst_b h33 (Or.inl rfl)) rfl (RT_no (FT_refl _ _ _) ha))
    · skip
      have h33 : isAt t z a 33 = false := isAt_f2 (by rw [← ht, ← ex3_24]; exact c_28)
      refine lv_iload_n hx hb dX5_single_31 rfl (lv_at hl 0 rfl) ?_
      refine lv_bipush (v := 40) hx hb dX5_single_32 (by decide) ?_
      refine lv_icmp_eq (tgt := 43) hx hb dX5_single_34 (by decide) (fun c_34 => ?_) (fun c_34 => ?_)
      · skip
        have h40 : isAt t z a 40 = true := isAt_t hle (by rw [← ht, ← ex3_24]; exact c_34)
        have h33z := isAt_lt h40
        refine lv_iload_n hx hb dX5_single_43 rfl (lv_at hl 3 rfl) ?_
        refine lv_iconst (v := 4) hx hb dX5_single_44 (by decide) ?_
        refine lv_icmp_lt (tgt := 50) hx hb dX5_single_45 (by decide) (fun q => absurd q (by decide)) (fun _ => ?_)
        refine lv_iconst (v := 0) hx hb dX5_single_48 (by decide) ?_
        exact g_nret X h dX5_single_49 rfl (RT_eq (u := v) (tst_b h40 (Or.inr rfl)) rfl (RT_no (FT_refl _ _ _) ha))
      · skip
        have h40 : isAt t z a 40 = false := isAt_f2 (by rw [← ht, ← ex3_24]; exact c_34)
        refine lv_aload_n hx hb dX5_single_37 rfl (lv_at hl 1 rfl) ?_
        refine lv_aload_n hx hb dX5_single_38 rfl (lv_at hl 2 rfl) ?_
        refine g_ki h (g_runV X h (As := [.ref (zg Z (2 + 7 * j))]) (rest := []) (c_X5_test gl Z v w t z a hP j hj7 s hs hsz) mi_X5_test ml_RX5_95 (cc_108) (by decide) kl5 rfl ⟨Nat.le_of_ble_eq_true rfl, Nat.le_of_ble_eq_true rfl⟩ rfl hl.1 rfl (Nat.le_of_ble_eq_true rfl) dX5_single_39) (fun r39 v39 w39 H locs hp39 h => ?_)
        obtain ⟨hr39, hw39, hRT39⟩ := hp39
        obtain ⟨-, rfl⟩ := Prod.mk.inj hw39
        replace hRT39 : RT _ _ _ _ v39 _ := hRT39
        exact g_nret X h dX5_single_42 (by rw [hr39]; exact nar_bI _) (RT_eq (u := v39) (e := rdF t z 0 a) rfl hr39 hRT39)

set_option maxRecDepth 100000 in
set_option maxHeartbeats 1000000 in
theorem c_X5_either_4 (gl : Launch) (Z : PL) (v : VV) (w : WV) (t : Nat → Int32) (z : Nat) (a : Nat) (hP : PT v t z a) (j : Nat) (hj7 : j < 7) (s : Nat) (hs : v (2 + 7 * j) 9 = nI s) (hsz : s + (z - a) ≤ 100) : CT gl yX5_either cX5_either 6 (some .boolean) 7 160 Z [.ref (zg Z 108), .ref (zg Z (2 + 7 * j)), .int 4] v w (Qi Z (fun r u => r = bI (rdE t z 0 a).1 ∧ (u.1, w) = u ∧ RT z (2 + 7 * j) s v u.1 (rdE t z 0 a))) := by
  refine g_met (by decide) (Nat.le_of_ble_eq_true rfl) ?_
  intro gp ge gs gm ga gb gh gc X h ls hl
  have hx := X.1
  have hb := X.2.1
  have hl : lv_has ls 6 [(0, .ref (zg Z 108)), (1, .ref (zg Z (2 + 7 * j))), (2, .int 4)] := hl
  obtain ⟨ht, hz, ha, hz1, haz, hch⟩ := id hP
  have hL : isL (2 + 7 * j) := isLj hj7
  refine lv_iconst (v := 0) hx hb dX5_either_0 (by decide) ?_
  refine lv_istore_n (lv' := [(3, .int 0), (0, .ref (zg Z 108)), (1, .ref (zg Z (2 + 7 * j))), (2, .int 4)]) hx hb dX5_either_1 rfl hl (by decide) rfl (fun ls hl => ?_)
  refine lv_iconst (v := 0) hx hb dX5_either_2 (by decide) ?_
  refine lv_istore (lv' := [(4, .int 0), (3, .int 0), (0, .ref (zg Z 108)), (1, .ref (zg Z (2 + 7 * j))), (2, .int 4)]) hx hb dX5_either_3 hl (by decide) rfl (fun ls hl => ?_)
  refine lv_iconst (v := 0) hx hb dX5_either_5 (by decide) ?_
  refine lv_istore (lv' := [(5, .int 0), (4, .int 0), (3, .int 0), (0, .ref (zg Z 108)), (1, .ref (zg Z (2 + 7 * j))), (2, .int 4)]) hx hb dX5_either_6 hl (by decide) rfl (fun ls hl => ?_)
  have L8 : ∀ (n8 : Nat) (x3 x4 x5 : Int32) (ia io : Bool) (q b : Nat) (lo li : List Nat) (va : VV), (x3 = bI ia) → (x4 = bI io) → (x5 = nI q) → (q ≤ 100) → (a + q ≤ b) → (b ≤ z) → (PT va t z b) → (FT v va (2 + 7 * j) s) → (TS va (2 + 7 * j) s (lo ++ li)) → ((lo ++ li).length + a + bN ia + bN io ≤ b) → (ia = false → li = []) → (io = false → lo = []) → (rdE t z 0 a = rsE t z 0 ia io b lo li) → 100 - q < n8 → ∀ (H : Heap) (locs : List Loc), HS Z gs va w H locs → ∀ ls : Array Slot, lv_has ls 6 [(0, .ref (zg Z 108)), (1, .ref (zg Z (2 + 7 * j))), (2, .int 4), (3, .int x3), (4, .int x4), (5, .int x5)] → W gp gl ge (rmm 7 160) gs gm ga gb gh gc H locs 0 0 (MQ gb (Qi Z (fun r u => r = bI (rdE t z 0 a).1 ∧ (u.1, w) = u ∧ RT z (2 + 7 * j) s v u.1 (rdE t z 0 a))) ga gs 0 0 (zA Z)) (F0 gm 8 ls []) := by
    intro n8
    induction n8 with
    | zero => intro x3 x4 x5 ia io q b lo li va hx3 hx4 hx5 hq hqb hbz hP3 hFT hTS hlen hli hlo hRE hmu; exact absurd hmu (Nat.not_lt_zero _)
    | succ n8 ih8 =>
      intro x3 x4 x5 ia io q b lo li va hx3 hx4 hx5 hq hqb hbz hP3 hFT hTS hlen hli hlo hRE hmu8 H locs h ls hl
      have hF2 := rdF_G t z 0 b hbz
      refine lv_iload hx hb dX5_either_8 (lv_at hl 5 rfl) ?_
      refine lv_bipush (v := 100) hx hb dX5_either_10 (by decide) ?_
      refine lv_icmp_ge (tgt := 78) hx hb dX5_either_12 (by decide) (fun c_12 => ?_) (fun c_12 => ?_)
      · skip
        have hqq := nI_le1 (a := 100) (b := q) rfl hx5 (by omega) (by omega) c_12
        refine lv_iconst (v := 0) hx hb dX5_either_78 (by decide) ?_
        exact g_nret X h dX5_either_79 rfl (RT_eq (u := va) (hRE.trans ((congrArg (fun y => rsE t z 0 ia io y lo li) (show b = z by omega)).trans (rsE_n (by rw [rdF_z])))) rfl (by rw [rdF_z]; exact RT_no hFT (by rw [show z = b by omega]; exact hP3.2.2.1)))
      · skip
        have hqq := nI_le0 (a := 100) (b := q) rfl hx5 (by omega) (by omega) c_12
        refine lv_aload_n hx hb dX5_either_15 rfl (lv_at hl 0 rfl) ?_
        refine lv_aload_n hx hb dX5_either_16 rfl (lv_at hl 1 rfl) ?_
        refine lv_iload_n hx hb dX5_either_17 rfl (lv_at hl 2 rfl) ?_
        refine g_ki h (g_runV X h (As := [.ref (zg Z (2 + 7 * j)), .int 4]) (rest := []) (c_X5_single_4 gl Z va w t z b hP3 j hj7 (s + (lo ++ li).length) hTS.1 (by omega)) mi_X5_single ml_RX5_89 (cc_108) (by decide) kl5 rfl ⟨Nat.le_of_ble_eq_true rfl, Nat.le_of_ble_eq_true rfl⟩ rfl hl.1 rfl (Nat.le_of_ble_eq_true rfl) dX5_either_18) (fun r18 v18 w18 H locs hp18 h => ?_)
        obtain ⟨hr18, hw18, hRT18⟩ := hp18
        obtain ⟨-, rfl⟩ := Prod.mk.inj hw18
        replace hRT18 : RT _ _ _ _ v18 _ := hRT18
        refine lv_if_ne (tgt := 26) hx hb dX5_either_21 (by decide) (fun c_21 => ?_) (fun c_21 => ?_)
        · skip
          rw [hr18, bI_n] at c_21
          refine lv_iload_n hx hb dX5_either_26 rfl (lv_at hl 3 rfl) ?_
          refine lv_if_eq (tgt := 35) hx hb dX5_either_27 (by decide) (fun c_27 => ?_) (fun c_27 => ?_)
          · skip
            rw [hx3, bI_0] at c_27
            have hTS2 : TS v18 (2 + 7 * j) s (lo ++ (liN t z 0 ia b li)) := by
              rw [liN, if_neg (by rw [c_27]; decide)]
              have z2 := TS_app hTS hRT18.1 (hRT18.2.2 c_21)
              rw [hli c_27, List.append_nil] at z2
              exact z2
            have hFT2 : FT v v18 (2 + 7 * j) s := (FT_trans (u := va) hFT hRT18.1 (Nat.le_add_right _ _))
            have hat2 : v18 108 2 = nI (rdF t z 0 b).2.1 := hRT18.2.1
            have hlen2 : (lo ++ (liN t z 0 ia b li)).length + a + bN io ≤ (rdF t z 0 b).2.1 := by
              rw [liN, if_neg (by rw [c_27]; decide), List.length_append]
              rw [hli c_27, List.append_nil, c_27] at hlen
              have z3 := (hF2.2.2 c_21).2
              have z4 : bN false = 0 := rfl
              omega
            refine lv_aload_n hx hb dX5_either_35 rfl (lv_at hl 0 rfl) ?_
            refine lv_bipush (v := 38) hx hb dX5_either_36 (by decide) ?_
            refine g_ki h (g_runV X h (As := [.int 38]) (rest := []) (c_X5_skip gl Z v18 w 38 t z ((rdF t z 0 b).2.1) (PT_FT (by omega) hP hFT2 hat2 hF2.2.1)) mi_X5_skip ml_RX5_35 (cc_108) (by decide) kl5 rfl ⟨Nat.le_of_ble_eq_true rfl, Nat.le_of_ble_eq_true rfl⟩ rfl hl.1 rfl (Nat.le_of_ble_eq_true rfl) dX5_either_38) (fun r38 v38 w38 H locs hp38 h => ?_)
            obtain ⟨hr38, hu38⟩ := hp38
            obtain ⟨ev38, rfl⟩ := Prod.mk.inj hu38
            replace ev38 := ev38.symm
            refine lv_istore_n (lv' := [(3, .int r38), (0, .ref (zg Z 108)), (1, .ref (zg Z (2 + 7 * j))), (2, .int 4), (4, .int x4), (5, .int x5)]) hx hb dX5_either_41 rfl hl (by decide) rfl (fun ls hl => ?_)
            refine lv_iload_n hx hb dX5_either_42 rfl (lv_at hl 0 rfl) ?_
            refine lv_if_ne (tgt := 72) hx hb dX5_either_43 (by decide) (fun c_43 => ?_) (fun c_43 => ?_)
            · skip
              rw [hr38, bI_n] at c_43
              rw [if_pos c_43] at ev38
              refine lv_iinc (v := (x5 + 1)) (lv' := [(5, .int (x5 + 1)), (3, .int r38), (0, .ref (zg Z 108)), (1, .ref (zg Z (2 + 7 * j))), (2, .int 4), (4, .int x4)]) hx hb dX5_either_72 hl (k := 5) rfl rfl (by decide) rfl (fun ls hl => ?_)
              refine lv_goto (tgt := 8) hx hb dX5_either_75 (by decide) ?_
              exact ih8 r38 x4 (x5 + 1) true io (q + 1) ((rdF t z 0 b).2.1 + 1) lo (liN t z 0 ia b li) v38 (by rw [hr38, c_43]) hx4 (by rw [hx5]; exact nI_1 _) (by omega) (by omega) (by have := isAt_lt c_43; omega) (by rw [ev38]; exact PT_at (PT_FT (by omega) hP hFT2 hat2 hF2.2.1) (isAt_lt c_43)) (by rw [ev38]; exact FT_at (by omega) hFT2) (by rw [ev38]; exact TS_at (by omega) hTS2) (by have z4 : bN true = 1 := rfl; omega) (fun q => by cases q) hlo (hRE.trans (rsE_and c_21 c_43)) (by omega) _ _ h ls (lv_sub hl [2, 3, 4, 1, 5, 0] rfl)
            · skip
              rw [hr38, bI_0] at c_43
              rw [if_neg (by rw [c_43]; decide)] at ev38
              refine lv_iload hx hb dX5_either_46 (lv_at hl 4 rfl) ?_
              refine lv_if_eq (tgt := 57) hx hb dX5_either_48 (by decide) (fun c_48 => ?_) (fun c_48 => ?_)
              · skip
                rw [hx4, bI_0] at c_48
                have ei : (if io then lo ++ (liN t z 0 ia b li) ++ [1] else (liN t z 0 ia b li)) = lo ++ (liN t z 0 ia b li) := by rw [c_48, if_neg (by decide), hlo c_48, List.nil_append]
                have hTS3 : TS v38 (2 + 7 * j) s (if io then lo ++ (liN t z 0 ia b li) ++ [1] else (liN t z 0 ia b li)) := by rw [ei, ev38]; exact hTS2
                have hFT3 : FT v v38 (2 + 7 * j) s := by rw [ev38]; exact hFT2
                have hat3 : v38 108 2 = nI (rdF t z 0 b).2.1 := by rw [ev38]; exact hat2
                have hlen3 : (if io then lo ++ (liN t z 0 ia b li) ++ [1] else (liN t z 0 ia b li)).length + a ≤ (rdF t z 0 b).2.1 := by rw [ei]; omega
                refine lv_aload_n hx hb dX5_either_57 rfl (lv_at hl 1 rfl) ?_
                refine lv_bipush (v := 124) hx hb dX5_either_58 (by decide) ?_
                refine g_ki h (g_runV X h (As := [.int 124]) (rest := []) (c_X5_skip gl Z v38 w 124 t z ((rdF t z 0 b).2.1) (PT_FT (by omega) hP hFT3 hat3 hF2.2.1)) mi_X5_skip ml_RX5_35 (cc_108) (by decide) kl5 rfl ⟨Nat.le_of_ble_eq_true rfl, Nat.le_of_ble_eq_true rfl⟩ rfl hl.1 rfl (Nat.le_of_ble_eq_true rfl) dX5_either_60) (fun r60 v60 w60 H locs hp60 h => ?_)
                obtain ⟨hr60, hu60⟩ := hp60
                obtain ⟨ev60, rfl⟩ := Prod.mk.inj hu60
                replace ev60 := ev60.symm
                refine lv_istore (lv' := [(4, .int r60), (3, .int r38), (0, .ref (zg Z 108)), (1, .ref (zg Z (2 + 7 * j))), (2, .int 4), (5, .int x5)]) hx hb dX5_either_63 hl (by decide) rfl (fun ls hl => ?_)
                refine lv_iload hx hb dX5_either_65 (lv_at hl 0 rfl) ?_
                refine lv_if_ne (tgt := 72) hx hb dX5_either_67 (by decide) (fun c_67 => ?_) (fun c_67 => ?_)
                · skip
                  rw [hr60, bI_n] at c_67
                  rw [if_pos c_67] at ev60
                  refine lv_iinc (v := (x5 + 1)) (lv' := [(5, .int (x5 + 1)), (4, .int r60), (3, .int r38), (0, .ref (zg Z 108)), (1, .ref (zg Z (2 + 7 * j))), (2, .int 4)]) hx hb dX5_either_72 hl (k := 5) rfl rfl (by decide) rfl (fun ls hl => ?_)
                  refine lv_goto (tgt := 8) hx hb dX5_either_75 (by decide) ?_
                  exact ih8 r38 r60 (x5 + 1) false true (q + 1) ((rdF t z 0 b).2.1 + 1) (if io then lo ++ (liN t z 0 ia b li) ++ [1] else (liN t z 0 ia b li)) [] v60 (by rw [hr38, c_43]) (by rw [hr60, c_67]) (by rw [hx5]; exact nI_1 _) (by omega) (by omega) (by have := isAt_lt c_67; omega) (by rw [ev60]; exact PT_at (PT_FT (by omega) hP hFT3 hat3 hF2.2.1) (isAt_lt c_67)) (by rw [ev60]; exact FT_at (by omega) hFT3) (by rw [List.append_nil, ev60]; exact TS_at (by omega) hTS3) (by rw [List.append_nil]; have z4 : bN true = 1 := rfl; have z5 : bN false = 0 := rfl; omega) (fun _ => rfl) (fun q => by cases q) (hRE.trans (rsE_or c_21 c_43 c_67)) (by omega) _ _ h ls (lv_sub hl [3, 4, 5, 2, 1, 0] rfl)
                · skip
                  rw [hr60, bI_0] at c_67
                  rw [if_neg (by rw [c_67]; decide)] at ev60
                  refine lv_iconst (v := 1) hx hb dX5_either_70 (by decide) ?_
                  exact g_nret X h dX5_either_71 rfl (RT_eq (u := v60) (hRE.trans (rsE_end c_21 c_43 c_67)) rfl (RT_yes (by rw [ev60]; exact hFT3) (by rw [ev60]; exact hat3) (by rw [ev60]; exact hTS3)))
              · skip
                rw [hx4, bI_n] at c_48
                refine lv_aload_n hx hb dX5_either_51 rfl (lv_at hl 2 rfl) ?_
                refine lv_bipush (v := (-2)) hx hb dX5_either_52 (by decide) ?_
                refine g_kv h (g_runV X h (As := [.int (-2)]) (rest := []) (c_X1_addStep gl Z v38 w (-2) (2 + 7 * j) hL (s + (lo ++ (liN t z 0 ia b li)).length) (by rw [ev38]; exact hTS2.1) (by rw [c_48] at hlen2; have z4 : bN true = 1 := rfl; have := hF2.2.1; omega)) mi_X1_addStep ml_RX5_92 (cL_0 hL) (by decide) kl1 rfl ⟨Nat.le_of_ble_eq_true rfl, Nat.le_of_ble_eq_true rfl⟩ rfl hl.1 rfl (Nat.le_of_ble_eq_true rfl) dX5_either_54) (fun v54 w54 H locs hp54 h => ?_)
                obtain ⟨ev54, rfl⟩ := Prod.mk.inj hp54
                replace ev54 := ev54.symm
                have ei : (if io then lo ++ (liN t z 0 ia b li) ++ [1] else (liN t z 0 ia b li)) = lo ++ (liN t z 0 ia b li) ++ [1] := by rw [c_48, if_pos rfl]
                have hTS3 : TS v54 (2 + 7 * j) s (if io then lo ++ (liN t z 0 ia b li) ++ [1] else (liN t z 0 ia b li)) := by
                  rw [ei]
                  exact TS_app hTS2 (by rw [ev54, ev38]; exact FT_ad (by omega)) (by rw [ev54, ev38]; exact TS_ad (t := 1) (by decide) rfl)
                have hFT3 : FT v v54 (2 + 7 * j) s := FT_trans hFT2 (by rw [ev54, ev38]; exact FT_ad (by omega)) (Nat.le_add_right _ (lo ++ (liN t z 0 ia b li)).length)
                have hat3 : v54 108 2 = nI (rdF t z 0 b).2.1 := by rw [ev54, ev38, adS, up2_ne (by omega), up2_ne (by omega)]; exact hat2
                have hlen3 : (if io then lo ++ (liN t z 0 ia b li) ++ [1] else (liN t z 0 ia b li)).length + a ≤ (rdF t z 0 b).2.1 := by
                  rw [ei, List.length_append, List.length_singleton]
                  rw [c_48] at hlen2
                  have z4 : bN true = 1 := rfl
                  omega
                refine lv_aload_n hx hb dX5_either_57 rfl (lv_at hl 1 rfl) ?_
                refine lv_bipush (v := 124) hx hb dX5_either_58 (by decide) ?_
                refine g_ki h (g_runV X h (As := [.int 124]) (rest := []) (c_X5_skip gl Z v54 w 124 t z ((rdF t z 0 b).2.1) (PT_FT (by omega) hP hFT3 hat3 hF2.2.1)) mi_X5_skip ml_RX5_35 (cc_108) (by decide) kl5 rfl ⟨Nat.le_of_ble_eq_true rfl, Nat.le_of_ble_eq_true rfl⟩ rfl hl.1 rfl (Nat.le_of_ble_eq_true rfl) dX5_either_60) (fun r60 v60 w60 H locs hp60 h => ?_)
                obtain ⟨hr60, hu60⟩ := hp60
                obtain ⟨ev60, rfl⟩ := Prod.mk.inj hu60
                replace ev60 := ev60.symm
                refine lv_istore (lv' := [(4, .int r60), (3, .int r38), (0, .ref (zg Z 108)), (1, .ref (zg Z (2 + 7 * j))), (2, .int 4), (5, .int x5)]) hx hb dX5_either_63 hl (by decide) rfl (fun ls hl => ?_)
                refine lv_iload hx hb dX5_either_65 (lv_at hl 0 rfl) ?_
                refine lv_if_ne (tgt := 72) hx hb dX5_either_67 (by decide) (fun c_67 => ?_) (fun c_67 => ?_)
                · skip
                  rw [hr60, bI_n] at c_67
                  rw [if_pos c_67] at ev60
                  refine lv_iinc (v := (x5 + 1)) (lv' := [(5, .int (x5 + 1)), (4, .int r60), (3, .int r38), (0, .ref (zg Z 108)), (1, .ref (zg Z (2 + 7 * j))), (2, .int 4)]) hx hb dX5_either_72 hl (k := 5) rfl rfl (by decide) rfl (fun ls hl => ?_)
                  refine lv_goto (tgt := 8) hx hb dX5_either_75 (by decide) ?_
                  exact ih8 r38 r60 (x5 + 1) false true (q + 1) ((rdF t z 0 b).2.1 + 1) (if io then lo ++ (liN t z 0 ia b li) ++ [1] else (liN t z 0 ia b li)) [] v60 (by rw [hr38, c_43]) (by rw [hr60, c_67]) (by rw [hx5]; exact nI_1 _) (by omega) (by omega) (by have := isAt_lt c_67; omega) (by rw [ev60]; exact PT_at (PT_FT (by omega) hP hFT3 hat3 hF2.2.1) (isAt_lt c_67)) (by rw [ev60]; exact FT_at (by omega) hFT3) (by rw [List.append_nil, ev60]; exact TS_at (by omega) hTS3) (by rw [List.append_nil]; have z4 : bN true = 1 := rfl; have z5 : bN false = 0 := rfl; omega) (fun _ => rfl) (fun q => by cases q) (hRE.trans (rsE_or c_21 c_43 c_67)) (by omega) _ _ h ls (lv_sub hl [3, 4, 5, 2, 1, 0] rfl)
                · skip
                  rw [hr60, bI_0] at c_67
                  rw [if_neg (by rw [c_67]; decide)] at ev60
                  refine lv_iconst (v := 1) hx hb dX5_either_70 (by decide) ?_
                  exact g_nret X h dX5_either_71 rfl (RT_eq (u := v60) (hRE.trans (rsE_end c_21 c_43 c_67)) rfl (RT_yes (by rw [ev60]; exact hFT3) (by rw [ev60]; exact hat3) (by rw [ev60]; exact hTS3)))
          · skip
            rw [hx3, bI_n] at c_27
            have hTSa := TS_app hTS hRT18.1 (hRT18.2.2 c_21)
            have hlena : ((lo ++ li) ++ (rdF t z 0 b).2.2).length + a + 1 ≤ (rdF t z 0 b).2.1 := by
              simp only [List.length_append] at hlen ⊢
              have z3 := (hF2.2.2 c_21).2
              rw [c_27] at hlen
              have z4 : bN true = 1 := rfl
              omega
            refine lv_aload_n hx hb dX5_either_30 rfl (lv_at hl 1 rfl) ?_
            refine lv_iconst (v := (-1)) hx hb dX5_either_31 (by decide) ?_
            refine g_kv h (g_runV X h (As := [.int (-1)]) (rest := []) (c_X1_addStep gl Z v18 w (-1) (2 + 7 * j) hL (s + ((lo ++ li) ++ (rdF t z 0 b).2.2).length) hTSa.1 (by have := hF2.2.1; omega)) mi_X1_addStep ml_RX5_92 (cL_0 hL) (by decide) kl1 rfl ⟨Nat.le_of_ble_eq_true rfl, Nat.le_of_ble_eq_true rfl⟩ rfl hl.1 rfl (Nat.le_of_ble_eq_true rfl) dX5_either_32) (fun v32 w32 H locs hp32 h => ?_)
            obtain ⟨ev32, rfl⟩ := Prod.mk.inj hp32
            replace ev32 := ev32.symm
            have hTS2 : TS v32 (2 + 7 * j) s (lo ++ (liN t z 0 ia b li)) := by
              rw [liN, if_pos c_27]
              have z2 := TS_app (x := v32) (l2 := [0]) hTSa (by rw [ev32]; exact FT_ad (by omega)) (by rw [ev32]; exact TS_ad (t := 0) (by decide) rfl)
              simpa [List.append_assoc] using z2
            have hFT2 : FT v v32 (2 + 7 * j) s := FT_trans (FT_trans (u := va) hFT hRT18.1 (Nat.le_add_right _ _)) (by rw [ev32]; exact FT_ad (by omega)) (Nat.le_add_right _ ((lo ++ li) ++ (rdF t z 0 b).2.2).length)
            have hat2 : v32 108 2 = nI (rdF t z 0 b).2.1 := by rw [ev32, adS, up2_ne (by omega), up2_ne (by omega)]; exact hRT18.2.1
            have hlen2 : (lo ++ (liN t z 0 ia b li)).length + a + bN io ≤ (rdF t z 0 b).2.1 := by
              rw [liN, if_pos c_27]
              simp only [List.length_append, List.length_singleton] at hlen ⊢
              have z3 := (hF2.2.2 c_21).2
              rw [c_27] at hlen
              have z4 : bN true = 1 := rfl
              omega
            refine lv_aload_n hx hb dX5_either_35 rfl (lv_at hl 0 rfl) ?_
            refine lv_bipush (v := 38) hx hb dX5_either_36 (by decide) ?_
            refine g_ki h (g_runV X h (As := [.int 38]) (rest := []) (c_X5_skip gl Z v32 w 38 t z ((rdF t z 0 b).2.1) (PT_FT (by omega) hP hFT2 hat2 hF2.2.1)) mi_X5_skip ml_RX5_35 (cc_108) (by decide) kl5 rfl ⟨Nat.le_of_ble_eq_true rfl, Nat.le_of_ble_eq_true rfl⟩ rfl hl.1 rfl (Nat.le_of_ble_eq_true rfl) dX5_either_38) (fun r38 v38 w38 H locs hp38 h => ?_)
            obtain ⟨hr38, hu38⟩ := hp38
            obtain ⟨ev38, rfl⟩ := Prod.mk.inj hu38
            replace ev38 := ev38.symm
            refine lv_istore_n (lv' := [(3, .int r38), (0, .ref (zg Z 108)), (1, .ref (zg Z (2 + 7 * j))), (2, .int 4), (4, .int x4), (5, .int x5)]) hx hb dX5_either_41 rfl hl (by decide) rfl (fun ls hl => ?_)
            refine lv_iload_n hx hb dX5_either_42 rfl (lv_at hl 0 rfl) ?_
            refine lv_if_ne (tgt := 72) hx hb dX5_either_43 (by decide) (fun c_43 => ?_) (fun c_43 => ?_)
            · skip
              rw [hr38, bI_n] at c_43
              rw [if_pos c_43] at ev38
              refine lv_iinc (v := (x5 + 1)) (lv' := [(5, .int (x5 + 1)), (3, .int r38), (0, .ref (zg Z 108)), (1, .ref (zg Z (2 + 7 * j))), (2, .int 4), (4, .int x4)]) hx hb dX5_either_72 hl (k := 5) rfl rfl (by decide) rfl (fun ls hl => ?_)
              refine lv_goto (tgt := 8) hx hb dX5_either_75 (by decide) ?_
              exact ih8 r38 x4 (x5 + 1) true io (q + 1) ((rdF t z 0 b).2.1 + 1) lo (liN t z 0 ia b li) v38 (by rw [hr38, c_43]) hx4 (by rw [hx5]; exact nI_1 _) (by omega) (by omega) (by have := isAt_lt c_43; omega) (by rw [ev38]; exact PT_at (PT_FT (by omega) hP hFT2 hat2 hF2.2.1) (isAt_lt c_43)) (by rw [ev38]; exact FT_at (by omega) hFT2) (by rw [ev38]; exact TS_at (by omega) hTS2) (by have z4 : bN true = 1 := rfl; omega) (fun q => by cases q) hlo (hRE.trans (rsE_and c_21 c_43)) (by omega) _ _ h ls (lv_sub hl [2, 3, 4, 1, 5, 0] rfl)
            · skip
              rw [hr38, bI_0] at c_43
              rw [if_neg (by rw [c_43]; decide)] at ev38
              refine lv_iload hx hb dX5_either_46 (lv_at hl 4 rfl) ?_
              refine lv_if_eq (tgt := 57) hx hb dX5_either_48 (by decide) (fun c_48 => ?_) (fun c_48 => ?_)
              · skip
                rw [hx4, bI_0] at c_48
                have ei : (if io then lo ++ (liN t z 0 ia b li) ++ [1] else (liN t z 0 ia b li)) = lo ++ (liN t z 0 ia b li) := by rw [c_48, if_neg (by decide), hlo c_48, List.nil_append]
                have hTS3 : TS v38 (2 + 7 * j) s (if io then lo ++ (liN t z 0 ia b li) ++ [1] else (liN t z 0 ia b li)) := by rw [ei, ev38]; exact hTS2
                have hFT3 : FT v v38 (2 + 7 * j) s := by rw [ev38]; exact hFT2
                have hat3 : v38 108 2 = nI (rdF t z 0 b).2.1 := by rw [ev38]; exact hat2
                have hlen3 : (if io then lo ++ (liN t z 0 ia b li) ++ [1] else (liN t z 0 ia b li)).length + a ≤ (rdF t z 0 b).2.1 := by rw [ei]; omega
                refine lv_aload_n hx hb dX5_either_57 rfl (lv_at hl 1 rfl) ?_
                refine lv_bipush (v := 124) hx hb dX5_either_58 (by decide) ?_
                refine g_ki h (g_runV X h (As := [.int 124]) (rest := []) (c_X5_skip gl Z v38 w 124 t z ((rdF t z 0 b).2.1) (PT_FT (by omega) hP hFT3 hat3 hF2.2.1)) mi_X5_skip ml_RX5_35 (cc_108) (by decide) kl5 rfl ⟨Nat.le_of_ble_eq_true rfl, Nat.le_of_ble_eq_true rfl⟩ rfl hl.1 rfl (Nat.le_of_ble_eq_true rfl) dX5_either_60) (fun r60 v60 w60 H locs hp60 h => ?_)
                obtain ⟨hr60, hu60⟩ := hp60
                obtain ⟨ev60, rfl⟩ := Prod.mk.inj hu60
                replace ev60 := ev60.symm
                refine lv_istore (lv' := [(4, .int r60), (3, .int r38), (0, .ref (zg Z 108)), (1, .ref (zg Z (2 + 7 * j))), (2, .int 4), (5, .int x5)]) hx hb dX5_either_63 hl (by decide) rfl (fun ls hl => ?_)
                refine lv_iload hx hb dX5_either_65 (lv_at hl 0 rfl) ?_
                refine lv_if_ne (tgt := 72) hx hb dX5_either_67 (by decide) (fun c_67 => ?_) (fun c_67 => ?_)
                · skip
                  rw [hr60, bI_n] at c_67
                  rw [if_pos c_67] at ev60
                  refine lv_iinc (v := (x5 + 1)) (lv' := [(5, .int (x5 + 1)), (4, .int r60), (3, .int r38), (0, .ref (zg Z 108)), (1, .ref (zg Z (2 + 7 * j))), (2, .int 4)]) hx hb dX5_either_72 hl (k := 5) rfl rfl (by decide) rfl (fun ls hl => ?_)
                  refine lv_goto (tgt := 8) hx hb dX5_either_75 (by decide) ?_
                  exact ih8 r38 r60 (x5 + 1) false true (q + 1) ((rdF t z 0 b).2.1 + 1) (if io then lo ++ (liN t z 0 ia b li) ++ [1] else (liN t z 0 ia b li)) [] v60 (by rw [hr38, c_43]) (by rw [hr60, c_67]) (by rw [hx5]; exact nI_1 _) (by omega) (by omega) (by have := isAt_lt c_67; omega) (by rw [ev60]; exact PT_at (PT_FT (by omega) hP hFT3 hat3 hF2.2.1) (isAt_lt c_67)) (by rw [ev60]; exact FT_at (by omega) hFT3) (by rw [List.append_nil, ev60]; exact TS_at (by omega) hTS3) (by rw [List.append_nil]; have z4 : bN true = 1 := rfl; have z5 : bN false = 0 := rfl; omega) (fun _ => rfl) (fun q => by cases q) (hRE.trans (rsE_or c_21 c_43 c_67)) (by omega) _ _ h ls (lv_sub hl [3, 4, 5, 2, 1, 0] rfl)
                · skip
                  rw [hr60, bI_0] at c_67
                  rw [if_neg (by rw [c_67]; decide)] at ev60
                  refine lv_iconst (v := 1) hx hb dX5_either_70 (by decide) ?_
                  exact g_nret X h dX5_either_71 rfl (RT_eq (u := v60) (hRE.trans (rsE_end c_21 c_43 c_67)) rfl (RT_yes (by rw [ev60]; exact hFT3) (by rw [ev60]; exact hat3) (by rw [ev60]; exact hTS3)))
              · skip
                rw [hx4, bI_n] at c_48
                refine lv_aload_n hx hb dX5_either_51 rfl (lv_at hl 2 rfl) ?_
                refine lv_bipush (v := (-2)) hx hb dX5_either_52 (by decide) ?_
                refine g_kv h (g_runV X h (As := [.int (-2)]) (rest := []) (c_X1_addStep gl Z v38 w (-2) (2 + 7 * j) hL (s + (lo ++ (liN t z 0 ia b li)).length) (by rw [ev38]; exact hTS2.1) (by rw [c_48] at hlen2; have z4 : bN true = 1 := rfl; have := hF2.2.1; omega)) mi_X1_addStep ml_RX5_92 (cL_0 hL) (by decide) kl1 rfl ⟨Nat.le_of_ble_eq_true rfl, Nat.le_of_ble_eq_true rfl⟩ rfl hl.1 rfl (Nat.le_of_ble_eq_true rfl) dX5_either_54) (fun v54 w54 H locs hp54 h => ?_)
                obtain ⟨ev54, rfl⟩ := Prod.mk.inj hp54
                replace ev54 := ev54.symm
                have ei : (if io then lo ++ (liN t z 0 ia b li) ++ [1] else (liN t z 0 ia b li)) = lo ++ (liN t z 0 ia b li) ++ [1] := by rw [c_48, if_pos rfl]
                have hTS3 : TS v54 (2 + 7 * j) s (if io then lo ++ (liN t z 0 ia b li) ++ [1] else (liN t z 0 ia b li)) := by
                  rw [ei]
                  exact TS_app hTS2 (by rw [ev54, ev38]; exact FT_ad (by omega)) (by rw [ev54, ev38]; exact TS_ad (t := 1) (by decide) rfl)
                have hFT3 : FT v v54 (2 + 7 * j) s := FT_trans hFT2 (by rw [ev54, ev38]; exact FT_ad (by omega)) (Nat.le_add_right _ (lo ++ (liN t z 0 ia b li)).length)
                have hat3 : v54 108 2 = nI (rdF t z 0 b).2.1 := by rw [ev54, ev38, adS, up2_ne (by omega), up2_ne (by omega)]; exact hat2
                have hlen3 : (if io then lo ++ (liN t z 0 ia b li) ++ [1] else (liN t z 0 ia b li)).length + a ≤ (rdF t z 0 b).2.1 := by
                  rw [ei, List.length_append, List.length_singleton]
                  rw [c_48] at hlen2
                  have z4 : bN true = 1 := rfl
                  omega
                refine lv_aload_n hx hb dX5_either_57 rfl (lv_at hl 1 rfl) ?_
                refine lv_bipush (v := 124) hx hb dX5_either_58 (by decide) ?_
                refine g_ki h (g_runV X h (As := [.int 124]) (rest := []) (c_X5_skip gl Z v54 w 124 t z ((rdF t z 0 b).2.1) (PT_FT (by omega) hP hFT3 hat3 hF2.2.1)) mi_X5_skip ml_RX5_35 (cc_108) (by decide) kl5 rfl ⟨Nat.le_of_ble_eq_true rfl, Nat.le_of_ble_eq_true rfl⟩ rfl hl.1 rfl (Nat.le_of_ble_eq_true rfl) dX5_either_60) (fun r60 v60 w60 H locs hp60 h => ?_)
                obtain ⟨hr60, hu60⟩ := hp60
                obtain ⟨ev60, rfl⟩ := Prod.mk.inj hu60
                replace ev60 := ev60.symm
                refine lv_istore (lv' := [(4, .int r60), (3, .int r38), (0, .ref (zg Z 108)), (1, .ref (zg Z (2 + 7 * j))), (2, .int 4), (5, .int x5)]) hx hb dX5_either_63 hl (by decide) rfl (fun ls hl => ?_)
                refine lv_iload hx hb dX5_either_65 (lv_at hl 0 rfl) ?_
                refine lv_if_ne (tgt := 72) hx hb dX5_either_67 (by decide) (fun c_67 => ?_) (fun c_67 => ?_)
                · skip
                  rw [hr60, bI_n] at c_67
                  rw [if_pos c_67] at ev60
                  refine lv_iinc (v := (x5 + 1)) (lv' := [(5, .int (x5 + 1)), (4, .int r60), (3, .int r38), (0, .ref (zg Z 108)), (1, .ref (zg Z (2 + 7 * j))), (2, .int 4)]) hx hb dX5_either_72 hl (k := 5) rfl rfl (by decide) rfl (fun ls hl => ?_)
                  refine lv_goto (tgt := 8) hx hb dX5_either_75 (by decide) ?_
                  exact ih8 r38 r60 (x5 + 1) false true (q + 1) ((rdF t z 0 b).2.1 + 1) (if io then lo ++ (liN t z 0 ia b li) ++ [1] else (liN t z 0 ia b li)) [] v60 (by rw [hr38, c_43]) (by rw [hr60, c_67]) (by rw [hx5]; exact nI_1 _) (by omega) (by omega) (by have := isAt_lt c_67; omega) (by rw [ev60]; exact PT_at (PT_FT (by omega) hP hFT3 hat3 hF2.2.1) (isAt_lt c_67)) (by rw [ev60]; exact FT_at (by omega) hFT3) (by rw [List.append_nil, ev60]; exact TS_at (by omega) hTS3) (by rw [List.append_nil]; have z4 : bN true = 1 := rfl; have z5 : bN false = 0 := rfl; omega) (fun _ => rfl) (fun q => by cases q) (hRE.trans (rsE_or c_21 c_43 c_67)) (by omega) _ _ h ls (lv_sub hl [3, 4, 5, 2, 1, 0] rfl)
                · skip
                  rw [hr60, bI_0] at c_67
                  rw [if_neg (by rw [c_67]; decide)] at ev60
                  refine lv_iconst (v := 1) hx hb dX5_either_70 (by decide) ?_
                  exact g_nret X h dX5_either_71 rfl (RT_eq (u := v60) (hRE.trans (rsE_end c_21 c_43 c_67)) rfl (RT_yes (by rw [ev60]; exact hFT3) (by rw [ev60]; exact hat3) (by rw [ev60]; exact hTS3)))
        · skip
          rw [hr18, bI_0] at c_21
          refine lv_iconst (v := 0) hx hb dX5_either_24 (by decide) ?_
          exact g_nret X h dX5_either_25 rfl (RT_eq (u := v18) (hRE.trans (rsE_n c_21)) rfl (RT_no (FT_trans (u := va) hFT hRT18.1 (Nat.le_add_right _ _)) hRT18.2.1))
  exact L8 (100 - 0 + 1) 0 0 0 false false 0 a [] [] v rfl rfl rfl (by omega) (by omega) haz hP (FT_refl _ _ _) (TS_nil hs) (by show 0 + a + 0 + 0 ≤ a; omega) (fun _ => rfl) (fun _ => rfl) rsE_0 (Nat.lt_succ_self _) _ _ h ls (lv_sub hl [3, 4, 5, 2, 1, 0] rfl)

set_option maxRecDepth 100000 in
set_option maxHeartbeats 1000000 in
theorem c_X5_single_3 (gl : Launch) (Z : PL) (v : VV) (w : WV) (t : Nat → Int32) (z : Nat) (a : Nat) (hP : PT v t z a) (j : Nat) (hj7 : j < 7) (s : Nat) (hs : v (2 + 7 * j) 9 = nI s) (hsz : s + (z - a) ≤ 100) : CT gl yX5_single cX5_single 4 (some .boolean) 8 185 Z [.ref (zg Z 108), .ref (zg Z (2 + 7 * j)), .int 3] v w (Qi Z (fun r u => r = bI (rdF t z 1 a).1 ∧ (u.1, w) = u ∧ RT z (2 + 7 * j) s v u.1 (rdF t z 1 a))) := by
  refine g_met (by decide) (Nat.le_of_ble_eq_true rfl) ?_
  intro gp ge gs gm ga gb gh gc X h ls hl
  have hx := X.1
  have hb := X.2.1
  have hl : lv_has ls 4 [(0, .ref (zg Z 108)), (1, .ref (zg Z (2 + 7 * j))), (2, .int 3)] := hl
  obtain ⟨ht, hz, ha, hz1, haz, hch⟩ := id hP
  have hL : isL (2 + 7 * j) := isLj hj7
  refine lv_aload_n hx hb dX5_single_0 rfl (lv_at hl 0 rfl) ?_
  refine g_geti X h (k := 2) (cc_108) fr_RX5_28 rfl (by decide) dX5_single_1 ?_
  refine lv_aload_n hx hb dX5_single_4 rfl (lv_at hl 0 rfl) ?_
  refine g_geti X h (k := 1) (cc_108) fr_RX5_15 rfl (by decide) dX5_single_5 ?_
  refine lv_icmp_ge (tgt := 23) hx hb dX5_single_8 (by decide) (fun c_8 => ?_) (fun c_8 => ?_)
  · skip
    have hle := nI_le1 (a := z) (b := a) hz ha (by omega) (by omega) c_8
    refine lv_iconst (v := (-1)) hx hb dX5_single_23 (by decide) ?_
    refine lv_istore_n (lv' := [(3, .int (-1)), (0, .ref (zg Z 108)), (1, .ref (zg Z (2 + 7 * j))), (2, .int 3)]) hx hb dX5_single_24 rfl hl (by decide) rfl (fun ls hl => ?_)
    refine lv_iload_n hx hb dX5_single_25 rfl (lv_at hl 0 rfl) ?_
    refine lv_bipush (v := 33) hx hb dX5_single_26 (by decide) ?_
    refine lv_icmp_eq (tgt := 43) hx hb dX5_single_28 (by decide) (fun q => absurd q (by decide)) (fun _ => ?_)
    refine lv_iload_n hx hb dX5_single_31 rfl (lv_at hl 0 rfl) ?_
    refine lv_bipush (v := 40) hx hb dX5_single_32 (by decide) ?_
    refine lv_icmp_eq (tgt := 43) hx hb dX5_single_34 (by decide) (fun q => absurd q (by decide)) (fun _ => ?_)
    refine lv_aload_n hx hb dX5_single_37 rfl (lv_at hl 1 rfl) ?_
    refine lv_aload_n hx hb dX5_single_38 rfl (lv_at hl 2 rfl) ?_
    refine g_ki h (g_runV X h (As := [.ref (zg Z (2 + 7 * j))]) (rest := []) (c_X5_test gl Z v w t z a hP j hj7 s hs hsz) mi_X5_test ml_RX5_95 (cc_108) (by decide) kl5 rfl ⟨Nat.le_of_ble_eq_true rfl, Nat.le_of_ble_eq_true rfl⟩ rfl hl.1 rfl (Nat.le_of_ble_eq_true rfl) dX5_single_39) (fun r39 v39 w39 H locs hp39 h => ?_)
    obtain ⟨hr39, hw39, hRT39⟩ := hp39
    obtain ⟨-, rfl⟩ := Prod.mk.inj hw39
    replace hRT39 : RT _ _ _ _ v39 _ := hRT39
    exact g_nret X h dX5_single_42 (by rw [hr39]; exact nar_bI _) (RT_eq (u := v39) (e := rdF t z 1 a) (rdF_t (isAt_f1 (by omega)) (isAt_f1 (by omega))) hr39 hRT39)
  · skip
    have hle := nI_le0 (a := z) (b := a) hz ha (by omega) (by omega) c_8
    refine lv_aload_n hx hb dX5_single_11 rfl (lv_at hl 0 rfl) ?_
    refine g_getr X h (k := 0) (t := 109) (cc_108) fr_RX5_11 rfl (by decide) (by decide) (by decide) dX5_single_12 ?_
    refine lv_aload_n hx hb dX5_single_15 rfl (lv_at hl 0 rfl) ?_
    refine g_geti X h (k := 2) (cc_108) fr_RX5_28 rfl (by decide) dX5_single_16 ?_
    refine g_bald X h (k := a) (cc_109) ha (by omega) (by decide) dX5_single_19 ?_
    refine lv_goto (tgt := 24) hx hb dX5_single_20 (by decide) ?_
    refine lv_topi (fun x3_24 ex3_24 => ?_)
    refine lv_istore_n (lv' := [(3, .int x3_24), (0, .ref (zg Z 108)), (1, .ref (zg Z (2 + 7 * j))), (2, .int 3)]) hx hb dX5_single_24 rfl hl (by decide) rfl (fun ls hl => ?_)
    refine lv_iload_n hx hb dX5_single_25 rfl (lv_at hl 0 rfl) ?_
    refine lv_bipush (v := 33) hx hb dX5_single_26 (by decide) ?_
    refine lv_icmp_eq (tgt := 43) hx hb dX5_single_28 (by decide) (fun c_28 => ?_) (fun c_28 => ?_)
    · skip
      have h33 : isAt t z a 33 = true := isAt_t hle (by rw [← ht, ← ex3_24]; exact c_28)
      have h33z := isAt_lt h33
      have hat1 : v 108 2 + 1 = nI (a + 1) := by rw [ha]; exact nI_1 a
      have hF2 := rdF_G t z 0 (a + 1) h33z
      refine lv_iload_n hx hb dX5_single_43 rfl (lv_at hl 3 rfl) ?_
      refine lv_iconst (v := 4) hx hb dX5_single_44 (by decide) ?_
      refine lv_icmp_lt (tgt := 50) hx hb dX5_single_45 (by decide) (fun _ => ?_) (fun q => absurd q (by decide))
      refine lv_aload_n hx hb dX5_single_50 rfl (lv_at hl 1 rfl) ?_
      refine lv_dup hx hb dX5_single_51 rfl ?_
      refine g_geti X h (k := 2) (cc_108) fr_RX5_28 rfl (by decide) dX5_single_52 ?_
      refine lv_iconst (v := 1) hx hb dX5_single_55 (by decide) ?_
      refine lv_iadd hx hb dX5_single_56 ?_
      refine g_puti X h (k := 2) (cc_108) fp_RX5_28 rfl (by decide) dX5_single_57 (fun v57 H locs ev57 h => ?_)
      refine lv_iload_n hx hb dX5_single_60 rfl (lv_at hl 0 rfl) ?_
      refine lv_bipush (v := 40) hx hb dX5_single_61 (by decide) ?_
      refine lv_icmp_ne (tgt := 92) hx hb dX5_single_63 (by decide) (fun c_63 => ?_) (fun c_63 => ?_)
      · skip
        refine lv_aload_n hx hb dX5_single_92 rfl (lv_at hl 1 rfl) ?_
        refine lv_aload_n hx hb dX5_single_93 rfl (lv_at hl 2 rfl) ?_
        refine lv_iload_n hx hb dX5_single_94 rfl (lv_at hl 3 rfl) ?_
        refine lv_iconst (v := 1) hx hb dX5_single_95 (by decide) ?_
        refine lv_iadd hx hb dX5_single_96 ?_
        refine g_tr (y := 4) (by decide) ?_
        refine g_ki h (g_runV X h (As := [.ref (zg Z (2 + 7 * j)), .int 4]) (rest := []) (c_X5_single_4 gl Z v57 w t z (a + 1) (by rw [ev57, hat1]; exact PT_at hP h33z) j hj7 s (by rw [ev57, hat1, up2_ne (by omega)]; exact hs) (by omega)) mi_X5_single ml_RX5_89 (cc_108) (by decide) kl5 rfl ⟨Nat.le_of_ble_eq_true rfl, Nat.le_of_ble_eq_true rfl⟩ rfl hl.1 rfl (Nat.le_of_ble_eq_true rfl) dX5_single_97) (fun r97 v97 w97 H locs hp97 h => ?_)
        obtain ⟨hr97, hw97, hRT97⟩ := hp97
        obtain ⟨-, rfl⟩ := Prod.mk.inj hw97
        replace hRT97 : RT _ _ _ _ v97 _ := hRT97
        refine lv_if_ne (tgt := 105) hx hb dX5_single_100 (by decide) (fun c_100 => ?_) (fun c_100 => ?_)
        · skip
          rw [hr97, bI_n] at c_100
          refine lv_aload_n hx hb dX5_single_105 rfl (lv_at hl 2 rfl) ?_
          refine lv_bipush (v := (-3)) hx hb dX5_single_106 (by decide) ?_
          refine g_kv h (g_runV X h (As := [.int (-3)]) (rest := []) (c_X1_addStep gl Z v97 w (-3) (2 + 7 * j) hL (s + (rdF t z 0 (a + 1)).2.2.length) (hRT97.2.2 c_100).1 (by have := hF2.2.2 c_100; have := hF2.2.1; omega)) mi_X1_addStep ml_RX5_92 (cL_0 hL) (by decide) kl1 rfl ⟨Nat.le_of_ble_eq_true rfl, Nat.le_of_ble_eq_true rfl⟩ rfl hl.1 rfl (Nat.le_of_ble_eq_true rfl) dX5_single_108) (fun v108 w108 H locs hp108 h => ?_)
          obtain ⟨ev108, rfl⟩ := Prod.mk.inj hp108
          replace ev108 := ev108.symm
          refine lv_iconst (v := 1) hx hb dX5_single_111 (by decide) ?_
          exact g_nret X h dX5_single_112 rfl (RT_eq (u := v108) (rdF_y h33 c_100) rfl (RT_yes (FT_trans (FT_trans (by rw [ev57, hat1]; exact FT_at (by omega) (FT_refl _ _ _)) hRT97.1 (Nat.le_refl _)) (by rw [ev108]; exact FT_ad (by omega)) (Nat.le_add_right _ _)) (by rw [ev108, adS, up2_ne (by omega), up2_ne (by omega)]; exact hRT97.2.1) (TS_app (hRT97.2.2 c_100) (by rw [ev108]; exact FT_ad (by omega)) (by rw [ev108]; exact TS_ad (by decide) rfl))))
        · skip
          rw [hr97, bI_0] at c_100
          refine lv_iconst (v := 0) hx hb dX5_single_103 (by decide) ?_
          exact g_nret X h dX5_single_104 rfl (RT_eq (u := v97) (rdF_n h33 c_100) rfl (RT_no (FT_trans (by rw [ev57, hat1]; exact FT_at (by omega) (FT_refl _ _ _)) hRT97.1 (Nat.le_refl _)) hRT97.2.1))
      · exact absurd (c_28.symm.trans c_63) (by decide)
    · skip
      have h33 : isAt t z a 33 = false := isAt_f2 (by rw [← ht, ← ex3_24]; exact c_28)
      refine lv_iload_n hx hb dX5_single_31 rfl (lv_at hl 0 rfl) ?_
      refine lv_bipush (v := 40) hx hb dX5_single_32 (by decide) ?_
      refine lv_icmp_eq (tgt := 43) hx hb dX5_single_34 (by decide) (fun c_34 => ?_) (fun c_34 => ?_)
      · skip
        have h40 : isAt t z a 40 = true := isAt_t hle (by rw [← ht, ← ex3_24]; exact c_34)
        have h33z := isAt_lt h40
        have hat1 : v 108 2 + 1 = nI (a + 1) := by rw [ha]; exact nI_1 a
        have hE2 := rdE_G t z 0 (a + 1) h33z
        refine lv_iload_n hx hb dX5_single_43 rfl (lv_at hl 3 rfl) ?_
        refine lv_iconst (v := 4) hx hb dX5_single_44 (by decide) ?_
        refine lv_icmp_lt (tgt := 50) hx hb dX5_single_45 (by decide) (fun _ => ?_) (fun q => absurd q (by decide))
        refine lv_aload_n hx hb dX5_single_50 rfl (lv_at hl 1 rfl) ?_
        refine lv_dup hx hb dX5_single_51 rfl ?_
        refine g_geti X h (k := 2) (cc_108) fr_RX5_28 rfl (by decide) dX5_single_52 ?_
        refine lv_iconst (v := 1) hx hb dX5_single_55 (by decide) ?_
        refine lv_iadd hx hb dX5_single_56 ?_
        refine g_puti X h (k := 2) (cc_108) fp_RX5_28 rfl (by decide) dX5_single_57 (fun v57 H locs ev57 h => ?_)
        refine lv_iload_n hx hb dX5_single_60 rfl (lv_at hl 0 rfl) ?_
        refine lv_bipush (v := 40) hx hb dX5_single_61 (by decide) ?_
        refine lv_icmp_ne (tgt := 92) hx hb dX5_single_63 (by decide) (fun c_63 => ?_) (fun c_63 => ?_)
        · exact absurd c_34 c_63
        · skip
          refine lv_aload_n hx hb dX5_single_66 rfl (lv_at hl 1 rfl) ?_
          refine lv_aload_n hx hb dX5_single_67 rfl (lv_at hl 2 rfl) ?_
          refine lv_iload_n hx hb dX5_single_68 rfl (lv_at hl 3 rfl) ?_
          refine lv_iconst (v := 1) hx hb dX5_single_69 (by decide) ?_
          refine lv_iadd hx hb dX5_single_70 ?_
          refine g_tr (y := 4) (by decide) ?_
          refine g_ki h (g_runV X h (As := [.ref (zg Z (2 + 7 * j)), .int 4]) (rest := []) (c_X5_either_4 gl Z v57 w t z (a + 1) (by rw [ev57, hat1]; exact PT_at hP h33z) j hj7 s (by rw [ev57, hat1, up2_ne (by omega)]; exact hs) (by omega)) mi_X5_either ml_RX5_46 (cc_108) (by decide) kl5 rfl ⟨Nat.le_of_ble_eq_true rfl, Nat.le_of_ble_eq_true rfl⟩ rfl hl.1 rfl (Nat.le_of_ble_eq_true rfl) dX5_single_71) (fun r71 v71 w71 H locs hp71 h => ?_)
          obtain ⟨hr71, hw71, hRT71⟩ := hp71
          obtain ⟨-, rfl⟩ := Prod.mk.inj hw71
          replace hRT71 : RT _ _ _ _ v71 _ := hRT71
          refine lv_if_eq (tgt := 90) hx hb dX5_single_74 (by decide) (fun c_74 => ?_) (fun c_74 => ?_)
          · skip
            rw [hr71, bI_0] at c_74
            refine lv_iconst (v := 0) hx hb dX5_single_90 (by decide) ?_
            exact g_nret X h dX5_single_91 rfl (RT_eq (u := v71) (rdF_pn h33 h40 c_74) rfl (RT_no (FT_trans (by rw [ev57, hat1]; exact FT_at (by omega) (FT_refl _ _ _)) hRT71.1 (Nat.le_refl _)) hRT71.2.1))
          · skip
            rw [hr71, bI_n] at c_74
            refine lv_aload_n hx hb dX5_single_77 rfl (lv_at hl 1 rfl) ?_
            refine lv_bipush (v := 41) hx hb dX5_single_78 (by decide) ?_
            refine g_ki h (g_runV X h (As := [.int 41]) (rest := []) (c_X5_skip gl Z v71 w 41 t z ((rdE t z 0 (a + 1)).2.1) (PT_FT (by omega) (by rw [ev57, hat1]; exact PT_at hP h33z) hRT71.1 hRT71.2.1 hE2.2.1)) mi_X5_skip ml_RX5_35 (cc_108) (by decide) kl5 rfl ⟨Nat.le_of_ble_eq_true rfl, Nat.le_of_ble_eq_true rfl⟩ rfl hl.1 rfl (Nat.le_of_ble_eq_true rfl) dX5_single_80) (fun r80 v80 w80 H locs hp80 h => ?_)
            obtain ⟨hr80, hu80⟩ := hp80
            obtain ⟨ev80, rfl⟩ := Prod.mk.inj hu80
            replace ev80 := ev80.symm
            refine lv_if_eq (tgt := 90) hx hb dX5_single_83 (by decide) (fun c_83 => ?_) (fun c_83 => ?_)
            · skip
              rw [hr80, bI_0] at c_83
              refine lv_iconst (v := 0) hx hb dX5_single_90 (by decide) ?_
              exact g_nret X h dX5_single_91 rfl (by rw [c_83, if_neg (by decide)] at ev80; exact RT_eq (u := v80) (rdF_pm h33 h40 c_74 c_83) rfl (RT_no (by rw [ev80]; exact FT_trans (by rw [ev57, hat1]; exact FT_at (by omega) (FT_refl _ _ _)) hRT71.1 (Nat.le_refl _)) (by rw [ev80]; exact hRT71.2.1)))
            · skip
              rw [hr80, bI_n] at c_83
              refine lv_iconst (v := 1) hx hb dX5_single_86 (by decide) ?_
              refine lv_goto (tgt := 91) hx hb dX5_single_87 (by decide) ?_
              exact g_nret X h dX5_single_91 rfl (by rw [c_83, if_pos rfl] at ev80; exact RT_eq (u := v80) (rdF_py h33 h40 c_74 c_83) rfl (RT_yes (by rw [ev80]; exact FT_at (by omega) (FT_trans (by rw [ev57, hat1]; exact FT_at (by omega) (FT_refl _ _ _)) hRT71.1 (Nat.le_refl _))) (by rw [ev80, up2_same]) (by rw [ev80]; exact TS_at (by omega) (hRT71.2.2 c_74))))
      · skip
        have h40 : isAt t z a 40 = false := isAt_f2 (by rw [← ht, ← ex3_24]; exact c_34)
        refine lv_aload_n hx hb dX5_single_37 rfl (lv_at hl 1 rfl) ?_
        refine lv_aload_n hx hb dX5_single_38 rfl (lv_at hl 2 rfl) ?_
        refine g_ki h (g_runV X h (As := [.ref (zg Z (2 + 7 * j))]) (rest := []) (c_X5_test gl Z v w t z a hP j hj7 s hs hsz) mi_X5_test ml_RX5_95 (cc_108) (by decide) kl5 rfl ⟨Nat.le_of_ble_eq_true rfl, Nat.le_of_ble_eq_true rfl⟩ rfl hl.1 rfl (Nat.le_of_ble_eq_true rfl) dX5_single_39) (fun r39 v39 w39 H locs hp39 h => ?_)
        obtain ⟨hr39, hw39, hRT39⟩ := hp39
        obtain ⟨-, rfl⟩ := Prod.mk.inj hw39
        replace hRT39 : RT _ _ _ _ v39 _ := hRT39
        exact g_nret X h dX5_single_42 (by rw [hr39]; exact nar_bI _) (RT_eq (u := v39) (e := rdF t z 1 a) (rdF_t h33 h40) hr39 hRT39)

set_option maxRecDepth 100000 in
set_option maxHeartbeats 1000000 in
theorem c_X5_either_3 (gl : Launch) (Z : PL) (v : VV) (w : WV) (t : Nat → Int32) (z : Nat) (a : Nat) (hP : PT v t z a) (j : Nat) (hj7 : j < 7) (s : Nat) (hs : v (2 + 7 * j) 9 = nI s) (hsz : s + (z - a) ≤ 100) : CT gl yX5_either cX5_either 6 (some .boolean) 9 208 Z [.ref (zg Z 108), .ref (zg Z (2 + 7 * j)), .int 3] v w (Qi Z (fun r u => r = bI (rdE t z 1 a).1 ∧ (u.1, w) = u ∧ RT z (2 + 7 * j) s v u.1 (rdE t z 1 a))) := by
  refine g_met (by decide) (Nat.le_of_ble_eq_true rfl) ?_
  intro gp ge gs gm ga gb gh gc X h ls hl
  have hx := X.1
  have hb := X.2.1
  have hl : lv_has ls 6 [(0, .ref (zg Z 108)), (1, .ref (zg Z (2 + 7 * j))), (2, .int 3)] := hl
  obtain ⟨ht, hz, ha, hz1, haz, hch⟩ := id hP
  have hL : isL (2 + 7 * j) := isLj hj7
  refine lv_iconst (v := 0) hx hb dX5_either_0 (by decide) ?_
  refine lv_istore_n (lv' := [(3, .int 0), (0, .ref (zg Z 108)), (1, .ref (zg Z (2 + 7 * j))), (2, .int 3)]) hx hb dX5_either_1 rfl hl (by decide) rfl (fun ls hl => ?_)
  refine lv_iconst (v := 0) hx hb dX5_either_2 (by decide) ?_
  refine lv_istore (lv' := [(4, .int 0), (3, .int 0), (0, .ref (zg Z 108)), (1, .ref (zg Z (2 + 7 * j))), (2, .int 3)]) hx hb dX5_either_3 hl (by decide) rfl (fun ls hl => ?_)
  refine lv_iconst (v := 0) hx hb dX5_either_5 (by decide) ?_
  refine lv_istore (lv' := [(5, .int 0), (4, .int 0), (3, .int 0), (0, .ref (zg Z 108)), (1, .ref (zg Z (2 + 7 * j))), (2, .int 3)]) hx hb dX5_either_6 hl (by decide) rfl (fun ls hl => ?_)
  have L8 : ∀ (n8 : Nat) (x3 x4 x5 : Int32) (ia io : Bool) (q b : Nat) (lo li : List Nat) (va : VV), (x3 = bI ia) → (x4 = bI io) → (x5 = nI q) → (q ≤ 100) → (a + q ≤ b) → (b ≤ z) → (PT va t z b) → (FT v va (2 + 7 * j) s) → (TS va (2 + 7 * j) s (lo ++ li)) → ((lo ++ li).length + a + bN ia + bN io ≤ b) → (ia = false → li = []) → (io = false → lo = []) → (rdE t z 1 a = rsE t z 1 ia io b lo li) → 100 - q < n8 → ∀ (H : Heap) (locs : List Loc), HS Z gs va w H locs → ∀ ls : Array Slot, lv_has ls 6 [(0, .ref (zg Z 108)), (1, .ref (zg Z (2 + 7 * j))), (2, .int 3), (3, .int x3), (4, .int x4), (5, .int x5)] → W gp gl ge (rmm 9 208) gs gm ga gb gh gc H locs 0 0 (MQ gb (Qi Z (fun r u => r = bI (rdE t z 1 a).1 ∧ (u.1, w) = u ∧ RT z (2 + 7 * j) s v u.1 (rdE t z 1 a))) ga gs 0 0 (zA Z)) (F0 gm 8 ls []) := by
    intro n8
    induction n8 with
    | zero => intro x3 x4 x5 ia io q b lo li va hx3 hx4 hx5 hq hqb hbz hP3 hFT hTS hlen hli hlo hRE hmu; exact absurd hmu (Nat.not_lt_zero _)
    | succ n8 ih8 =>
      intro x3 x4 x5 ia io q b lo li va hx3 hx4 hx5 hq hqb hbz hP3 hFT hTS hlen hli hlo hRE hmu8 H locs h ls hl
      have hF2 := rdF_G t z 1 b hbz
      refine lv_iload hx hb dX5_either_8 (lv_at hl 5 rfl) ?_
      refine lv_bipush (v := 100) hx hb dX5_either_10 (by decide) ?_
      refine lv_icmp_ge (tgt := 78) hx hb dX5_either_12 (by decide) (fun c_12 => ?_) (fun c_12 => ?_)
      · skip
        have hqq := nI_le1 (a := 100) (b := q) rfl hx5 (by omega) (by omega) c_12
        refine lv_iconst (v := 0) hx hb dX5_either_78 (by decide) ?_
        exact g_nret X h dX5_either_79 rfl (RT_eq (u := va) (hRE.trans ((congrArg (fun y => rsE t z 1 ia io y lo li) (show b = z by omega)).trans (rsE_n (by rw [rdF_z])))) rfl (by rw [rdF_z]; exact RT_no hFT (by rw [show z = b by omega]; exact hP3.2.2.1)))
      · skip
        have hqq := nI_le0 (a := 100) (b := q) rfl hx5 (by omega) (by omega) c_12
        refine lv_aload_n hx hb dX5_either_15 rfl (lv_at hl 0 rfl) ?_
        refine lv_aload_n hx hb dX5_either_16 rfl (lv_at hl 1 rfl) ?_
        refine lv_iload_n hx hb dX5_either_17 rfl (lv_at hl 2 rfl) ?_
        refine g_ki h (g_runV X h (As := [.ref (zg Z (2 + 7 * j)), .int 3]) (rest := []) (c_X5_single_3 gl Z va w t z b hP3 j hj7 (s + (lo ++ li).length) hTS.1 (by omega)) mi_X5_single ml_RX5_89 (cc_108) (by decide) kl5 rfl ⟨Nat.le_of_ble_eq_true rfl, Nat.le_of_ble_eq_true rfl⟩ rfl hl.1 rfl (Nat.le_of_ble_eq_true rfl) dX5_either_18) (fun r18 v18 w18 H locs hp18 h => ?_)
        obtain ⟨hr18, hw18, hRT18⟩ := hp18
        obtain ⟨-, rfl⟩ := Prod.mk.inj hw18
        replace hRT18 : RT _ _ _ _ v18 _ := hRT18
        refine lv_if_ne (tgt := 26) hx hb dX5_either_21 (by decide) (fun c_21 => ?_) (fun c_21 => ?_)
        · skip
          rw [hr18, bI_n] at c_21
          refine lv_iload_n hx hb dX5_either_26 rfl (lv_at hl 3 rfl) ?_
          refine lv_if_eq (tgt := 35) hx hb dX5_either_27 (by decide) (fun c_27 => ?_) (fun c_27 => ?_)
          · skip
            rw [hx3, bI_0] at c_27
            have hTS2 : TS v18 (2 + 7 * j) s (lo ++ (liN t z 1 ia b li)) := by
              rw [liN, if_neg (by rw [c_27]; decide)]
              have z2 := TS_app hTS hRT18.1 (hRT18.2.2 c_21)
              rw [hli c_27, List.append_nil] at z2
              exact z2
            have hFT2 : FT v v18 (2 + 7 * j) s := (FT_trans (u := va) hFT hRT18.1 (Nat.le_add_right _ _))
            have hat2 : v18 108 2 = nI (rdF t z 1 b).2.1 := hRT18.2.1
            have hlen2 : (lo ++ (liN t z 1 ia b li)).length + a + bN io ≤ (rdF t z 1 b).2.1 := by
              rw [liN, if_neg (by rw [c_27]; decide), List.length_append]
              rw [hli c_27, List.append_nil, c_27] at hlen
              have z3 := (hF2.2.2 c_21).2
              have z4 : bN false = 0 := rfl
              omega
            refine lv_aload_n hx hb dX5_either_35 rfl (lv_at hl 0 rfl) ?_
            refine lv_bipush (v := 38) hx hb dX5_either_36 (by decide) ?_
            refine g_ki h (g_runV X h (As := [.int 38]) (rest := []) (c_X5_skip gl Z v18 w 38 t z ((rdF t z 1 b).2.1) (PT_FT (by omega) hP hFT2 hat2 hF2.2.1)) mi_X5_skip ml_RX5_35 (cc_108) (by decide) kl5 rfl ⟨Nat.le_of_ble_eq_true rfl, Nat.le_of_ble_eq_true rfl⟩ rfl hl.1 rfl (Nat.le_of_ble_eq_true rfl) dX5_either_38) (fun r38 v38 w38 H locs hp38 h => ?_)
            obtain ⟨hr38, hu38⟩ := hp38
            obtain ⟨ev38, rfl⟩ := Prod.mk.inj hu38
            replace ev38 := ev38.symm
            refine lv_istore_n (lv' := [(3, .int r38), (0, .ref (zg Z 108)), (1, .ref (zg Z (2 + 7 * j))), (2, .int 3), (4, .int x4), (5, .int x5)]) hx hb dX5_either_41 rfl hl (by decide) rfl (fun ls hl => ?_)
            refine lv_iload_n hx hb dX5_either_42 rfl (lv_at hl 0 rfl) ?_
            refine lv_if_ne (tgt := 72) hx hb dX5_either_43 (by decide) (fun c_43 => ?_) (fun c_43 => ?_)
            · skip
              rw [hr38, bI_n] at c_43
              rw [if_pos c_43] at ev38
              refine lv_iinc (v := (x5 + 1)) (lv' := [(5, .int (x5 + 1)), (3, .int r38), (0, .ref (zg Z 108)), (1, .ref (zg Z (2 + 7 * j))), (2, .int 3), (4, .int x4)]) hx hb dX5_either_72 hl (k := 5) rfl rfl (by decide) rfl (fun ls hl => ?_)
              refine lv_goto (tgt := 8) hx hb dX5_either_75 (by decide) ?_
              exact ih8 r38 x4 (x5 + 1) true io (q + 1) ((rdF t z 1 b).2.1 + 1) lo (liN t z 1 ia b li) v38 (by rw [hr38, c_43]) hx4 (by rw [hx5]; exact nI_1 _) (by omega) (by omega) (by have := isAt_lt c_43; omega) (by rw [ev38]; exact PT_at (PT_FT (by omega) hP hFT2 hat2 hF2.2.1) (isAt_lt c_43)) (by rw [ev38]; exact FT_at (by omega) hFT2) (by rw [ev38]; exact TS_at (by omega) hTS2) (by have z4 : bN true = 1 := rfl; omega) (fun q => by cases q) hlo (hRE.trans (rsE_and c_21 c_43)) (by omega) _ _ h ls (lv_sub hl [2, 3, 4, 1, 5, 0] rfl)
            · skip
              rw [hr38, bI_0] at c_43
              rw [if_neg (by rw [c_43]; decide)] at ev38
              refine lv_iload hx hb dX5_either_46 (lv_at hl 4 rfl) ?_
              refine lv_if_eq (tgt := 57) hx hb dX5_either_48 (by decide) (fun c_48 => ?_) (fun c_48 => ?_)
              · skip
                rw [hx4, bI_0] at c_48
                have ei : (if io then lo ++ (liN t z 1 ia b li) ++ [1] else (liN t z 1 ia b li)) = lo ++ (liN t z 1 ia b li) := by rw [c_48, if_neg (by decide), hlo c_48, List.nil_append]
                have hTS3 : TS v38 (2 + 7 * j) s (if io then lo ++ (liN t z 1 ia b li) ++ [1] else (liN t z 1 ia b li)) := by rw [ei, ev38]; exact hTS2
                have hFT3 : FT v v38 (2 + 7 * j) s := by rw [ev38]; exact hFT2
                have hat3 : v38 108 2 = nI (rdF t z 1 b).2.1 := by rw [ev38]; exact hat2
                have hlen3 : (if io then lo ++ (liN t z 1 ia b li) ++ [1] else (liN t z 1 ia b li)).length + a ≤ (rdF t z 1 b).2.1 := by rw [ei]; omega
                refine lv_aload_n hx hb dX5_either_57 rfl (lv_at hl 1 rfl) ?_
                refine lv_bipush (v := 124) hx hb dX5_either_58 (by decide) ?_
                refine g_ki h (g_runV X h (As := [.int 124]) (rest := []) (c_X5_skip gl Z v38 w 124 t z ((rdF t z 1 b).2.1) (PT_FT (by omega) hP hFT3 hat3 hF2.2.1)) mi_X5_skip ml_RX5_35 (cc_108) (by decide) kl5 rfl ⟨Nat.le_of_ble_eq_true rfl, Nat.le_of_ble_eq_true rfl⟩ rfl hl.1 rfl (Nat.le_of_ble_eq_true rfl) dX5_either_60) (fun r60 v60 w60 H locs hp60 h => ?_)
                obtain ⟨hr60, hu60⟩ := hp60
                obtain ⟨ev60, rfl⟩ := Prod.mk.inj hu60
                replace ev60 := ev60.symm
                refine lv_istore (lv' := [(4, .int r60), (3, .int r38), (0, .ref (zg Z 108)), (1, .ref (zg Z (2 + 7 * j))), (2, .int 3), (5, .int x5)]) hx hb dX5_either_63 hl (by decide) rfl (fun ls hl => ?_)
                refine lv_iload hx hb dX5_either_65 (lv_at hl 0 rfl) ?_
                refine lv_if_ne (tgt := 72) hx hb dX5_either_67 (by decide) (fun c_67 => ?_) (fun c_67 => ?_)
                · skip
                  rw [hr60, bI_n] at c_67
                  rw [if_pos c_67] at ev60
                  refine lv_iinc (v := (x5 + 1)) (lv' := [(5, .int (x5 + 1)), (4, .int r60), (3, .int r38), (0, .ref (zg Z 108)), (1, .ref (zg Z (2 + 7 * j))), (2, .int 3)]) hx hb dX5_either_72 hl (k := 5) rfl rfl (by decide) rfl (fun ls hl => ?_)
                  refine lv_goto (tgt := 8) hx hb dX5_either_75 (by decide) ?_
                  exact ih8 r38 r60 (x5 + 1) false true (q + 1) ((rdF t z 1 b).2.1 + 1) (if io then lo ++ (liN t z 1 ia b li) ++ [1] else (liN t z 1 ia b li)) [] v60 (by rw [hr38, c_43]) (by rw [hr60, c_67]) (by rw [hx5]; exact nI_1 _) (by omega) (by omega) (by have := isAt_lt c_67; omega) (by rw [ev60]; exact PT_at (PT_FT (by omega) hP hFT3 hat3 hF2.2.1) (isAt_lt c_67)) (by rw [ev60]; exact FT_at (by omega) hFT3) (by rw [List.append_nil, ev60]; exact TS_at (by omega) hTS3) (by rw [List.append_nil]; have z4 : bN true = 1 := rfl; have z5 : bN false = 0 := rfl; omega) (fun _ => rfl) (fun q => by cases q) (hRE.trans (rsE_or c_21 c_43 c_67)) (by omega) _ _ h ls (lv_sub hl [3, 4, 5, 2, 1, 0] rfl)
                · skip
                  rw [hr60, bI_0] at c_67
                  rw [if_neg (by rw [c_67]; decide)] at ev60
                  refine lv_iconst (v := 1) hx hb dX5_either_70 (by decide) ?_
                  exact g_nret X h dX5_either_71 rfl (RT_eq (u := v60) (hRE.trans (rsE_end c_21 c_43 c_67)) rfl (RT_yes (by rw [ev60]; exact hFT3) (by rw [ev60]; exact hat3) (by rw [ev60]; exact hTS3)))
              · skip
                rw [hx4, bI_n] at c_48
                refine lv_aload_n hx hb dX5_either_51 rfl (lv_at hl 2 rfl) ?_
                refine lv_bipush (v := (-2)) hx hb dX5_either_52 (by decide) ?_
                refine g_kv h (g_runV X h (As := [.int (-2)]) (rest := []) (c_X1_addStep gl Z v38 w (-2) (2 + 7 * j) hL (s + (lo ++ (liN t z 1 ia b li)).length) (by rw [ev38]; exact hTS2.1) (by rw [c_48] at hlen2; have z4 : bN true = 1 := rfl; have := hF2.2.1; omega)) mi_X1_addStep ml_RX5_92 (cL_0 hL) (by decide) kl1 rfl ⟨Nat.le_of_ble_eq_true rfl, Nat.le_of_ble_eq_true rfl⟩ rfl hl.1 rfl (Nat.le_of_ble_eq_true rfl) dX5_either_54) (fun v54 w54 H locs hp54 h => ?_)
                obtain ⟨ev54, rfl⟩ := Prod.mk.inj hp54
                replace ev54 := ev54.symm
                have ei : (if io then lo ++ (liN t z 1 ia b li) ++ [1] else (liN t z 1 ia b li)) = lo ++ (liN t z 1 ia b li) ++ [1] := by rw [c_48, if_pos rfl]
                have hTS3 : TS v54 (2 + 7 * j) s (if io then lo ++ (liN t z 1 ia b li) ++ [1] else (liN t z 1 ia b li)) := by
                  rw [ei]
                  exact TS_app hTS2 (by rw [ev54, ev38]; exact FT_ad (by omega)) (by rw [ev54, ev38]; exact TS_ad (t := 1) (by decide) rfl)
                have hFT3 : FT v v54 (2 + 7 * j) s := FT_trans hFT2 (by rw [ev54, ev38]; exact FT_ad (by omega)) (Nat.le_add_right _ (lo ++ (liN t z 1 ia b li)).length)
                have hat3 : v54 108 2 = nI (rdF t z 1 b).2.1 := by rw [ev54, ev38, adS, up2_ne (by omega), up2_ne (by omega)]; exact hat2
                have hlen3 : (if io then lo ++ (liN t z 1 ia b li) ++ [1] else (liN t z 1 ia b li)).length + a ≤ (rdF t z 1 b).2.1 := by
                  rw [ei, List.length_append, List.length_singleton]
                  rw [c_48] at hlen2
                  have z4 : bN true = 1 := rfl
                  omega
                refine lv_aload_n hx hb dX5_either_57 rfl (lv_at hl 1 rfl) ?_
                refine lv_bipush (v := 124) hx hb dX5_either_58 (by decide) ?_
                refine g_ki h (g_runV X h (As := [.int 124]) (rest := []) (c_X5_skip gl Z v54 w 124 t z ((rdF t z 1 b).2.1) (PT_FT (by omega) hP hFT3 hat3 hF2.2.1)) mi_X5_skip ml_RX5_35 (cc_108) (by decide) kl5 rfl ⟨Nat.le_of_ble_eq_true rfl, Nat.le_of_ble_eq_true rfl⟩ rfl hl.1 rfl (Nat.le_of_ble_eq_true rfl) dX5_either_60) (fun r60 v60 w60 H locs hp60 h => ?_)
                obtain ⟨hr60, hu60⟩ := hp60
                obtain ⟨ev60, rfl⟩ := Prod.mk.inj hu60
                replace ev60 := ev60.symm
                refine lv_istore (lv' := [(4, .int r60), (3, .int r38), (0, .ref (zg Z 108)), (1, .ref (zg Z (2 + 7 * j))), (2, .int 3), (5, .int x5)]) hx hb dX5_either_63 hl (by decide) rfl (fun ls hl => ?_)
                refine lv_iload hx hb dX5_either_65 (lv_at hl 0 rfl) ?_
                refine lv_if_ne (tgt := 72) hx hb dX5_either_67 (by decide) (fun c_67 => ?_) (fun c_67 => ?_)
                · skip
                  rw [hr60, bI_n] at c_67
                  rw [if_pos c_67] at ev60
                  refine lv_iinc (v := (x5 + 1)) (lv' := [(5, .int (x5 + 1)), (4, .int r60), (3, .int r38), (0, .ref (zg Z 108)), (1, .ref (zg Z (2 + 7 * j))), (2, .int 3)]) hx hb dX5_either_72 hl (k := 5) rfl rfl (by decide) rfl (fun ls hl => ?_)
                  refine lv_goto (tgt := 8) hx hb dX5_either_75 (by decide) ?_
                  exact ih8 r38 r60 (x5 + 1) false true (q + 1) ((rdF t z 1 b).2.1 + 1) (if io then lo ++ (liN t z 1 ia b li) ++ [1] else (liN t z 1 ia b li)) [] v60 (by rw [hr38, c_43]) (by rw [hr60, c_67]) (by rw [hx5]; exact nI_1 _) (by omega) (by omega) (by have := isAt_lt c_67; omega) (by rw [ev60]; exact PT_at (PT_FT (by omega) hP hFT3 hat3 hF2.2.1) (isAt_lt c_67)) (by rw [ev60]; exact FT_at (by omega) hFT3) (by rw [List.append_nil, ev60]; exact TS_at (by omega) hTS3) (by rw [List.append_nil]; have z4 : bN true = 1 := rfl; have z5 : bN false = 0 := rfl; omega) (fun _ => rfl) (fun q => by cases q) (hRE.trans (rsE_or c_21 c_43 c_67)) (by omega) _ _ h ls (lv_sub hl [3, 4, 5, 2, 1, 0] rfl)
                · skip
                  rw [hr60, bI_0] at c_67
                  rw [if_neg (by rw [c_67]; decide)] at ev60
                  refine lv_iconst (v := 1) hx hb dX5_either_70 (by decide) ?_
                  exact g_nret X h dX5_either_71 rfl (RT_eq (u := v60) (hRE.trans (rsE_end c_21 c_43 c_67)) rfl (RT_yes (by rw [ev60]; exact hFT3) (by rw [ev60]; exact hat3) (by rw [ev60]; exact hTS3)))
          · skip
            rw [hx3, bI_n] at c_27
            have hTSa := TS_app hTS hRT18.1 (hRT18.2.2 c_21)
            have hlena : ((lo ++ li) ++ (rdF t z 1 b).2.2).length + a + 1 ≤ (rdF t z 1 b).2.1 := by
              simp only [List.length_append] at hlen ⊢
              have z3 := (hF2.2.2 c_21).2
              rw [c_27] at hlen
              have z4 : bN true = 1 := rfl
              omega
            refine lv_aload_n hx hb dX5_either_30 rfl (lv_at hl 1 rfl) ?_
            refine lv_iconst (v := (-1)) hx hb dX5_either_31 (by decide) ?_
            refine g_kv h (g_runV X h (As := [.int (-1)]) (rest := []) (c_X1_addStep gl Z v18 w (-1) (2 + 7 * j) hL (s + ((lo ++ li) ++ (rdF t z 1 b).2.2).length) hTSa.1 (by have := hF2.2.1; omega)) mi_X1_addStep ml_RX5_92 (cL_0 hL) (by decide) kl1 rfl ⟨Nat.le_of_ble_eq_true rfl, Nat.le_of_ble_eq_true rfl⟩ rfl hl.1 rfl (Nat.le_of_ble_eq_true rfl) dX5_either_32) (fun v32 w32 H locs hp32 h => ?_)
            obtain ⟨ev32, rfl⟩ := Prod.mk.inj hp32
            replace ev32 := ev32.symm
            have hTS2 : TS v32 (2 + 7 * j) s (lo ++ (liN t z 1 ia b li)) := by
              rw [liN, if_pos c_27]
              have z2 := TS_app (x := v32) (l2 := [0]) hTSa (by rw [ev32]; exact FT_ad (by omega)) (by rw [ev32]; exact TS_ad (t := 0) (by decide) rfl)
              simpa [List.append_assoc] using z2
            have hFT2 : FT v v32 (2 + 7 * j) s := FT_trans (FT_trans (u := va) hFT hRT18.1 (Nat.le_add_right _ _)) (by rw [ev32]; exact FT_ad (by omega)) (Nat.le_add_right _ ((lo ++ li) ++ (rdF t z 1 b).2.2).length)
            have hat2 : v32 108 2 = nI (rdF t z 1 b).2.1 := by rw [ev32, adS, up2_ne (by omega), up2_ne (by omega)]; exact hRT18.2.1
            have hlen2 : (lo ++ (liN t z 1 ia b li)).length + a + bN io ≤ (rdF t z 1 b).2.1 := by
              rw [liN, if_pos c_27]
              simp only [List.length_append, List.length_singleton] at hlen ⊢
              have z3 := (hF2.2.2 c_21).2
              rw [c_27] at hlen
              have z4 : bN true = 1 := rfl
              omega
            refine lv_aload_n hx hb dX5_either_35 rfl (lv_at hl 0 rfl) ?_
            refine lv_bipush (v := 38) hx hb dX5_either_36 (by decide) ?_
            refine g_ki h (g_runV X h (As := [.int 38]) (rest := []) (c_X5_skip gl Z v32 w 38 t z ((rdF t z 1 b).2.1) (PT_FT (by omega) hP hFT2 hat2 hF2.2.1)) mi_X5_skip ml_RX5_35 (cc_108) (by decide) kl5 rfl ⟨Nat.le_of_ble_eq_true rfl, Nat.le_of_ble_eq_true rfl⟩ rfl hl.1 rfl (Nat.le_of_ble_eq_true rfl) dX5_either_38) (fun r38 v38 w38 H locs hp38 h => ?_)
            obtain ⟨hr38, hu38⟩ := hp38
            obtain ⟨ev38, rfl⟩ := Prod.mk.inj hu38
            replace ev38 := ev38.symm
            refine lv_istore_n (lv' := [(3, .int r38), (0, .ref (zg Z 108)), (1, .ref (zg Z (2 + 7 * j))), (2, .int 3), (4, .int x4), (5, .int x5)]) hx hb dX5_either_41 rfl hl (by decide) rfl (fun ls hl => ?_)
            refine lv_iload_n hx hb dX5_either_42 rfl (lv_at hl 0 rfl) ?_
            refine lv_if_ne (tgt := 72) hx hb dX5_either_43 (by decide) (fun c_43 => ?_) (fun c_43 => ?_)
            · skip
              rw [hr38, bI_n] at c_43
              rw [if_pos c_43] at ev38
              refine lv_iinc (v := (x5 + 1)) (lv' := [(5, .int (x5 + 1)), (3, .int r38), (0, .ref (zg Z 108)), (1, .ref (zg Z (2 + 7 * j))), (2, .int 3), (4, .int x4)]) hx hb dX5_either_72 hl (k := 5) rfl rfl (by decide) rfl (fun ls hl => ?_)
              refine lv_goto (tgt := 8) hx hb dX5_either_75 (by decide) ?_
              exact ih8 r38 x4 (x5 + 1) true io (q + 1) ((rdF t z 1 b).2.1 + 1) lo (liN t z 1 ia b li) v38 (by rw [hr38, c_43]) hx4 (by rw [hx5]; exact nI_1 _) (by omega) (by omega) (by have := isAt_lt c_43; omega) (by rw [ev38]; exact PT_at (PT_FT (by omega) hP hFT2 hat2 hF2.2.1) (isAt_lt c_43)) (by rw [ev38]; exact FT_at (by omega) hFT2) (by rw [ev38]; exact TS_at (by omega) hTS2) (by have z4 : bN true = 1 := rfl; omega) (fun q => by cases q) hlo (hRE.trans (rsE_and c_21 c_43)) (by omega) _ _ h ls (lv_sub hl [2, 3, 4, 1, 5, 0] rfl)
            · skip
              rw [hr38, bI_0] at c_43
              rw [if_neg (by rw [c_43]; decide)] at ev38
              refine lv_iload hx hb dX5_either_46 (lv_at hl 4 rfl) ?_
              refine lv_if_eq (tgt := 57) hx hb dX5_either_48 (by decide) (fun c_48 => ?_) (fun c_48 => ?_)
              · skip
                rw [hx4, bI_0] at c_48
                have ei : (if io then lo ++ (liN t z 1 ia b li) ++ [1] else (liN t z 1 ia b li)) = lo ++ (liN t z 1 ia b li) := by rw [c_48, if_neg (by decide), hlo c_48, List.nil_append]
                have hTS3 : TS v38 (2 + 7 * j) s (if io then lo ++ (liN t z 1 ia b li) ++ [1] else (liN t z 1 ia b li)) := by rw [ei, ev38]; exact hTS2
                have hFT3 : FT v v38 (2 + 7 * j) s := by rw [ev38]; exact hFT2
                have hat3 : v38 108 2 = nI (rdF t z 1 b).2.1 := by rw [ev38]; exact hat2
                have hlen3 : (if io then lo ++ (liN t z 1 ia b li) ++ [1] else (liN t z 1 ia b li)).length + a ≤ (rdF t z 1 b).2.1 := by rw [ei]; omega
                refine lv_aload_n hx hb dX5_either_57 rfl (lv_at hl 1 rfl) ?_
                refine lv_bipush (v := 124) hx hb dX5_either_58 (by decide) ?_
                refine g_ki h (g_runV X h (As := [.int 124]) (rest := []) (c_X5_skip gl Z v38 w 124 t z ((rdF t z 1 b).2.1) (PT_FT (by omega) hP hFT3 hat3 hF2.2.1)) mi_X5_skip ml_RX5_35 (cc_108) (by decide) kl5 rfl ⟨Nat.le_of_ble_eq_true rfl, Nat.le_of_ble_eq_true rfl⟩ rfl hl.1 rfl (Nat.le_of_ble_eq_true rfl) dX5_either_60) (fun r60 v60 w60 H locs hp60 h => ?_)
                obtain ⟨hr60, hu60⟩ := hp60
                obtain ⟨ev60, rfl⟩ := Prod.mk.inj hu60
                replace ev60 := ev60.symm
                refine lv_istore (lv' := [(4, .int r60), (3, .int r38), (0, .ref (zg Z 108)), (1, .ref (zg Z (2 + 7 * j))), (2, .int 3), (5, .int x5)]) hx hb dX5_either_63 hl (by decide) rfl (fun ls hl => ?_)
                refine lv_iload hx hb dX5_either_65 (lv_at hl 0 rfl) ?_
                refine lv_if_ne (tgt := 72) hx hb dX5_either_67 (by decide) (fun c_67 => ?_) (fun c_67 => ?_)
                · skip
                  rw [hr60, bI_n] at c_67
                  rw [if_pos c_67] at ev60
                  refine lv_iinc (v := (x5 + 1)) (lv' := [(5, .int (x5 + 1)), (4, .int r60), (3, .int r38), (0, .ref (zg Z 108)), (1, .ref (zg Z (2 + 7 * j))), (2, .int 3)]) hx hb dX5_either_72 hl (k := 5) rfl rfl (by decide) rfl (fun ls hl => ?_)
                  refine lv_goto (tgt := 8) hx hb dX5_either_75 (by decide) ?_
                  exact ih8 r38 r60 (x5 + 1) false true (q + 1) ((rdF t z 1 b).2.1 + 1) (if io then lo ++ (liN t z 1 ia b li) ++ [1] else (liN t z 1 ia b li)) [] v60 (by rw [hr38, c_43]) (by rw [hr60, c_67]) (by rw [hx5]; exact nI_1 _) (by omega) (by omega) (by have := isAt_lt c_67; omega) (by rw [ev60]; exact PT_at (PT_FT (by omega) hP hFT3 hat3 hF2.2.1) (isAt_lt c_67)) (by rw [ev60]; exact FT_at (by omega) hFT3) (by rw [List.append_nil, ev60]; exact TS_at (by omega) hTS3) (by rw [List.append_nil]; have z4 : bN true = 1 := rfl; have z5 : bN false = 0 := rfl; omega) (fun _ => rfl) (fun q => by cases q) (hRE.trans (rsE_or c_21 c_43 c_67)) (by omega) _ _ h ls (lv_sub hl [3, 4, 5, 2, 1, 0] rfl)
                · skip
                  rw [hr60, bI_0] at c_67
                  rw [if_neg (by rw [c_67]; decide)] at ev60
                  refine lv_iconst (v := 1) hx hb dX5_either_70 (by decide) ?_
                  exact g_nret X h dX5_either_71 rfl (RT_eq (u := v60) (hRE.trans (rsE_end c_21 c_43 c_67)) rfl (RT_yes (by rw [ev60]; exact hFT3) (by rw [ev60]; exact hat3) (by rw [ev60]; exact hTS3)))
              · skip
                rw [hx4, bI_n] at c_48
                refine lv_aload_n hx hb dX5_either_51 rfl (lv_at hl 2 rfl) ?_
                refine lv_bipush (v := (-2)) hx hb dX5_either_52 (by decide) ?_
                refine g_kv h (g_runV X h (As := [.int (-2)]) (rest := []) (c_X1_addStep gl Z v38 w (-2) (2 + 7 * j) hL (s + (lo ++ (liN t z 1 ia b li)).length) (by rw [ev38]; exact hTS2.1) (by rw [c_48] at hlen2; have z4 : bN true = 1 := rfl; have := hF2.2.1; omega)) mi_X1_addStep ml_RX5_92 (cL_0 hL) (by decide) kl1 rfl ⟨Nat.le_of_ble_eq_true rfl, Nat.le_of_ble_eq_true rfl⟩ rfl hl.1 rfl (Nat.le_of_ble_eq_true rfl) dX5_either_54) (fun v54 w54 H locs hp54 h => ?_)
                obtain ⟨ev54, rfl⟩ := Prod.mk.inj hp54
                replace ev54 := ev54.symm
                have ei : (if io then lo ++ (liN t z 1 ia b li) ++ [1] else (liN t z 1 ia b li)) = lo ++ (liN t z 1 ia b li) ++ [1] := by rw [c_48, if_pos rfl]
                have hTS3 : TS v54 (2 + 7 * j) s (if io then lo ++ (liN t z 1 ia b li) ++ [1] else (liN t z 1 ia b li)) := by
                  rw [ei]
                  exact TS_app hTS2 (by rw [ev54, ev38]; exact FT_ad (by omega)) (by rw [ev54, ev38]; exact TS_ad (t := 1) (by decide) rfl)
                have hFT3 : FT v v54 (2 + 7 * j) s := FT_trans hFT2 (by rw [ev54, ev38]; exact FT_ad (by omega)) (Nat.le_add_right _ (lo ++ (liN t z 1 ia b li)).length)
                have hat3 : v54 108 2 = nI (rdF t z 1 b).2.1 := by rw [ev54, ev38, adS, up2_ne (by omega), up2_ne (by omega)]; exact hat2
                have hlen3 : (if io then lo ++ (liN t z 1 ia b li) ++ [1] else (liN t z 1 ia b li)).length + a ≤ (rdF t z 1 b).2.1 := by
                  rw [ei, List.length_append, List.length_singleton]
                  rw [c_48] at hlen2
                  have z4 : bN true = 1 := rfl
                  omega
                refine lv_aload_n hx hb dX5_either_57 rfl (lv_at hl 1 rfl) ?_
                refine lv_bipush (v := 124) hx hb dX5_either_58 (by decide) ?_
                refine g_ki h (g_runV X h (As := [.int 124]) (rest := []) (c_X5_skip gl Z v54 w 124 t z ((rdF t z 1 b).2.1) (PT_FT (by omega) hP hFT3 hat3 hF2.2.1)) mi_X5_skip ml_RX5_35 (cc_108) (by decide) kl5 rfl ⟨Nat.le_of_ble_eq_true rfl, Nat.le_of_ble_eq_true rfl⟩ rfl hl.1 rfl (Nat.le_of_ble_eq_true rfl) dX5_either_60) (fun r60 v60 w60 H locs hp60 h => ?_)
                obtain ⟨hr60, hu60⟩ := hp60
                obtain ⟨ev60, rfl⟩ := Prod.mk.inj hu60
                replace ev60 := ev60.symm
                refine lv_istore (lv' := [(4, .int r60), (3, .int r38), (0, .ref (zg Z 108)), (1, .ref (zg Z (2 + 7 * j))), (2, .int 3), (5, .int x5)]) hx hb dX5_either_63 hl (by decide) rfl (fun ls hl => ?_)
                refine lv_iload hx hb dX5_either_65 (lv_at hl 0 rfl) ?_
                refine lv_if_ne (tgt := 72) hx hb dX5_either_67 (by decide) (fun c_67 => ?_) (fun c_67 => ?_)
                · skip
                  rw [hr60, bI_n] at c_67
                  rw [if_pos c_67] at ev60
                  refine lv_iinc (v := (x5 + 1)) (lv' := [(5, .int (x5 + 1)), (4, .int r60), (3, .int r38), (0, .ref (zg Z 108)), (1, .ref (zg Z (2 + 7 * j))), (2, .int 3)]) hx hb dX5_either_72 hl (k := 5) rfl rfl (by decide) rfl (fun ls hl => ?_)
                  refine lv_goto (tgt := 8) hx hb dX5_either_75 (by decide) ?_
                  exact ih8 r38 r60 (x5 + 1) false true (q + 1) ((rdF t z 1 b).2.1 + 1) (if io then lo ++ (liN t z 1 ia b li) ++ [1] else (liN t z 1 ia b li)) [] v60 (by rw [hr38, c_43]) (by rw [hr60, c_67]) (by rw [hx5]; exact nI_1 _) (by omega) (by omega) (by have := isAt_lt c_67; omega) (by rw [ev60]; exact PT_at (PT_FT (by omega) hP hFT3 hat3 hF2.2.1) (isAt_lt c_67)) (by rw [ev60]; exact FT_at (by omega) hFT3) (by rw [List.append_nil, ev60]; exact TS_at (by omega) hTS3) (by rw [List.append_nil]; have z4 : bN true = 1 := rfl; have z5 : bN false = 0 := rfl; omega) (fun _ => rfl) (fun q => by cases q) (hRE.trans (rsE_or c_21 c_43 c_67)) (by omega) _ _ h ls (lv_sub hl [3, 4, 5, 2, 1, 0] rfl)
                · skip
                  rw [hr60, bI_0] at c_67
                  rw [if_neg (by rw [c_67]; decide)] at ev60
                  refine lv_iconst (v := 1) hx hb dX5_either_70 (by decide) ?_
                  exact g_nret X h dX5_either_71 rfl (RT_eq (u := v60) (hRE.trans (rsE_end c_21 c_43 c_67)) rfl (RT_yes (by rw [ev60]; exact hFT3) (by rw [ev60]; exact hat3) (by rw [ev60]; exact hTS3)))
        · skip
          rw [hr18, bI_0] at c_21
          refine lv_iconst (v := 0) hx hb dX5_either_24 (by decide) ?_
          exact g_nret X h dX5_either_25 rfl (RT_eq (u := v18) (hRE.trans (rsE_n c_21)) rfl (RT_no (FT_trans (u := va) hFT hRT18.1 (Nat.le_add_right _ _)) hRT18.2.1))
  exact L8 (100 - 0 + 1) 0 0 0 false false 0 a [] [] v rfl rfl rfl (by omega) (by omega) haz hP (FT_refl _ _ _) (TS_nil hs) (by show 0 + a + 0 + 0 ≤ a; omega) (fun _ => rfl) (fun _ => rfl) rsE_0 (Nat.lt_succ_self _) _ _ h ls (lv_sub hl [3, 4, 5, 2, 1, 0] rfl)

set_option maxRecDepth 100000 in
set_option maxHeartbeats 1000000 in
theorem c_X5_single_2 (gl : Launch) (Z : PL) (v : VV) (w : WV) (t : Nat → Int32) (z : Nat) (a : Nat) (hP : PT v t z a) (j : Nat) (hj7 : j < 7) (s : Nat) (hs : v (2 + 7 * j) 9 = nI s) (hsz : s + (z - a) ≤ 100) : CT gl yX5_single cX5_single 4 (some .boolean) 10 233 Z [.ref (zg Z 108), .ref (zg Z (2 + 7 * j)), .int 2] v w (Qi Z (fun r u => r = bI (rdF t z 2 a).1 ∧ (u.1, w) = u ∧ RT z (2 + 7 * j) s v u.1 (rdF t z 2 a))) := by
  refine g_met (by decide) (Nat.le_of_ble_eq_true rfl) ?_
  intro gp ge gs gm ga gb gh gc X h ls hl
  have hx := X.1
  have hb := X.2.1
  have hl : lv_has ls 4 [(0, .ref (zg Z 108)), (1, .ref (zg Z (2 + 7 * j))), (2, .int 2)] := hl
  obtain ⟨ht, hz, ha, hz1, haz, hch⟩ := id hP
  have hL : isL (2 + 7 * j) := isLj hj7
  refine lv_aload_n hx hb dX5_single_0 rfl (lv_at hl 0 rfl) ?_
  refine g_geti X h (k := 2) (cc_108) fr_RX5_28 rfl (by decide) dX5_single_1 ?_
  refine lv_aload_n hx hb dX5_single_4 rfl (lv_at hl 0 rfl) ?_
  refine g_geti X h (k := 1) (cc_108) fr_RX5_15 rfl (by decide) dX5_single_5 ?_
  refine lv_icmp_ge (tgt := 23) hx hb dX5_single_8 (by decide) (fun c_8 => ?_) (fun c_8 => ?_)
  · skip
    have hle := nI_le1 (a := z) (b := a) hz ha (by omega) (by omega) c_8
    refine lv_iconst (v := (-1)) hx hb dX5_single_23 (by decide) ?_
    refine lv_istore_n (lv' := [(3, .int (-1)), (0, .ref (zg Z 108)), (1, .ref (zg Z (2 + 7 * j))), (2, .int 2)]) hx hb dX5_single_24 rfl hl (by decide) rfl (fun ls hl => ?_)
    refine lv_iload_n hx hb dX5_single_25 rfl (lv_at hl 0 rfl) ?_
    refine lv_bipush (v := 33) hx hb dX5_single_26 (by decide) ?_
    refine lv_icmp_eq (tgt := 43) hx hb dX5_single_28 (by decide) (fun q => absurd q (by decide)) (fun _ => ?_)
    refine lv_iload_n hx hb dX5_single_31 rfl (lv_at hl 0 rfl) ?_
    refine lv_bipush (v := 40) hx hb dX5_single_32 (by decide) ?_
    refine lv_icmp_eq (tgt := 43) hx hb dX5_single_34 (by decide) (fun q => absurd q (by decide)) (fun _ => ?_)
    refine lv_aload_n hx hb dX5_single_37 rfl (lv_at hl 1 rfl) ?_
    refine lv_aload_n hx hb dX5_single_38 rfl (lv_at hl 2 rfl) ?_
    refine g_ki h (g_runV X h (As := [.ref (zg Z (2 + 7 * j))]) (rest := []) (c_X5_test gl Z v w t z a hP j hj7 s hs hsz) mi_X5_test ml_RX5_95 (cc_108) (by decide) kl5 rfl ⟨Nat.le_of_ble_eq_true rfl, Nat.le_of_ble_eq_true rfl⟩ rfl hl.1 rfl (Nat.le_of_ble_eq_true rfl) dX5_single_39) (fun r39 v39 w39 H locs hp39 h => ?_)
    obtain ⟨hr39, hw39, hRT39⟩ := hp39
    obtain ⟨-, rfl⟩ := Prod.mk.inj hw39
    replace hRT39 : RT _ _ _ _ v39 _ := hRT39
    exact g_nret X h dX5_single_42 (by rw [hr39]; exact nar_bI _) (RT_eq (u := v39) (e := rdF t z 2 a) (rdF_t (isAt_f1 (by omega)) (isAt_f1 (by omega))) hr39 hRT39)
  · skip
    have hle := nI_le0 (a := z) (b := a) hz ha (by omega) (by omega) c_8
    refine lv_aload_n hx hb dX5_single_11 rfl (lv_at hl 0 rfl) ?_
    refine g_getr X h (k := 0) (t := 109) (cc_108) fr_RX5_11 rfl (by decide) (by decide) (by decide) dX5_single_12 ?_
    refine lv_aload_n hx hb dX5_single_15 rfl (lv_at hl 0 rfl) ?_
    refine g_geti X h (k := 2) (cc_108) fr_RX5_28 rfl (by decide) dX5_single_16 ?_
    refine g_bald X h (k := a) (cc_109) ha (by omega) (by decide) dX5_single_19 ?_
    refine lv_goto (tgt := 24) hx hb dX5_single_20 (by decide) ?_
    refine lv_topi (fun x3_24 ex3_24 => ?_)
    refine lv_istore_n (lv' := [(3, .int x3_24), (0, .ref (zg Z 108)), (1, .ref (zg Z (2 + 7 * j))), (2, .int 2)]) hx hb dX5_single_24 rfl hl (by decide) rfl (fun ls hl => ?_)
    refine lv_iload_n hx hb dX5_single_25 rfl (lv_at hl 0 rfl) ?_
    refine lv_bipush (v := 33) hx hb dX5_single_26 (by decide) ?_
    refine lv_icmp_eq (tgt := 43) hx hb dX5_single_28 (by decide) (fun c_28 => ?_) (fun c_28 => ?_)
    · skip
      have h33 : isAt t z a 33 = true := isAt_t hle (by rw [← ht, ← ex3_24]; exact c_28)
      have h33z := isAt_lt h33
      have hat1 : v 108 2 + 1 = nI (a + 1) := by rw [ha]; exact nI_1 a
      have hF2 := rdF_G t z 1 (a + 1) h33z
      refine lv_iload_n hx hb dX5_single_43 rfl (lv_at hl 3 rfl) ?_
      refine lv_iconst (v := 4) hx hb dX5_single_44 (by decide) ?_
      refine lv_icmp_lt (tgt := 50) hx hb dX5_single_45 (by decide) (fun _ => ?_) (fun q => absurd q (by decide))
      refine lv_aload_n hx hb dX5_single_50 rfl (lv_at hl 1 rfl) ?_
      refine lv_dup hx hb dX5_single_51 rfl ?_
      refine g_geti X h (k := 2) (cc_108) fr_RX5_28 rfl (by decide) dX5_single_52 ?_
      refine lv_iconst (v := 1) hx hb dX5_single_55 (by decide) ?_
      refine lv_iadd hx hb dX5_single_56 ?_
      refine g_puti X h (k := 2) (cc_108) fp_RX5_28 rfl (by decide) dX5_single_57 (fun v57 H locs ev57 h => ?_)
      refine lv_iload_n hx hb dX5_single_60 rfl (lv_at hl 0 rfl) ?_
      refine lv_bipush (v := 40) hx hb dX5_single_61 (by decide) ?_
      refine lv_icmp_ne (tgt := 92) hx hb dX5_single_63 (by decide) (fun c_63 => ?_) (fun c_63 => ?_)
      · skip
        refine lv_aload_n hx hb dX5_single_92 rfl (lv_at hl 1 rfl) ?_
        refine lv_aload_n hx hb dX5_single_93 rfl (lv_at hl 2 rfl) ?_
        refine lv_iload_n hx hb dX5_single_94 rfl (lv_at hl 3 rfl) ?_
        refine lv_iconst (v := 1) hx hb dX5_single_95 (by decide) ?_
        refine lv_iadd hx hb dX5_single_96 ?_
        refine g_tr (y := 3) (by decide) ?_
        refine g_ki h (g_runV X h (As := [.ref (zg Z (2 + 7 * j)), .int 3]) (rest := []) (c_X5_single_3 gl Z v57 w t z (a + 1) (by rw [ev57, hat1]; exact PT_at hP h33z) j hj7 s (by rw [ev57, hat1, up2_ne (by omega)]; exact hs) (by omega)) mi_X5_single ml_RX5_89 (cc_108) (by decide) kl5 rfl ⟨Nat.le_of_ble_eq_true rfl, Nat.le_of_ble_eq_true rfl⟩ rfl hl.1 rfl (Nat.le_of_ble_eq_true rfl) dX5_single_97) (fun r97 v97 w97 H locs hp97 h => ?_)
        obtain ⟨hr97, hw97, hRT97⟩ := hp97
        obtain ⟨-, rfl⟩ := Prod.mk.inj hw97
        replace hRT97 : RT _ _ _ _ v97 _ := hRT97
        refine lv_if_ne (tgt := 105) hx hb dX5_single_100 (by decide) (fun c_100 => ?_) (fun c_100 => ?_)
        · skip
          rw [hr97, bI_n] at c_100
          refine lv_aload_n hx hb dX5_single_105 rfl (lv_at hl 2 rfl) ?_
          refine lv_bipush (v := (-3)) hx hb dX5_single_106 (by decide) ?_
          refine g_kv h (g_runV X h (As := [.int (-3)]) (rest := []) (c_X1_addStep gl Z v97 w (-3) (2 + 7 * j) hL (s + (rdF t z 1 (a + 1)).2.2.length) (hRT97.2.2 c_100).1 (by have := hF2.2.2 c_100; have := hF2.2.1; omega)) mi_X1_addStep ml_RX5_92 (cL_0 hL) (by decide) kl1 rfl ⟨Nat.le_of_ble_eq_true rfl, Nat.le_of_ble_eq_true rfl⟩ rfl hl.1 rfl (Nat.le_of_ble_eq_true rfl) dX5_single_108) (fun v108 w108 H locs hp108 h => ?_)
          obtain ⟨ev108, rfl⟩ := Prod.mk.inj hp108
          replace ev108 := ev108.symm
          refine lv_iconst (v := 1) hx hb dX5_single_111 (by decide) ?_
          exact g_nret X h dX5_single_112 rfl (RT_eq (u := v108) (rdF_y h33 c_100) rfl (RT_yes (FT_trans (FT_trans (by rw [ev57, hat1]; exact FT_at (by omega) (FT_refl _ _ _)) hRT97.1 (Nat.le_refl _)) (by rw [ev108]; exact FT_ad (by omega)) (Nat.le_add_right _ _)) (by rw [ev108, adS, up2_ne (by omega), up2_ne (by omega)]; exact hRT97.2.1) (TS_app (hRT97.2.2 c_100) (by rw [ev108]; exact FT_ad (by omega)) (by rw [ev108]; exact TS_ad (by decide) rfl))))
        · skip
          rw [hr97, bI_0] at c_100
          refine lv_iconst (v := 0) hx hb dX5_single_103 (by decide) ?_
          exact g_nret X h dX5_single_104 rfl (RT_eq (u := v97) (rdF_n h33 c_100) rfl (RT_no (FT_trans (by rw [ev57, hat1]; exact FT_at (by omega) (FT_refl _ _ _)) hRT97.1 (Nat.le_refl _)) hRT97.2.1))
      · exact absurd (c_28.symm.trans c_63) (by decide)
    · skip
      have h33 : isAt t z a 33 = false := isAt_f2 (by rw [← ht, ← ex3_24]; exact c_28)
      refine lv_iload_n hx hb dX5_single_31 rfl (lv_at hl 0 rfl) ?_
      refine lv_bipush (v := 40) hx hb dX5_single_32 (by decide) ?_
      refine lv_icmp_eq (tgt := 43) hx hb dX5_single_34 (by decide) (fun c_34 => ?_) (fun c_34 => ?_)
      · skip
        have h40 : isAt t z a 40 = true := isAt_t hle (by rw [← ht, ← ex3_24]; exact c_34)
        have h33z := isAt_lt h40
        have hat1 : v 108 2 + 1 = nI (a + 1) := by rw [ha]; exact nI_1 a
        have hE2 := rdE_G t z 1 (a + 1) h33z
        refine lv_iload_n hx hb dX5_single_43 rfl (lv_at hl 3 rfl) ?_
        refine lv_iconst (v := 4) hx hb dX5_single_44 (by decide) ?_
        refine lv_icmp_lt (tgt := 50) hx hb dX5_single_45 (by decide) (fun _ => ?_) (fun q => absurd q (by decide))
        refine lv_aload_n hx hb dX5_single_50 rfl (lv_at hl 1 rfl) ?_
        refine lv_dup hx hb dX5_single_51 rfl ?_
        refine g_geti X h (k := 2) (cc_108) fr_RX5_28 rfl (by decide) dX5_single_52 ?_
        refine lv_iconst (v := 1) hx hb dX5_single_55 (by decide) ?_
        refine lv_iadd hx hb dX5_single_56 ?_
        refine g_puti X h (k := 2) (cc_108) fp_RX5_28 rfl (by decide) dX5_single_57 (fun v57 H locs ev57 h => ?_)
        refine lv_iload_n hx hb dX5_single_60 rfl (lv_at hl 0 rfl) ?_
        refine lv_bipush (v := 40) hx hb dX5_single_61 (by decide) ?_
        refine lv_icmp_ne (tgt := 92) hx hb dX5_single_63 (by decide) (fun c_63 => ?_) (fun c_63 => ?_)
        · exact absurd c_34 c_63
        · skip
          refine lv_aload_n hx hb dX5_single_66 rfl (lv_at hl 1 rfl) ?_
          refine lv_aload_n hx hb dX5_single_67 rfl (lv_at hl 2 rfl) ?_
          refine lv_iload_n hx hb dX5_single_68 rfl (lv_at hl 3 rfl) ?_
          refine lv_iconst (v := 1) hx hb dX5_single_69 (by decide) ?_
          refine lv_iadd hx hb dX5_single_70 ?_
          refine g_tr (y := 3) (by decide) ?_
          refine g_ki h (g_runV X h (As := [.ref (zg Z (2 + 7 * j)), .int 3]) (rest := []) (c_X5_either_3 gl Z v57 w t z (a + 1) (by rw [ev57, hat1]; exact PT_at hP h33z) j hj7 s (by rw [ev57, hat1, up2_ne (by omega)]; exact hs) (by omega)) mi_X5_either ml_RX5_46 (cc_108) (by decide) kl5 rfl ⟨Nat.le_of_ble_eq_true rfl, Nat.le_of_ble_eq_true rfl⟩ rfl hl.1 rfl (Nat.le_of_ble_eq_true rfl) dX5_single_71) (fun r71 v71 w71 H locs hp71 h => ?_)
          obtain ⟨hr71, hw71, hRT71⟩ := hp71
          obtain ⟨-, rfl⟩ := Prod.mk.inj hw71
          replace hRT71 : RT _ _ _ _ v71 _ := hRT71
          refine lv_if_eq (tgt := 90) hx hb dX5_single_74 (by decide) (fun c_74 => ?_) (fun c_74 => ?_)
          · skip
            rw [hr71, bI_0] at c_74
            refine lv_iconst (v := 0) hx hb dX5_single_90 (by decide) ?_
            exact g_nret X h dX5_single_91 rfl (RT_eq (u := v71) (rdF_pn h33 h40 c_74) rfl (RT_no (FT_trans (by rw [ev57, hat1]; exact FT_at (by omega) (FT_refl _ _ _)) hRT71.1 (Nat.le_refl _)) hRT71.2.1))
          · skip
            rw [hr71, bI_n] at c_74
            refine lv_aload_n hx hb dX5_single_77 rfl (lv_at hl 1 rfl) ?_
            refine lv_bipush (v := 41) hx hb dX5_single_78 (by decide) ?_
            refine g_ki h (g_runV X h (As := [.int 41]) (rest := []) (c_X5_skip gl Z v71 w 41 t z ((rdE t z 1 (a + 1)).2.1) (PT_FT (by omega) (by rw [ev57, hat1]; exact PT_at hP h33z) hRT71.1 hRT71.2.1 hE2.2.1)) mi_X5_skip ml_RX5_35 (cc_108) (by decide) kl5 rfl ⟨Nat.le_of_ble_eq_true rfl, Nat.le_of_ble_eq_true rfl⟩ rfl hl.1 rfl (Nat.le_of_ble_eq_true rfl) dX5_single_80) (fun r80 v80 w80 H locs hp80 h => ?_)
            obtain ⟨hr80, hu80⟩ := hp80
            obtain ⟨ev80, rfl⟩ := Prod.mk.inj hu80
            replace ev80 := ev80.symm
            refine lv_if_eq (tgt := 90) hx hb dX5_single_83 (by decide) (fun c_83 => ?_) (fun c_83 => ?_)
            · skip
              rw [hr80, bI_0] at c_83
              refine lv_iconst (v := 0) hx hb dX5_single_90 (by decide) ?_
              exact g_nret X h dX5_single_91 rfl (by rw [c_83, if_neg (by decide)] at ev80; exact RT_eq (u := v80) (rdF_pm h33 h40 c_74 c_83) rfl (RT_no (by rw [ev80]; exact FT_trans (by rw [ev57, hat1]; exact FT_at (by omega) (FT_refl _ _ _)) hRT71.1 (Nat.le_refl _)) (by rw [ev80]; exact hRT71.2.1)))
            · skip
              rw [hr80, bI_n] at c_83
              refine lv_iconst (v := 1) hx hb dX5_single_86 (by decide) ?_
              refine lv_goto (tgt := 91) hx hb dX5_single_87 (by decide) ?_
              exact g_nret X h dX5_single_91 rfl (by rw [c_83, if_pos rfl] at ev80; exact RT_eq (u := v80) (rdF_py h33 h40 c_74 c_83) rfl (RT_yes (by rw [ev80]; exact FT_at (by omega) (FT_trans (by rw [ev57, hat1]; exact FT_at (by omega) (FT_refl _ _ _)) hRT71.1 (Nat.le_refl _))) (by rw [ev80, up2_same]) (by rw [ev80]; exact TS_at (by omega) (hRT71.2.2 c_74))))
      · skip
        have h40 : isAt t z a 40 = false := isAt_f2 (by rw [← ht, ← ex3_24]; exact c_34)
        refine lv_aload_n hx hb dX5_single_37 rfl (lv_at hl 1 rfl) ?_
        refine lv_aload_n hx hb dX5_single_38 rfl (lv_at hl 2 rfl) ?_
        refine g_ki h (g_runV X h (As := [.ref (zg Z (2 + 7 * j))]) (rest := []) (c_X5_test gl Z v w t z a hP j hj7 s hs hsz) mi_X5_test ml_RX5_95 (cc_108) (by decide) kl5 rfl ⟨Nat.le_of_ble_eq_true rfl, Nat.le_of_ble_eq_true rfl⟩ rfl hl.1 rfl (Nat.le_of_ble_eq_true rfl) dX5_single_39) (fun r39 v39 w39 H locs hp39 h => ?_)
        obtain ⟨hr39, hw39, hRT39⟩ := hp39
        obtain ⟨-, rfl⟩ := Prod.mk.inj hw39
        replace hRT39 : RT _ _ _ _ v39 _ := hRT39
        exact g_nret X h dX5_single_42 (by rw [hr39]; exact nar_bI _) (RT_eq (u := v39) (e := rdF t z 2 a) (rdF_t h33 h40) hr39 hRT39)

set_option maxRecDepth 100000 in
set_option maxHeartbeats 1000000 in
theorem c_X5_either_2 (gl : Launch) (Z : PL) (v : VV) (w : WV) (t : Nat → Int32) (z : Nat) (a : Nat) (hP : PT v t z a) (j : Nat) (hj7 : j < 7) (s : Nat) (hs : v (2 + 7 * j) 9 = nI s) (hsz : s + (z - a) ≤ 100) : CT gl yX5_either cX5_either 6 (some .boolean) 11 256 Z [.ref (zg Z 108), .ref (zg Z (2 + 7 * j)), .int 2] v w (Qi Z (fun r u => r = bI (rdE t z 2 a).1 ∧ (u.1, w) = u ∧ RT z (2 + 7 * j) s v u.1 (rdE t z 2 a))) := by
  refine g_met (by decide) (Nat.le_of_ble_eq_true rfl) ?_
  intro gp ge gs gm ga gb gh gc X h ls hl
  have hx := X.1
  have hb := X.2.1
  have hl : lv_has ls 6 [(0, .ref (zg Z 108)), (1, .ref (zg Z (2 + 7 * j))), (2, .int 2)] := hl
  obtain ⟨ht, hz, ha, hz1, haz, hch⟩ := id hP
  have hL : isL (2 + 7 * j) := isLj hj7
  refine lv_iconst (v := 0) hx hb dX5_either_0 (by decide) ?_
  refine lv_istore_n (lv' := [(3, .int 0), (0, .ref (zg Z 108)), (1, .ref (zg Z (2 + 7 * j))), (2, .int 2)]) hx hb dX5_either_1 rfl hl (by decide) rfl (fun ls hl => ?_)
  refine lv_iconst (v := 0) hx hb dX5_either_2 (by decide) ?_
  refine lv_istore (lv' := [(4, .int 0), (3, .int 0), (0, .ref (zg Z 108)), (1, .ref (zg Z (2 + 7 * j))), (2, .int 2)]) hx hb dX5_either_3 hl (by decide) rfl (fun ls hl => ?_)
  refine lv_iconst (v := 0) hx hb dX5_either_5 (by decide) ?_
  refine lv_istore (lv' := [(5, .int 0), (4, .int 0), (3, .int 0), (0, .ref (zg Z 108)), (1, .ref (zg Z (2 + 7 * j))), (2, .int 2)]) hx hb dX5_either_6 hl (by decide) rfl (fun ls hl => ?_)
  have L8 : ∀ (n8 : Nat) (x3 x4 x5 : Int32) (ia io : Bool) (q b : Nat) (lo li : List Nat) (va : VV), (x3 = bI ia) → (x4 = bI io) → (x5 = nI q) → (q ≤ 100) → (a + q ≤ b) → (b ≤ z) → (PT va t z b) → (FT v va (2 + 7 * j) s) → (TS va (2 + 7 * j) s (lo ++ li)) → ((lo ++ li).length + a + bN ia + bN io ≤ b) → (ia = false → li = []) → (io = false → lo = []) → (rdE t z 2 a = rsE t z 2 ia io b lo li) → 100 - q < n8 → ∀ (H : Heap) (locs : List Loc), HS Z gs va w H locs → ∀ ls : Array Slot, lv_has ls 6 [(0, .ref (zg Z 108)), (1, .ref (zg Z (2 + 7 * j))), (2, .int 2), (3, .int x3), (4, .int x4), (5, .int x5)] → W gp gl ge (rmm 11 256) gs gm ga gb gh gc H locs 0 0 (MQ gb (Qi Z (fun r u => r = bI (rdE t z 2 a).1 ∧ (u.1, w) = u ∧ RT z (2 + 7 * j) s v u.1 (rdE t z 2 a))) ga gs 0 0 (zA Z)) (F0 gm 8 ls []) := by
    intro n8
    induction n8 with
    | zero => intro x3 x4 x5 ia io q b lo li va hx3 hx4 hx5 hq hqb hbz hP3 hFT hTS hlen hli hlo hRE hmu; exact absurd hmu (Nat.not_lt_zero _)
    | succ n8 ih8 =>
      intro x3 x4 x5 ia io q b lo li va hx3 hx4 hx5 hq hqb hbz hP3 hFT hTS hlen hli hlo hRE hmu8 H locs h ls hl
      have hF2 := rdF_G t z 2 b hbz
      refine lv_iload hx hb dX5_either_8 (lv_at hl 5 rfl) ?_
      refine lv_bipush (v := 100) hx hb dX5_either_10 (by decide) ?_
      refine lv_icmp_ge (tgt := 78) hx hb dX5_either_12 (by decide) (fun c_12 => ?_) (fun c_12 => ?_)
      · skip
        have hqq := nI_le1 (a := 100) (b := q) rfl hx5 (by omega) (by omega) c_12
        refine lv_iconst (v := 0) hx hb dX5_either_78 (by decide) ?_
        exact g_nret X h dX5_either_79 rfl (RT_eq (u := va) (hRE.trans ((congrArg (fun y => rsE t z 2 ia io y lo li) (show b = z by omega)).trans (rsE_n (by rw [rdF_z])))) rfl (by rw [rdF_z]; exact RT_no hFT (by rw [show z = b by omega]; exact hP3.2.2.1)))
      · skip
        have hqq := nI_le0 (a := 100) (b := q) rfl hx5 (by omega) (by omega) c_12
        refine lv_aload_n hx hb dX5_either_15 rfl (lv_at hl 0 rfl) ?_
        refine lv_aload_n hx hb dX5_either_16 rfl (lv_at hl 1 rfl) ?_
        refine lv_iload_n hx hb dX5_either_17 rfl (lv_at hl 2 rfl) ?_
        refine g_ki h (g_runV X h (As := [.ref (zg Z (2 + 7 * j)), .int 2]) (rest := []) (c_X5_single_2 gl Z va w t z b hP3 j hj7 (s + (lo ++ li).length) hTS.1 (by omega)) mi_X5_single ml_RX5_89 (cc_108) (by decide) kl5 rfl ⟨Nat.le_of_ble_eq_true rfl, Nat.le_of_ble_eq_true rfl⟩ rfl hl.1 rfl (Nat.le_of_ble_eq_true rfl) dX5_either_18) (fun r18 v18 w18 H locs hp18 h => ?_)
        obtain ⟨hr18, hw18, hRT18⟩ := hp18
        obtain ⟨-, rfl⟩ := Prod.mk.inj hw18
        replace hRT18 : RT _ _ _ _ v18 _ := hRT18
        refine lv_if_ne (tgt := 26) hx hb dX5_either_21 (by decide) (fun c_21 => ?_) (fun c_21 => ?_)
        · skip
          rw [hr18, bI_n] at c_21
          refine lv_iload_n hx hb dX5_either_26 rfl (lv_at hl 3 rfl) ?_
          refine lv_if_eq (tgt := 35) hx hb dX5_either_27 (by decide) (fun c_27 => ?_) (fun c_27 => ?_)
          · skip
            rw [hx3, bI_0] at c_27
            have hTS2 : TS v18 (2 + 7 * j) s (lo ++ (liN t z 2 ia b li)) := by
              rw [liN, if_neg (by rw [c_27]; decide)]
              have z2 := TS_app hTS hRT18.1 (hRT18.2.2 c_21)
              rw [hli c_27, List.append_nil] at z2
              exact z2
            have hFT2 : FT v v18 (2 + 7 * j) s := (FT_trans (u := va) hFT hRT18.1 (Nat.le_add_right _ _))
            have hat2 : v18 108 2 = nI (rdF t z 2 b).2.1 := hRT18.2.1
            have hlen2 : (lo ++ (liN t z 2 ia b li)).length + a + bN io ≤ (rdF t z 2 b).2.1 := by
              rw [liN, if_neg (by rw [c_27]; decide), List.length_append]
              rw [hli c_27, List.append_nil, c_27] at hlen
              have z3 := (hF2.2.2 c_21).2
              have z4 : bN false = 0 := rfl
              omega
            refine lv_aload_n hx hb dX5_either_35 rfl (lv_at hl 0 rfl) ?_
            refine lv_bipush (v := 38) hx hb dX5_either_36 (by decide) ?_
            refine g_ki h (g_runV X h (As := [.int 38]) (rest := []) (c_X5_skip gl Z v18 w 38 t z ((rdF t z 2 b).2.1) (PT_FT (by omega) hP hFT2 hat2 hF2.2.1)) mi_X5_skip ml_RX5_35 (cc_108) (by decide) kl5 rfl ⟨Nat.le_of_ble_eq_true rfl, Nat.le_of_ble_eq_true rfl⟩ rfl hl.1 rfl (Nat.le_of_ble_eq_true rfl) dX5_either_38) (fun r38 v38 w38 H locs hp38 h => ?_)
            obtain ⟨hr38, hu38⟩ := hp38
            obtain ⟨ev38, rfl⟩ := Prod.mk.inj hu38
            replace ev38 := ev38.symm
            refine lv_istore_n (lv' := [(3, .int r38), (0, .ref (zg Z 108)), (1, .ref (zg Z (2 + 7 * j))), (2, .int 2), (4, .int x4), (5, .int x5)]) hx hb dX5_either_41 rfl hl (by decide) rfl (fun ls hl => ?_)
            refine lv_iload_n hx hb dX5_either_42 rfl (lv_at hl 0 rfl) ?_
            refine lv_if_ne (tgt := 72) hx hb dX5_either_43 (by decide) (fun c_43 => ?_) (fun c_43 => ?_)
            · skip
              rw [hr38, bI_n] at c_43
              rw [if_pos c_43] at ev38
              refine lv_iinc (v := (x5 + 1)) (lv' := [(5, .int (x5 + 1)), (3, .int r38), (0, .ref (zg Z 108)), (1, .ref (zg Z (2 + 7 * j))), (2, .int 2), (4, .int x4)]) hx hb dX5_either_72 hl (k := 5) rfl rfl (by decide) rfl (fun ls hl => ?_)
              refine lv_goto (tgt := 8) hx hb dX5_either_75 (by decide) ?_
              exact ih8 r38 x4 (x5 + 1) true io (q + 1) ((rdF t z 2 b).2.1 + 1) lo (liN t z 2 ia b li) v38 (by rw [hr38, c_43]) hx4 (by rw [hx5]; exact nI_1 _) (by omega) (by omega) (by have := isAt_lt c_43; omega) (by rw [ev38]; exact PT_at (PT_FT (by omega) hP hFT2 hat2 hF2.2.1) (isAt_lt c_43)) (by rw [ev38]; exact FT_at (by omega) hFT2) (by rw [ev38]; exact TS_at (by omega) hTS2) (by have z4 : bN true = 1 := rfl; omega) (fun q => by cases q) hlo (hRE.trans (rsE_and c_21 c_43)) (by omega) _ _ h ls (lv_sub hl [2, 3, 4, 1, 5, 0] rfl)
            · skip
              rw [hr38, bI_0] at c_43
              rw [if_neg (by rw [c_43]; decide)] at ev38
              refine lv_iload hx hb dX5_either_46 (lv_at hl 4 rfl) ?_
              refine lv_if_eq (tgt := 57) hx hb dX5_either_48 (by decide) (fun c_48 => ?_) (fun c_48 => ?_)
              · skip
                rw [hx4, bI_0] at c_48
                have ei : (if io then lo ++ (liN t z 2 ia b li) ++ [1] else (liN t z 2 ia b li)) = lo ++ (liN t z 2 ia b li) := by rw [c_48, if_neg (by decide), hlo c_48, List.nil_append]
                have hTS3 : TS v38 (2 + 7 * j) s (if io then lo ++ (liN t z 2 ia b li) ++ [1] else (liN t z 2 ia b li)) := by rw [ei, ev38]; exact hTS2
                have hFT3 : FT v v38 (2 + 7 * j) s := by rw [ev38]; exact hFT2
                have hat3 : v38 108 2 = nI (rdF t z 2 b).2.1 := by rw [ev38]; exact hat2
                have hlen3 : (if io then lo ++ (liN t z 2 ia b li) ++ [1] else (liN t z 2 ia b li)).length + a ≤ (rdF t z 2 b).2.1 := by rw [ei]; omega
                refine lv_aload_n hx hb dX5_either_57 rfl (lv_at hl 1 rfl) ?_
                refine lv_bipush (v := 124) hx hb dX5_either_58 (by decide) ?_
                refine g_ki h (g_runV X h (As := [.int 124]) (rest := []) (c_X5_skip gl Z v38 w 124 t z ((rdF t z 2 b).2.1) (PT_FT (by omega) hP hFT3 hat3 hF2.2.1)) mi_X5_skip ml_RX5_35 (cc_108) (by decide) kl5 rfl ⟨Nat.le_of_ble_eq_true rfl, Nat.le_of_ble_eq_true rfl⟩ rfl hl.1 rfl (Nat.le_of_ble_eq_true rfl) dX5_either_60) (fun r60 v60 w60 H locs hp60 h => ?_)
                obtain ⟨hr60, hu60⟩ := hp60
                obtain ⟨ev60, rfl⟩ := Prod.mk.inj hu60
                replace ev60 := ev60.symm
                refine lv_istore (lv' := [(4, .int r60), (3, .int r38), (0, .ref (zg Z 108)), (1, .ref (zg Z (2 + 7 * j))), (2, .int 2), (5, .int x5)]) hx hb dX5_either_63 hl (by decide) rfl (fun ls hl => ?_)
                refine lv_iload hx hb dX5_either_65 (lv_at hl 0 rfl) ?_
                refine lv_if_ne (tgt := 72) hx hb dX5_either_67 (by decide) (fun c_67 => ?_) (fun c_67 => ?_)
                · skip
                  rw [hr60, bI_n] at c_67
                  rw [if_pos c_67] at ev60
                  refine lv_iinc (v := (x5 + 1)) (lv' := [(5, .int (x5 + 1)), (4, .int r60), (3, .int r38), (0, .ref (zg Z 108)), (1, .ref (zg Z (2 + 7 * j))), (2, .int 2)]) hx hb dX5_either_72 hl (k := 5) rfl rfl (by decide) rfl (fun ls hl => ?_)
                  refine lv_goto (tgt := 8) hx hb dX5_either_75 (by decide) ?_
                  exact ih8 r38 r60 (x5 + 1) false true (q + 1) ((rdF t z 2 b).2.1 + 1) (if io then lo ++ (liN t z 2 ia b li) ++ [1] else (liN t z 2 ia b li)) [] v60 (by rw [hr38, c_43]) (by rw [hr60, c_67]) (by rw [hx5]; exact nI_1 _) (by omega) (by omega) (by have := isAt_lt c_67; omega) (by rw [ev60]; exact PT_at (PT_FT (by omega) hP hFT3 hat3 hF2.2.1) (isAt_lt c_67)) (by rw [ev60]; exact FT_at (by omega) hFT3) (by rw [List.append_nil, ev60]; exact TS_at (by omega) hTS3) (by rw [List.append_nil]; have z4 : bN true = 1 := rfl; have z5 : bN false = 0 := rfl; omega) (fun _ => rfl) (fun q => by cases q) (hRE.trans (rsE_or c_21 c_43 c_67)) (by omega) _ _ h ls (lv_sub hl [3, 4, 5, 2, 1, 0] rfl)
                · skip
                  rw [hr60, bI_0] at c_67
                  rw [if_neg (by rw [c_67]; decide)] at ev60
                  refine lv_iconst (v := 1) hx hb dX5_either_70 (by decide) ?_
                  exact g_nret X h dX5_either_71 rfl (RT_eq (u := v60) (hRE.trans (rsE_end c_21 c_43 c_67)) rfl (RT_yes (by rw [ev60]; exact hFT3) (by rw [ev60]; exact hat3) (by rw [ev60]; exact hTS3)))
              · skip
                rw [hx4, bI_n] at c_48
                refine lv_aload_n hx hb dX5_either_51 rfl (lv_at hl 2 rfl) ?_
                refine lv_bipush (v := (-2)) hx hb dX5_either_52 (by decide) ?_
                refine g_kv h (g_runV X h (As := [.int (-2)]) (rest := []) (c_X1_addStep gl Z v38 w (-2) (2 + 7 * j) hL (s + (lo ++ (liN t z 2 ia b li)).length) (by rw [ev38]; exact hTS2.1) (by rw [c_48] at hlen2; have z4 : bN true = 1 := rfl; have := hF2.2.1; omega)) mi_X1_addStep ml_RX5_92 (cL_0 hL) (by decide) kl1 rfl ⟨Nat.le_of_ble_eq_true rfl, Nat.le_of_ble_eq_true rfl⟩ rfl hl.1 rfl (Nat.le_of_ble_eq_true rfl) dX5_either_54) (fun v54 w54 H locs hp54 h => ?_)
                obtain ⟨ev54, rfl⟩ := Prod.mk.inj hp54
                replace ev54 := ev54.symm
                have ei : (if io then lo ++ (liN t z 2 ia b li) ++ [1] else (liN t z 2 ia b li)) = lo ++ (liN t z 2 ia b li) ++ [1] := by rw [c_48, if_pos rfl]
                have hTS3 : TS v54 (2 + 7 * j) s (if io then lo ++ (liN t z 2 ia b li) ++ [1] else (liN t z 2 ia b li)) := by
                  rw [ei]
                  exact TS_app hTS2 (by rw [ev54, ev38]; exact FT_ad (by omega)) (by rw [ev54, ev38]; exact TS_ad (t := 1) (by decide) rfl)
                have hFT3 : FT v v54 (2 + 7 * j) s := FT_trans hFT2 (by rw [ev54, ev38]; exact FT_ad (by omega)) (Nat.le_add_right _ (lo ++ (liN t z 2 ia b li)).length)
                have hat3 : v54 108 2 = nI (rdF t z 2 b).2.1 := by rw [ev54, ev38, adS, up2_ne (by omega), up2_ne (by omega)]; exact hat2
                have hlen3 : (if io then lo ++ (liN t z 2 ia b li) ++ [1] else (liN t z 2 ia b li)).length + a ≤ (rdF t z 2 b).2.1 := by
                  rw [ei, List.length_append, List.length_singleton]
                  rw [c_48] at hlen2
                  have z4 : bN true = 1 := rfl
                  omega
                refine lv_aload_n hx hb dX5_either_57 rfl (lv_at hl 1 rfl) ?_
                refine lv_bipush (v := 124) hx hb dX5_either_58 (by decide) ?_
                refine g_ki h (g_runV X h (As := [.int 124]) (rest := []) (c_X5_skip gl Z v54 w 124 t z ((rdF t z 2 b).2.1) (PT_FT (by omega) hP hFT3 hat3 hF2.2.1)) mi_X5_skip ml_RX5_35 (cc_108) (by decide) kl5 rfl ⟨Nat.le_of_ble_eq_true rfl, Nat.le_of_ble_eq_true rfl⟩ rfl hl.1 rfl (Nat.le_of_ble_eq_true rfl) dX5_either_60) (fun r60 v60 w60 H locs hp60 h => ?_)
                obtain ⟨hr60, hu60⟩ := hp60
                obtain ⟨ev60, rfl⟩ := Prod.mk.inj hu60
                replace ev60 := ev60.symm
                refine lv_istore (lv' := [(4, .int r60), (3, .int r38), (0, .ref (zg Z 108)), (1, .ref (zg Z (2 + 7 * j))), (2, .int 2), (5, .int x5)]) hx hb dX5_either_63 hl (by decide) rfl (fun ls hl => ?_)
                refine lv_iload hx hb dX5_either_65 (lv_at hl 0 rfl) ?_
                refine lv_if_ne (tgt := 72) hx hb dX5_either_67 (by decide) (fun c_67 => ?_) (fun c_67 => ?_)
                · skip
                  rw [hr60, bI_n] at c_67
                  rw [if_pos c_67] at ev60
                  refine lv_iinc (v := (x5 + 1)) (lv' := [(5, .int (x5 + 1)), (4, .int r60), (3, .int r38), (0, .ref (zg Z 108)), (1, .ref (zg Z (2 + 7 * j))), (2, .int 2)]) hx hb dX5_either_72 hl (k := 5) rfl rfl (by decide) rfl (fun ls hl => ?_)
                  refine lv_goto (tgt := 8) hx hb dX5_either_75 (by decide) ?_
                  exact ih8 r38 r60 (x5 + 1) false true (q + 1) ((rdF t z 2 b).2.1 + 1) (if io then lo ++ (liN t z 2 ia b li) ++ [1] else (liN t z 2 ia b li)) [] v60 (by rw [hr38, c_43]) (by rw [hr60, c_67]) (by rw [hx5]; exact nI_1 _) (by omega) (by omega) (by have := isAt_lt c_67; omega) (by rw [ev60]; exact PT_at (PT_FT (by omega) hP hFT3 hat3 hF2.2.1) (isAt_lt c_67)) (by rw [ev60]; exact FT_at (by omega) hFT3) (by rw [List.append_nil, ev60]; exact TS_at (by omega) hTS3) (by rw [List.append_nil]; have z4 : bN true = 1 := rfl; have z5 : bN false = 0 := rfl; omega) (fun _ => rfl) (fun q => by cases q) (hRE.trans (rsE_or c_21 c_43 c_67)) (by omega) _ _ h ls (lv_sub hl [3, 4, 5, 2, 1, 0] rfl)
                · skip
                  rw [hr60, bI_0] at c_67
                  rw [if_neg (by rw [c_67]; decide)] at ev60
                  refine lv_iconst (v := 1) hx hb dX5_either_70 (by decide) ?_
                  exact g_nret X h dX5_either_71 rfl (RT_eq (u := v60) (hRE.trans (rsE_end c_21 c_43 c_67)) rfl (RT_yes (by rw [ev60]; exact hFT3) (by rw [ev60]; exact hat3) (by rw [ev60]; exact hTS3)))
          · skip
            rw [hx3, bI_n] at c_27
            have hTSa := TS_app hTS hRT18.1 (hRT18.2.2 c_21)
            have hlena : ((lo ++ li) ++ (rdF t z 2 b).2.2).length + a + 1 ≤ (rdF t z 2 b).2.1 := by
              simp only [List.length_append] at hlen ⊢
              have z3 := (hF2.2.2 c_21).2
              rw [c_27] at hlen
              have z4 : bN true = 1 := rfl
              omega
            refine lv_aload_n hx hb dX5_either_30 rfl (lv_at hl 1 rfl) ?_
            refine lv_iconst (v := (-1)) hx hb dX5_either_31 (by decide) ?_
            refine g_kv h (g_runV X h (As := [.int (-1)]) (rest := []) (c_X1_addStep gl Z v18 w (-1) (2 + 7 * j) hL (s + ((lo ++ li) ++ (rdF t z 2 b).2.2).length) hTSa.1 (by have := hF2.2.1; omega)) mi_X1_addStep ml_RX5_92 (cL_0 hL) (by decide) kl1 rfl ⟨Nat.le_of_ble_eq_true rfl, Nat.le_of_ble_eq_true rfl⟩ rfl hl.1 rfl (Nat.le_of_ble_eq_true rfl) dX5_either_32) (fun v32 w32 H locs hp32 h => ?_)
            obtain ⟨ev32, rfl⟩ := Prod.mk.inj hp32
            replace ev32 := ev32.symm
            have hTS2 : TS v32 (2 + 7 * j) s (lo ++ (liN t z 2 ia b li)) := by
              rw [liN, if_pos c_27]
              have z2 := TS_app (x := v32) (l2 := [0]) hTSa (by rw [ev32]; exact FT_ad (by omega)) (by rw [ev32]; exact TS_ad (t := 0) (by decide) rfl)
              simpa [List.append_assoc] using z2
            have hFT2 : FT v v32 (2 + 7 * j) s := FT_trans (FT_trans (u := va) hFT hRT18.1 (Nat.le_add_right _ _)) (by rw [ev32]; exact FT_ad (by omega)) (Nat.le_add_right _ ((lo ++ li) ++ (rdF t z 2 b).2.2).length)
            have hat2 : v32 108 2 = nI (rdF t z 2 b).2.1 := by rw [ev32, adS, up2_ne (by omega), up2_ne (by omega)]; exact hRT18.2.1
            have hlen2 : (lo ++ (liN t z 2 ia b li)).length + a + bN io ≤ (rdF t z 2 b).2.1 := by
              rw [liN, if_pos c_27]
              simp only [List.length_append, List.length_singleton] at hlen ⊢
              have z3 := (hF2.2.2 c_21).2
              rw [c_27] at hlen
              have z4 : bN true = 1 := rfl
              omega
            refine lv_aload_n hx hb dX5_either_35 rfl (lv_at hl 0 rfl) ?_
            refine lv_bipush (v := 38) hx hb dX5_either_36 (by decide) ?_
            refine g_ki h (g_runV X h (As := [.int 38]) (rest := []) (c_X5_skip gl Z v32 w 38 t z ((rdF t z 2 b).2.1) (PT_FT (by omega) hP hFT2 hat2 hF2.2.1)) mi_X5_skip ml_RX5_35 (cc_108) (by decide) kl5 rfl ⟨Nat.le_of_ble_eq_true rfl, Nat.le_of_ble_eq_true rfl⟩ rfl hl.1 rfl (Nat.le_of_ble_eq_true rfl) dX5_either_38) (fun r38 v38 w38 H locs hp38 h => ?_)
            obtain ⟨hr38, hu38⟩ := hp38
            obtain ⟨ev38, rfl⟩ := Prod.mk.inj hu38
            replace ev38 := ev38.symm
            refine lv_istore_n (lv' := [(3, .int r38), (0, .ref (zg Z 108)), (1, .ref (zg Z (2 + 7 * j))), (2, .int 2), (4, .int x4), (5, .int x5)]) hx hb dX5_either_41 rfl hl (by decide) rfl (fun ls hl => ?_)
            refine lv_iload_n hx hb dX5_either_42 rfl (lv_at hl 0 rfl) ?_
            refine lv_if_ne (tgt := 72) hx hb dX5_either_43 (by decide) (fun c_43 => ?_) (fun c_43 => ?_)
            · skip
              rw [hr38, bI_n] at c_43
              rw [if_pos c_43] at ev38
              refine lv_iinc (v := (x5 + 1)) (lv' := [(5, .int (x5 + 1)), (3, .int r38), (0, .ref (zg Z 108)), (1, .ref (zg Z (2 + 7 * j))), (2, .int 2), (4, .int x4)]) hx hb dX5_either_72 hl (k := 5) rfl rfl (by decide) rfl (fun ls hl => ?_)
              refine lv_goto (tgt := 8) hx hb dX5_either_75 (by decide) ?_
              exact ih8 r38 x4 (x5 + 1) true io (q + 1) ((rdF t z 2 b).2.1 + 1) lo (liN t z 2 ia b li) v38 (by rw [hr38, c_43]) hx4 (by rw [hx5]; exact nI_1 _) (by omega) (by omega) (by have := isAt_lt c_43; omega) (by rw [ev38]; exact PT_at (PT_FT (by omega) hP hFT2 hat2 hF2.2.1) (isAt_lt c_43)) (by rw [ev38]; exact FT_at (by omega) hFT2) (by rw [ev38]; exact TS_at (by omega) hTS2) (by have z4 : bN true = 1 := rfl; omega) (fun q => by cases q) hlo (hRE.trans (rsE_and c_21 c_43)) (by omega) _ _ h ls (lv_sub hl [2, 3, 4, 1, 5, 0] rfl)
            · skip
              rw [hr38, bI_0] at c_43
              rw [if_neg (by rw [c_43]; decide)] at ev38
              refine lv_iload hx hb dX5_either_46 (lv_at hl 4 rfl) ?_
              refine lv_if_eq (tgt := 57) hx hb dX5_either_48 (by decide) (fun c_48 => ?_) (fun c_48 => ?_)
              · skip
                rw [hx4, bI_0] at c_48
                have ei : (if io then lo ++ (liN t z 2 ia b li) ++ [1] else (liN t z 2 ia b li)) = lo ++ (liN t z 2 ia b li) := by rw [c_48, if_neg (by decide), hlo c_48, List.nil_append]
                have hTS3 : TS v38 (2 + 7 * j) s (if io then lo ++ (liN t z 2 ia b li) ++ [1] else (liN t z 2 ia b li)) := by rw [ei, ev38]; exact hTS2
                have hFT3 : FT v v38 (2 + 7 * j) s := by rw [ev38]; exact hFT2
                have hat3 : v38 108 2 = nI (rdF t z 2 b).2.1 := by rw [ev38]; exact hat2
                have hlen3 : (if io then lo ++ (liN t z 2 ia b li) ++ [1] else (liN t z 2 ia b li)).length + a ≤ (rdF t z 2 b).2.1 := by rw [ei]; omega
                refine lv_aload_n hx hb dX5_either_57 rfl (lv_at hl 1 rfl) ?_
                refine lv_bipush (v := 124) hx hb dX5_either_58 (by decide) ?_
                refine g_ki h (g_runV X h (As := [.int 124]) (rest := []) (c_X5_skip gl Z v38 w 124 t z ((rdF t z 2 b).2.1) (PT_FT (by omega) hP hFT3 hat3 hF2.2.1)) mi_X5_skip ml_RX5_35 (cc_108) (by decide) kl5 rfl ⟨Nat.le_of_ble_eq_true rfl, Nat.le_of_ble_eq_true rfl⟩ rfl hl.1 rfl (Nat.le_of_ble_eq_true rfl) dX5_either_60) (fun r60 v60 w60 H locs hp60 h => ?_)
                obtain ⟨hr60, hu60⟩ := hp60
                obtain ⟨ev60, rfl⟩ := Prod.mk.inj hu60
                replace ev60 := ev60.symm
                refine lv_istore (lv' := [(4, .int r60), (3, .int r38), (0, .ref (zg Z 108)), (1, .ref (zg Z (2 + 7 * j))), (2, .int 2), (5, .int x5)]) hx hb dX5_either_63 hl (by decide) rfl (fun ls hl => ?_)
                refine lv_iload hx hb dX5_either_65 (lv_at hl 0 rfl) ?_
                refine lv_if_ne (tgt := 72) hx hb dX5_either_67 (by decide) (fun c_67 => ?_) (fun c_67 => ?_)
                · skip
                  rw [hr60, bI_n] at c_67
                  rw [if_pos c_67] at ev60
                  refine lv_iinc (v := (x5 + 1)) (lv' := [(5, .int (x5 + 1)), (4, .int r60), (3, .int r38), (0, .ref (zg Z 108)), (1, .ref (zg Z (2 + 7 * j))), (2, .int 2)]) hx hb dX5_either_72 hl (k := 5) rfl rfl (by decide) rfl (fun ls hl => ?_)
                  refine lv_goto (tgt := 8) hx hb dX5_either_75 (by decide) ?_
                  exact ih8 r38 r60 (x5 + 1) false true (q + 1) ((rdF t z 2 b).2.1 + 1) (if io then lo ++ (liN t z 2 ia b li) ++ [1] else (liN t z 2 ia b li)) [] v60 (by rw [hr38, c_43]) (by rw [hr60, c_67]) (by rw [hx5]; exact nI_1 _) (by omega) (by omega) (by have := isAt_lt c_67; omega) (by rw [ev60]; exact PT_at (PT_FT (by omega) hP hFT3 hat3 hF2.2.1) (isAt_lt c_67)) (by rw [ev60]; exact FT_at (by omega) hFT3) (by rw [List.append_nil, ev60]; exact TS_at (by omega) hTS3) (by rw [List.append_nil]; have z4 : bN true = 1 := rfl; have z5 : bN false = 0 := rfl; omega) (fun _ => rfl) (fun q => by cases q) (hRE.trans (rsE_or c_21 c_43 c_67)) (by omega) _ _ h ls (lv_sub hl [3, 4, 5, 2, 1, 0] rfl)
                · skip
                  rw [hr60, bI_0] at c_67
                  rw [if_neg (by rw [c_67]; decide)] at ev60
                  refine lv_iconst (v := 1) hx hb dX5_either_70 (by decide) ?_
                  exact g_nret X h dX5_either_71 rfl (RT_eq (u := v60) (hRE.trans (rsE_end c_21 c_43 c_67)) rfl (RT_yes (by rw [ev60]; exact hFT3) (by rw [ev60]; exact hat3) (by rw [ev60]; exact hTS3)))
              · skip
                rw [hx4, bI_n] at c_48
                refine lv_aload_n hx hb dX5_either_51 rfl (lv_at hl 2 rfl) ?_
                refine lv_bipush (v := (-2)) hx hb dX5_either_52 (by decide) ?_
                refine g_kv h (g_runV X h (As := [.int (-2)]) (rest := []) (c_X1_addStep gl Z v38 w (-2) (2 + 7 * j) hL (s + (lo ++ (liN t z 2 ia b li)).length) (by rw [ev38]; exact hTS2.1) (by rw [c_48] at hlen2; have z4 : bN true = 1 := rfl; have := hF2.2.1; omega)) mi_X1_addStep ml_RX5_92 (cL_0 hL) (by decide) kl1 rfl ⟨Nat.le_of_ble_eq_true rfl, Nat.le_of_ble_eq_true rfl⟩ rfl hl.1 rfl (Nat.le_of_ble_eq_true rfl) dX5_either_54) (fun v54 w54 H locs hp54 h => ?_)
                obtain ⟨ev54, rfl⟩ := Prod.mk.inj hp54
                replace ev54 := ev54.symm
                have ei : (if io then lo ++ (liN t z 2 ia b li) ++ [1] else (liN t z 2 ia b li)) = lo ++ (liN t z 2 ia b li) ++ [1] := by rw [c_48, if_pos rfl]
                have hTS3 : TS v54 (2 + 7 * j) s (if io then lo ++ (liN t z 2 ia b li) ++ [1] else (liN t z 2 ia b li)) := by
                  rw [ei]
                  exact TS_app hTS2 (by rw [ev54, ev38]; exact FT_ad (by omega)) (by rw [ev54, ev38]; exact TS_ad (t := 1) (by decide) rfl)
                have hFT3 : FT v v54 (2 + 7 * j) s := FT_trans hFT2 (by rw [ev54, ev38]; exact FT_ad (by omega)) (Nat.le_add_right _ (lo ++ (liN t z 2 ia b li)).length)
                have hat3 : v54 108 2 = nI (rdF t z 2 b).2.1 := by rw [ev54, ev38, adS, up2_ne (by omega), up2_ne (by omega)]; exact hat2
                have hlen3 : (if io then lo ++ (liN t z 2 ia b li) ++ [1] else (liN t z 2 ia b li)).length + a ≤ (rdF t z 2 b).2.1 := by
                  rw [ei, List.length_append, List.length_singleton]
                  rw [c_48] at hlen2
                  have z4 : bN true = 1 := rfl
                  omega
                refine lv_aload_n hx hb dX5_either_57 rfl (lv_at hl 1 rfl) ?_
                refine lv_bipush (v := 124) hx hb dX5_either_58 (by decide) ?_
                refine g_ki h (g_runV X h (As := [.int 124]) (rest := []) (c_X5_skip gl Z v54 w 124 t z ((rdF t z 2 b).2.1) (PT_FT (by omega) hP hFT3 hat3 hF2.2.1)) mi_X5_skip ml_RX5_35 (cc_108) (by decide) kl5 rfl ⟨Nat.le_of_ble_eq_true rfl, Nat.le_of_ble_eq_true rfl⟩ rfl hl.1 rfl (Nat.le_of_ble_eq_true rfl) dX5_either_60) (fun r60 v60 w60 H locs hp60 h => ?_)
                obtain ⟨hr60, hu60⟩ := hp60
                obtain ⟨ev60, rfl⟩ := Prod.mk.inj hu60
                replace ev60 := ev60.symm
                refine lv_istore (lv' := [(4, .int r60), (3, .int r38), (0, .ref (zg Z 108)), (1, .ref (zg Z (2 + 7 * j))), (2, .int 2), (5, .int x5)]) hx hb dX5_either_63 hl (by decide) rfl (fun ls hl => ?_)
                refine lv_iload hx hb dX5_either_65 (lv_at hl 0 rfl) ?_
                refine lv_if_ne (tgt := 72) hx hb dX5_either_67 (by decide) (fun c_67 => ?_) (fun c_67 => ?_)
                · skip
                  rw [hr60, bI_n] at c_67
                  rw [if_pos c_67] at ev60
                  refine lv_iinc (v := (x5 + 1)) (lv' := [(5, .int (x5 + 1)), (4, .int r60), (3, .int r38), (0, .ref (zg Z 108)), (1, .ref (zg Z (2 + 7 * j))), (2, .int 2)]) hx hb dX5_either_72 hl (k := 5) rfl rfl (by decide) rfl (fun ls hl => ?_)
                  refine lv_goto (tgt := 8) hx hb dX5_either_75 (by decide) ?_
                  exact ih8 r38 r60 (x5 + 1) false true (q + 1) ((rdF t z 2 b).2.1 + 1) (if io then lo ++ (liN t z 2 ia b li) ++ [1] else (liN t z 2 ia b li)) [] v60 (by rw [hr38, c_43]) (by rw [hr60, c_67]) (by rw [hx5]; exact nI_1 _) (by omega) (by omega) (by have := isAt_lt c_67; omega) (by rw [ev60]; exact PT_at (PT_FT (by omega) hP hFT3 hat3 hF2.2.1) (isAt_lt c_67)) (by rw [ev60]; exact FT_at (by omega) hFT3) (by rw [List.append_nil, ev60]; exact TS_at (by omega) hTS3) (by rw [List.append_nil]; have z4 : bN true = 1 := rfl; have z5 : bN false = 0 := rfl; omega) (fun _ => rfl) (fun q => by cases q) (hRE.trans (rsE_or c_21 c_43 c_67)) (by omega) _ _ h ls (lv_sub hl [3, 4, 5, 2, 1, 0] rfl)
                · skip
                  rw [hr60, bI_0] at c_67
                  rw [if_neg (by rw [c_67]; decide)] at ev60
                  refine lv_iconst (v := 1) hx hb dX5_either_70 (by decide) ?_
                  exact g_nret X h dX5_either_71 rfl (RT_eq (u := v60) (hRE.trans (rsE_end c_21 c_43 c_67)) rfl (RT_yes (by rw [ev60]; exact hFT3) (by rw [ev60]; exact hat3) (by rw [ev60]; exact hTS3)))
        · skip
          rw [hr18, bI_0] at c_21
          refine lv_iconst (v := 0) hx hb dX5_either_24 (by decide) ?_
          exact g_nret X h dX5_either_25 rfl (RT_eq (u := v18) (hRE.trans (rsE_n c_21)) rfl (RT_no (FT_trans (u := va) hFT hRT18.1 (Nat.le_add_right _ _)) hRT18.2.1))
  exact L8 (100 - 0 + 1) 0 0 0 false false 0 a [] [] v rfl rfl rfl (by omega) (by omega) haz hP (FT_refl _ _ _) (TS_nil hs) (by show 0 + a + 0 + 0 ≤ a; omega) (fun _ => rfl) (fun _ => rfl) rsE_0 (Nat.lt_succ_self _) _ _ h ls (lv_sub hl [3, 4, 5, 2, 1, 0] rfl)

set_option maxRecDepth 100000 in
set_option maxHeartbeats 1000000 in
theorem c_X5_single_1 (gl : Launch) (Z : PL) (v : VV) (w : WV) (t : Nat → Int32) (z : Nat) (a : Nat) (hP : PT v t z a) (j : Nat) (hj7 : j < 7) (s : Nat) (hs : v (2 + 7 * j) 9 = nI s) (hsz : s + (z - a) ≤ 100) : CT gl yX5_single cX5_single 4 (some .boolean) 12 281 Z [.ref (zg Z 108), .ref (zg Z (2 + 7 * j)), .int 1] v w (Qi Z (fun r u => r = bI (rdF t z 3 a).1 ∧ (u.1, w) = u ∧ RT z (2 + 7 * j) s v u.1 (rdF t z 3 a))) := by
  refine g_met (by decide) (Nat.le_of_ble_eq_true rfl) ?_
  intro gp ge gs gm ga gb gh gc X h ls hl
  have hx := X.1
  have hb := X.2.1
  have hl : lv_has ls 4 [(0, .ref (zg Z 108)), (1, .ref (zg Z (2 + 7 * j))), (2, .int 1)] := hl
  obtain ⟨ht, hz, ha, hz1, haz, hch⟩ := id hP
  have hL : isL (2 + 7 * j) := isLj hj7
  refine lv_aload_n hx hb dX5_single_0 rfl (lv_at hl 0 rfl) ?_
  refine g_geti X h (k := 2) (cc_108) fr_RX5_28 rfl (by decide) dX5_single_1 ?_
  refine lv_aload_n hx hb dX5_single_4 rfl (lv_at hl 0 rfl) ?_
  refine g_geti X h (k := 1) (cc_108) fr_RX5_15 rfl (by decide) dX5_single_5 ?_
  refine lv_icmp_ge (tgt := 23) hx hb dX5_single_8 (by decide) (fun c_8 => ?_) (fun c_8 => ?_)
  · skip
    have hle := nI_le1 (a := z) (b := a) hz ha (by omega) (by omega) c_8
    refine lv_iconst (v := (-1)) hx hb dX5_single_23 (by decide) ?_
    refine lv_istore_n (lv' := [(3, .int (-1)), (0, .ref (zg Z 108)), (1, .ref (zg Z (2 + 7 * j))), (2, .int 1)]) hx hb dX5_single_24 rfl hl (by decide) rfl (fun ls hl => ?_)
    refine lv_iload_n hx hb dX5_single_25 rfl (lv_at hl 0 rfl) ?_
    refine lv_bipush (v := 33) hx hb dX5_single_26 (by decide) ?_
    refine lv_icmp_eq (tgt := 43) hx hb dX5_single_28 (by decide) (fun q => absurd q (by decide)) (fun _ => ?_)
    refine lv_iload_n hx hb dX5_single_31 rfl (lv_at hl 0 rfl) ?_
    refine lv_bipush (v := 40) hx hb dX5_single_32 (by decide) ?_
    refine lv_icmp_eq (tgt := 43) hx hb dX5_single_34 (by decide) (fun q => absurd q (by decide)) (fun _ => ?_)
    refine lv_aload_n hx hb dX5_single_37 rfl (lv_at hl 1 rfl) ?_
    refine lv_aload_n hx hb dX5_single_38 rfl (lv_at hl 2 rfl) ?_
    refine g_ki h (g_runV X h (As := [.ref (zg Z (2 + 7 * j))]) (rest := []) (c_X5_test gl Z v w t z a hP j hj7 s hs hsz) mi_X5_test ml_RX5_95 (cc_108) (by decide) kl5 rfl ⟨Nat.le_of_ble_eq_true rfl, Nat.le_of_ble_eq_true rfl⟩ rfl hl.1 rfl (Nat.le_of_ble_eq_true rfl) dX5_single_39) (fun r39 v39 w39 H locs hp39 h => ?_)
    obtain ⟨hr39, hw39, hRT39⟩ := hp39
    obtain ⟨-, rfl⟩ := Prod.mk.inj hw39
    replace hRT39 : RT _ _ _ _ v39 _ := hRT39
    exact g_nret X h dX5_single_42 (by rw [hr39]; exact nar_bI _) (RT_eq (u := v39) (e := rdF t z 3 a) (rdF_t (isAt_f1 (by omega)) (isAt_f1 (by omega))) hr39 hRT39)
  · skip
    have hle := nI_le0 (a := z) (b := a) hz ha (by omega) (by omega) c_8
    refine lv_aload_n hx hb dX5_single_11 rfl (lv_at hl 0 rfl) ?_
    refine g_getr X h (k := 0) (t := 109) (cc_108) fr_RX5_11 rfl (by decide) (by decide) (by decide) dX5_single_12 ?_
    refine lv_aload_n hx hb dX5_single_15 rfl (lv_at hl 0 rfl) ?_
    refine g_geti X h (k := 2) (cc_108) fr_RX5_28 rfl (by decide) dX5_single_16 ?_
    refine g_bald X h (k := a) (cc_109) ha (by omega) (by decide) dX5_single_19 ?_
    refine lv_goto (tgt := 24) hx hb dX5_single_20 (by decide) ?_
    refine lv_topi (fun x3_24 ex3_24 => ?_)
    refine lv_istore_n (lv' := [(3, .int x3_24), (0, .ref (zg Z 108)), (1, .ref (zg Z (2 + 7 * j))), (2, .int 1)]) hx hb dX5_single_24 rfl hl (by decide) rfl (fun ls hl => ?_)
    refine lv_iload_n hx hb dX5_single_25 rfl (lv_at hl 0 rfl) ?_
    refine lv_bipush (v := 33) hx hb dX5_single_26 (by decide) ?_
    refine lv_icmp_eq (tgt := 43) hx hb dX5_single_28 (by decide) (fun c_28 => ?_) (fun c_28 => ?_)
    · skip
      have h33 : isAt t z a 33 = true := isAt_t hle (by rw [← ht, ← ex3_24]; exact c_28)
      have h33z := isAt_lt h33
      have hat1 : v 108 2 + 1 = nI (a + 1) := by rw [ha]; exact nI_1 a
      have hF2 := rdF_G t z 2 (a + 1) h33z
      refine lv_iload_n hx hb dX5_single_43 rfl (lv_at hl 3 rfl) ?_
      refine lv_iconst (v := 4) hx hb dX5_single_44 (by decide) ?_
      refine lv_icmp_lt (tgt := 50) hx hb dX5_single_45 (by decide) (fun _ => ?_) (fun q => absurd q (by decide))
      refine lv_aload_n hx hb dX5_single_50 rfl (lv_at hl 1 rfl) ?_
      refine lv_dup hx hb dX5_single_51 rfl ?_
      refine g_geti X h (k := 2) (cc_108) fr_RX5_28 rfl (by decide) dX5_single_52 ?_
      refine lv_iconst (v := 1) hx hb dX5_single_55 (by decide) ?_
      refine lv_iadd hx hb dX5_single_56 ?_
      refine g_puti X h (k := 2) (cc_108) fp_RX5_28 rfl (by decide) dX5_single_57 (fun v57 H locs ev57 h => ?_)
      refine lv_iload_n hx hb dX5_single_60 rfl (lv_at hl 0 rfl) ?_
      refine lv_bipush (v := 40) hx hb dX5_single_61 (by decide) ?_
      refine lv_icmp_ne (tgt := 92) hx hb dX5_single_63 (by decide) (fun c_63 => ?_) (fun c_63 => ?_)
      · skip
        refine lv_aload_n hx hb dX5_single_92 rfl (lv_at hl 1 rfl) ?_
        refine lv_aload_n hx hb dX5_single_93 rfl (lv_at hl 2 rfl) ?_
        refine lv_iload_n hx hb dX5_single_94 rfl (lv_at hl 3 rfl) ?_
        refine lv_iconst (v := 1) hx hb dX5_single_95 (by decide) ?_
        refine lv_iadd hx hb dX5_single_96 ?_
        refine g_tr (y := 2) (by decide) ?_
        refine g_ki h (g_runV X h (As := [.ref (zg Z (2 + 7 * j)), .int 2]) (rest := []) (c_X5_single_2 gl Z v57 w t z (a + 1) (by rw [ev57, hat1]; exact PT_at hP h33z) j hj7 s (by rw [ev57, hat1, up2_ne (by omega)]; exact hs) (by omega)) mi_X5_single ml_RX5_89 (cc_108) (by decide) kl5 rfl ⟨Nat.le_of_ble_eq_true rfl, Nat.le_of_ble_eq_true rfl⟩ rfl hl.1 rfl (Nat.le_of_ble_eq_true rfl) dX5_single_97) (fun r97 v97 w97 H locs hp97 h => ?_)
        obtain ⟨hr97, hw97, hRT97⟩ := hp97
        obtain ⟨-, rfl⟩ := Prod.mk.inj hw97
        replace hRT97 : RT _ _ _ _ v97 _ := hRT97
        refine lv_if_ne (tgt := 105) hx hb dX5_single_100 (by decide) (fun c_100 => ?_) (fun c_100 => ?_)
        · skip
          rw [hr97, bI_n] at c_100
          refine lv_aload_n hx hb dX5_single_105 rfl (lv_at hl 2 rfl) ?_
          refine lv_bipush (v := (-3)) hx hb dX5_single_106 (by decide) ?_
          refine g_kv h (g_runV X h (As := [.int (-3)]) (rest := []) (c_X1_addStep gl Z v97 w (-3) (2 + 7 * j) hL (s + (rdF t z 2 (a + 1)).2.2.length) (hRT97.2.2 c_100).1 (by have := hF2.2.2 c_100; have := hF2.2.1; omega)) mi_X1_addStep ml_RX5_92 (cL_0 hL) (by decide) kl1 rfl ⟨Nat.le_of_ble_eq_true rfl, Nat.le_of_ble_eq_true rfl⟩ rfl hl.1 rfl (Nat.le_of_ble_eq_true rfl) dX5_single_108) (fun v108 w108 H locs hp108 h => ?_)
          obtain ⟨ev108, rfl⟩ := Prod.mk.inj hp108
          replace ev108 := ev108.symm
          refine lv_iconst (v := 1) hx hb dX5_single_111 (by decide) ?_
          exact g_nret X h dX5_single_112 rfl (RT_eq (u := v108) (rdF_y h33 c_100) rfl (RT_yes (FT_trans (FT_trans (by rw [ev57, hat1]; exact FT_at (by omega) (FT_refl _ _ _)) hRT97.1 (Nat.le_refl _)) (by rw [ev108]; exact FT_ad (by omega)) (Nat.le_add_right _ _)) (by rw [ev108, adS, up2_ne (by omega), up2_ne (by omega)]; exact hRT97.2.1) (TS_app (hRT97.2.2 c_100) (by rw [ev108]; exact FT_ad (by omega)) (by rw [ev108]; exact TS_ad (by decide) rfl))))
        · skip
          rw [hr97, bI_0] at c_100
          refine lv_iconst (v := 0) hx hb dX5_single_103 (by decide) ?_
          exact g_nret X h dX5_single_104 rfl (RT_eq (u := v97) (rdF_n h33 c_100) rfl (RT_no (FT_trans (by rw [ev57, hat1]; exact FT_at (by omega) (FT_refl _ _ _)) hRT97.1 (Nat.le_refl _)) hRT97.2.1))
      · exact absurd (c_28.symm.trans c_63) (by decide)
    · skip
      have h33 : isAt t z a 33 = false := isAt_f2 (by rw [← ht, ← ex3_24]; exact c_28)
      refine lv_iload_n hx hb dX5_single_31 rfl (lv_at hl 0 rfl) ?_
      refine lv_bipush (v := 40) hx hb dX5_single_32 (by decide) ?_
      refine lv_icmp_eq (tgt := 43) hx hb dX5_single_34 (by decide) (fun c_34 => ?_) (fun c_34 => ?_)
      · skip
        have h40 : isAt t z a 40 = true := isAt_t hle (by rw [← ht, ← ex3_24]; exact c_34)
        have h33z := isAt_lt h40
        have hat1 : v 108 2 + 1 = nI (a + 1) := by rw [ha]; exact nI_1 a
        have hE2 := rdE_G t z 2 (a + 1) h33z
        refine lv_iload_n hx hb dX5_single_43 rfl (lv_at hl 3 rfl) ?_
        refine lv_iconst (v := 4) hx hb dX5_single_44 (by decide) ?_
        refine lv_icmp_lt (tgt := 50) hx hb dX5_single_45 (by decide) (fun _ => ?_) (fun q => absurd q (by decide))
        refine lv_aload_n hx hb dX5_single_50 rfl (lv_at hl 1 rfl) ?_
        refine lv_dup hx hb dX5_single_51 rfl ?_
        refine g_geti X h (k := 2) (cc_108) fr_RX5_28 rfl (by decide) dX5_single_52 ?_
        refine lv_iconst (v := 1) hx hb dX5_single_55 (by decide) ?_
        refine lv_iadd hx hb dX5_single_56 ?_
        refine g_puti X h (k := 2) (cc_108) fp_RX5_28 rfl (by decide) dX5_single_57 (fun v57 H locs ev57 h => ?_)
        refine lv_iload_n hx hb dX5_single_60 rfl (lv_at hl 0 rfl) ?_
        refine lv_bipush (v := 40) hx hb dX5_single_61 (by decide) ?_
        refine lv_icmp_ne (tgt := 92) hx hb dX5_single_63 (by decide) (fun c_63 => ?_) (fun c_63 => ?_)
        · exact absurd c_34 c_63
        · skip
          refine lv_aload_n hx hb dX5_single_66 rfl (lv_at hl 1 rfl) ?_
          refine lv_aload_n hx hb dX5_single_67 rfl (lv_at hl 2 rfl) ?_
          refine lv_iload_n hx hb dX5_single_68 rfl (lv_at hl 3 rfl) ?_
          refine lv_iconst (v := 1) hx hb dX5_single_69 (by decide) ?_
          refine lv_iadd hx hb dX5_single_70 ?_
          refine g_tr (y := 2) (by decide) ?_
          refine g_ki h (g_runV X h (As := [.ref (zg Z (2 + 7 * j)), .int 2]) (rest := []) (c_X5_either_2 gl Z v57 w t z (a + 1) (by rw [ev57, hat1]; exact PT_at hP h33z) j hj7 s (by rw [ev57, hat1, up2_ne (by omega)]; exact hs) (by omega)) mi_X5_either ml_RX5_46 (cc_108) (by decide) kl5 rfl ⟨Nat.le_of_ble_eq_true rfl, Nat.le_of_ble_eq_true rfl⟩ rfl hl.1 rfl (Nat.le_of_ble_eq_true rfl) dX5_single_71) (fun r71 v71 w71 H locs hp71 h => ?_)
          obtain ⟨hr71, hw71, hRT71⟩ := hp71
          obtain ⟨-, rfl⟩ := Prod.mk.inj hw71
          replace hRT71 : RT _ _ _ _ v71 _ := hRT71
          refine lv_if_eq (tgt := 90) hx hb dX5_single_74 (by decide) (fun c_74 => ?_) (fun c_74 => ?_)
          · skip
            rw [hr71, bI_0] at c_74
            refine lv_iconst (v := 0) hx hb dX5_single_90 (by decide) ?_
            exact g_nret X h dX5_single_91 rfl (RT_eq (u := v71) (rdF_pn h33 h40 c_74) rfl (RT_no (FT_trans (by rw [ev57, hat1]; exact FT_at (by omega) (FT_refl _ _ _)) hRT71.1 (Nat.le_refl _)) hRT71.2.1))
          · skip
            rw [hr71, bI_n] at c_74
            refine lv_aload_n hx hb dX5_single_77 rfl (lv_at hl 1 rfl) ?_
            refine lv_bipush (v := 41) hx hb dX5_single_78 (by decide) ?_
            refine g_ki h (g_runV X h (As := [.int 41]) (rest := []) (c_X5_skip gl Z v71 w 41 t z ((rdE t z 2 (a + 1)).2.1) (PT_FT (by omega) (by rw [ev57, hat1]; exact PT_at hP h33z) hRT71.1 hRT71.2.1 hE2.2.1)) mi_X5_skip ml_RX5_35 (cc_108) (by decide) kl5 rfl ⟨Nat.le_of_ble_eq_true rfl, Nat.le_of_ble_eq_true rfl⟩ rfl hl.1 rfl (Nat.le_of_ble_eq_true rfl) dX5_single_80) (fun r80 v80 w80 H locs hp80 h => ?_)
            obtain ⟨hr80, hu80⟩ := hp80
            obtain ⟨ev80, rfl⟩ := Prod.mk.inj hu80
            replace ev80 := ev80.symm
            refine lv_if_eq (tgt := 90) hx hb dX5_single_83 (by decide) (fun c_83 => ?_) (fun c_83 => ?_)
            · skip
              rw [hr80, bI_0] at c_83
              refine lv_iconst (v := 0) hx hb dX5_single_90 (by decide) ?_
              exact g_nret X h dX5_single_91 rfl (by rw [c_83, if_neg (by decide)] at ev80; exact RT_eq (u := v80) (rdF_pm h33 h40 c_74 c_83) rfl (RT_no (by rw [ev80]; exact FT_trans (by rw [ev57, hat1]; exact FT_at (by omega) (FT_refl _ _ _)) hRT71.1 (Nat.le_refl _)) (by rw [ev80]; exact hRT71.2.1)))
            · skip
              rw [hr80, bI_n] at c_83
              refine lv_iconst (v := 1) hx hb dX5_single_86 (by decide) ?_
              refine lv_goto (tgt := 91) hx hb dX5_single_87 (by decide) ?_
              exact g_nret X h dX5_single_91 rfl (by rw [c_83, if_pos rfl] at ev80; exact RT_eq (u := v80) (rdF_py h33 h40 c_74 c_83) rfl (RT_yes (by rw [ev80]; exact FT_at (by omega) (FT_trans (by rw [ev57, hat1]; exact FT_at (by omega) (FT_refl _ _ _)) hRT71.1 (Nat.le_refl _))) (by rw [ev80, up2_same]) (by rw [ev80]; exact TS_at (by omega) (hRT71.2.2 c_74))))
      · skip
        have h40 : isAt t z a 40 = false := isAt_f2 (by rw [← ht, ← ex3_24]; exact c_34)
        refine lv_aload_n hx hb dX5_single_37 rfl (lv_at hl 1 rfl) ?_
        refine lv_aload_n hx hb dX5_single_38 rfl (lv_at hl 2 rfl) ?_
        refine g_ki h (g_runV X h (As := [.ref (zg Z (2 + 7 * j))]) (rest := []) (c_X5_test gl Z v w t z a hP j hj7 s hs hsz) mi_X5_test ml_RX5_95 (cc_108) (by decide) kl5 rfl ⟨Nat.le_of_ble_eq_true rfl, Nat.le_of_ble_eq_true rfl⟩ rfl hl.1 rfl (Nat.le_of_ble_eq_true rfl) dX5_single_39) (fun r39 v39 w39 H locs hp39 h => ?_)
        obtain ⟨hr39, hw39, hRT39⟩ := hp39
        obtain ⟨-, rfl⟩ := Prod.mk.inj hw39
        replace hRT39 : RT _ _ _ _ v39 _ := hRT39
        exact g_nret X h dX5_single_42 (by rw [hr39]; exact nar_bI _) (RT_eq (u := v39) (e := rdF t z 3 a) (rdF_t h33 h40) hr39 hRT39)

set_option maxRecDepth 100000 in
set_option maxHeartbeats 1000000 in
theorem c_X5_either_1 (gl : Launch) (Z : PL) (v : VV) (w : WV) (t : Nat → Int32) (z : Nat) (a : Nat) (hP : PT v t z a) (j : Nat) (hj7 : j < 7) (s : Nat) (hs : v (2 + 7 * j) 9 = nI s) (hsz : s + (z - a) ≤ 100) : CT gl yX5_either cX5_either 6 (some .boolean) 13 304 Z [.ref (zg Z 108), .ref (zg Z (2 + 7 * j)), .int 1] v w (Qi Z (fun r u => r = bI (rdE t z 3 a).1 ∧ (u.1, w) = u ∧ RT z (2 + 7 * j) s v u.1 (rdE t z 3 a))) := by
  refine g_met (by decide) (Nat.le_of_ble_eq_true rfl) ?_
  intro gp ge gs gm ga gb gh gc X h ls hl
  have hx := X.1
  have hb := X.2.1
  have hl : lv_has ls 6 [(0, .ref (zg Z 108)), (1, .ref (zg Z (2 + 7 * j))), (2, .int 1)] := hl
  obtain ⟨ht, hz, ha, hz1, haz, hch⟩ := id hP
  have hL : isL (2 + 7 * j) := isLj hj7
  refine lv_iconst (v := 0) hx hb dX5_either_0 (by decide) ?_
  refine lv_istore_n (lv' := [(3, .int 0), (0, .ref (zg Z 108)), (1, .ref (zg Z (2 + 7 * j))), (2, .int 1)]) hx hb dX5_either_1 rfl hl (by decide) rfl (fun ls hl => ?_)
  refine lv_iconst (v := 0) hx hb dX5_either_2 (by decide) ?_
  refine lv_istore (lv' := [(4, .int 0), (3, .int 0), (0, .ref (zg Z 108)), (1, .ref (zg Z (2 + 7 * j))), (2, .int 1)]) hx hb dX5_either_3 hl (by decide) rfl (fun ls hl => ?_)
  refine lv_iconst (v := 0) hx hb dX5_either_5 (by decide) ?_
  refine lv_istore (lv' := [(5, .int 0), (4, .int 0), (3, .int 0), (0, .ref (zg Z 108)), (1, .ref (zg Z (2 + 7 * j))), (2, .int 1)]) hx hb dX5_either_6 hl (by decide) rfl (fun ls hl => ?_)
  have L8 : ∀ (n8 : Nat) (x3 x4 x5 : Int32) (ia io : Bool) (q b : Nat) (lo li : List Nat) (va : VV), (x3 = bI ia) → (x4 = bI io) → (x5 = nI q) → (q ≤ 100) → (a + q ≤ b) → (b ≤ z) → (PT va t z b) → (FT v va (2 + 7 * j) s) → (TS va (2 + 7 * j) s (lo ++ li)) → ((lo ++ li).length + a + bN ia + bN io ≤ b) → (ia = false → li = []) → (io = false → lo = []) → (rdE t z 3 a = rsE t z 3 ia io b lo li) → 100 - q < n8 → ∀ (H : Heap) (locs : List Loc), HS Z gs va w H locs → ∀ ls : Array Slot, lv_has ls 6 [(0, .ref (zg Z 108)), (1, .ref (zg Z (2 + 7 * j))), (2, .int 1), (3, .int x3), (4, .int x4), (5, .int x5)] → W gp gl ge (rmm 13 304) gs gm ga gb gh gc H locs 0 0 (MQ gb (Qi Z (fun r u => r = bI (rdE t z 3 a).1 ∧ (u.1, w) = u ∧ RT z (2 + 7 * j) s v u.1 (rdE t z 3 a))) ga gs 0 0 (zA Z)) (F0 gm 8 ls []) := by
    intro n8
    induction n8 with
    | zero => intro x3 x4 x5 ia io q b lo li va hx3 hx4 hx5 hq hqb hbz hP3 hFT hTS hlen hli hlo hRE hmu; exact absurd hmu (Nat.not_lt_zero _)
    | succ n8 ih8 =>
      intro x3 x4 x5 ia io q b lo li va hx3 hx4 hx5 hq hqb hbz hP3 hFT hTS hlen hli hlo hRE hmu8 H locs h ls hl
      have hF2 := rdF_G t z 3 b hbz
      refine lv_iload hx hb dX5_either_8 (lv_at hl 5 rfl) ?_
      refine lv_bipush (v := 100) hx hb dX5_either_10 (by decide) ?_
      refine lv_icmp_ge (tgt := 78) hx hb dX5_either_12 (by decide) (fun c_12 => ?_) (fun c_12 => ?_)
      · skip
        have hqq := nI_le1 (a := 100) (b := q) rfl hx5 (by omega) (by omega) c_12
        refine lv_iconst (v := 0) hx hb dX5_either_78 (by decide) ?_
        exact g_nret X h dX5_either_79 rfl (RT_eq (u := va) (hRE.trans ((congrArg (fun y => rsE t z 3 ia io y lo li) (show b = z by omega)).trans (rsE_n (by rw [rdF_z])))) rfl (by rw [rdF_z]; exact RT_no hFT (by rw [show z = b by omega]; exact hP3.2.2.1)))
      · skip
        have hqq := nI_le0 (a := 100) (b := q) rfl hx5 (by omega) (by omega) c_12
        refine lv_aload_n hx hb dX5_either_15 rfl (lv_at hl 0 rfl) ?_
        refine lv_aload_n hx hb dX5_either_16 rfl (lv_at hl 1 rfl) ?_
        refine lv_iload_n hx hb dX5_either_17 rfl (lv_at hl 2 rfl) ?_
        refine g_ki h (g_runV X h (As := [.ref (zg Z (2 + 7 * j)), .int 1]) (rest := []) (c_X5_single_1 gl Z va w t z b hP3 j hj7 (s + (lo ++ li).length) hTS.1 (by omega)) mi_X5_single ml_RX5_89 (cc_108) (by decide) kl5 rfl ⟨Nat.le_of_ble_eq_true rfl, Nat.le_of_ble_eq_true rfl⟩ rfl hl.1 rfl (Nat.le_of_ble_eq_true rfl) dX5_either_18) (fun r18 v18 w18 H locs hp18 h => ?_)
        obtain ⟨hr18, hw18, hRT18⟩ := hp18
        obtain ⟨-, rfl⟩ := Prod.mk.inj hw18
        replace hRT18 : RT _ _ _ _ v18 _ := hRT18
        refine lv_if_ne (tgt := 26) hx hb dX5_either_21 (by decide) (fun c_21 => ?_) (fun c_21 => ?_)
        · skip
          rw [hr18, bI_n] at c_21
          refine lv_iload_n hx hb dX5_either_26 rfl (lv_at hl 3 rfl) ?_
          refine lv_if_eq (tgt := 35) hx hb dX5_either_27 (by decide) (fun c_27 => ?_) (fun c_27 => ?_)
          · skip
            rw [hx3, bI_0] at c_27
            have hTS2 : TS v18 (2 + 7 * j) s (lo ++ (liN t z 3 ia b li)) := by
              rw [liN, if_neg (by rw [c_27]; decide)]
              have z2 := TS_app hTS hRT18.1 (hRT18.2.2 c_21)
              rw [hli c_27, List.append_nil] at z2
              exact z2
            have hFT2 : FT v v18 (2 + 7 * j) s := (FT_trans (u := va) hFT hRT18.1 (Nat.le_add_right _ _))
            have hat2 : v18 108 2 = nI (rdF t z 3 b).2.1 := hRT18.2.1
            have hlen2 : (lo ++ (liN t z 3 ia b li)).length + a + bN io ≤ (rdF t z 3 b).2.1 := by
              rw [liN, if_neg (by rw [c_27]; decide), List.length_append]
              rw [hli c_27, List.append_nil, c_27] at hlen
              have z3 := (hF2.2.2 c_21).2
              have z4 : bN false = 0 := rfl
              omega
            refine lv_aload_n hx hb dX5_either_35 rfl (lv_at hl 0 rfl) ?_
            refine lv_bipush (v := 38) hx hb dX5_either_36 (by decide) ?_
            refine g_ki h (g_runV X h (As := [.int 38]) (rest := []) (c_X5_skip gl Z v18 w 38 t z ((rdF t z 3 b).2.1) (PT_FT (by omega) hP hFT2 hat2 hF2.2.1)) mi_X5_skip ml_RX5_35 (cc_108) (by decide) kl5 rfl ⟨Nat.le_of_ble_eq_true rfl, Nat.le_of_ble_eq_true rfl⟩ rfl hl.1 rfl (Nat.le_of_ble_eq_true rfl) dX5_either_38) (fun r38 v38 w38 H locs hp38 h => ?_)
            obtain ⟨hr38, hu38⟩ := hp38
            obtain ⟨ev38, rfl⟩ := Prod.mk.inj hu38
            replace ev38 := ev38.symm
            refine lv_istore_n (lv' := [(3, .int r38), (0, .ref (zg Z 108)), (1, .ref (zg Z (2 + 7 * j))), (2, .int 1), (4, .int x4), (5, .int x5)]) hx hb dX5_either_41 rfl hl (by decide) rfl (fun ls hl => ?_)
            refine lv_iload_n hx hb dX5_either_42 rfl (lv_at hl 0 rfl) ?_
            refine lv_if_ne (tgt := 72) hx hb dX5_either_43 (by decide) (fun c_43 => ?_) (fun c_43 => ?_)
            · skip
              rw [hr38, bI_n] at c_43
              rw [if_pos c_43] at ev38
              refine lv_iinc (v := (x5 + 1)) (lv' := [(5, .int (x5 + 1)), (3, .int r38), (0, .ref (zg Z 108)), (1, .ref (zg Z (2 + 7 * j))), (2, .int 1), (4, .int x4)]) hx hb dX5_either_72 hl (k := 5) rfl rfl (by decide) rfl (fun ls hl => ?_)
              refine lv_goto (tgt := 8) hx hb dX5_either_75 (by decide) ?_
              exact ih8 r38 x4 (x5 + 1) true io (q + 1) ((rdF t z 3 b).2.1 + 1) lo (liN t z 3 ia b li) v38 (by rw [hr38, c_43]) hx4 (by rw [hx5]; exact nI_1 _) (by omega) (by omega) (by have := isAt_lt c_43; omega) (by rw [ev38]; exact PT_at (PT_FT (by omega) hP hFT2 hat2 hF2.2.1) (isAt_lt c_43)) (by rw [ev38]; exact FT_at (by omega) hFT2) (by rw [ev38]; exact TS_at (by omega) hTS2) (by have z4 : bN true = 1 := rfl; omega) (fun q => by cases q) hlo (hRE.trans (rsE_and c_21 c_43)) (by omega) _ _ h ls (lv_sub hl [2, 3, 4, 1, 5, 0] rfl)
            · skip
              rw [hr38, bI_0] at c_43
              rw [if_neg (by rw [c_43]; decide)] at ev38
              refine lv_iload hx hb dX5_either_46 (lv_at hl 4 rfl) ?_
              refine lv_if_eq (tgt := 57) hx hb dX5_either_48 (by decide) (fun c_48 => ?_) (fun c_48 => ?_)
              · skip
                rw [hx4, bI_0] at c_48
                have ei : (if io then lo ++ (liN t z 3 ia b li) ++ [1] else (liN t z 3 ia b li)) = lo ++ (liN t z 3 ia b li) := by rw [c_48, if_neg (by decide), hlo c_48, List.nil_append]
                have hTS3 : TS v38 (2 + 7 * j) s (if io then lo ++ (liN t z 3 ia b li) ++ [1] else (liN t z 3 ia b li)) := by rw [ei, ev38]; exact hTS2
                have hFT3 : FT v v38 (2 + 7 * j) s := by rw [ev38]; exact hFT2
                have hat3 : v38 108 2 = nI (rdF t z 3 b).2.1 := by rw [ev38]; exact hat2
                have hlen3 : (if io then lo ++ (liN t z 3 ia b li) ++ [1] else (liN t z 3 ia b li)).length + a ≤ (rdF t z 3 b).2.1 := by rw [ei]; omega
                refine lv_aload_n hx hb dX5_either_57 rfl (lv_at hl 1 rfl) ?_
                refine lv_bipush (v := 124) hx hb dX5_either_58 (by decide) ?_
                refine g_ki h (g_runV X h (As := [.int 124]) (rest := []) (c_X5_skip gl Z v38 w 124 t z ((rdF t z 3 b).2.1) (PT_FT (by omega) hP hFT3 hat3 hF2.2.1)) mi_X5_skip ml_RX5_35 (cc_108) (by decide) kl5 rfl ⟨Nat.le_of_ble_eq_true rfl, Nat.le_of_ble_eq_true rfl⟩ rfl hl.1 rfl (Nat.le_of_ble_eq_true rfl) dX5_either_60) (fun r60 v60 w60 H locs hp60 h => ?_)
                obtain ⟨hr60, hu60⟩ := hp60
                obtain ⟨ev60, rfl⟩ := Prod.mk.inj hu60
                replace ev60 := ev60.symm
                refine lv_istore (lv' := [(4, .int r60), (3, .int r38), (0, .ref (zg Z 108)), (1, .ref (zg Z (2 + 7 * j))), (2, .int 1), (5, .int x5)]) hx hb dX5_either_63 hl (by decide) rfl (fun ls hl => ?_)
                refine lv_iload hx hb dX5_either_65 (lv_at hl 0 rfl) ?_
                refine lv_if_ne (tgt := 72) hx hb dX5_either_67 (by decide) (fun c_67 => ?_) (fun c_67 => ?_)
                · skip
                  rw [hr60, bI_n] at c_67
                  rw [if_pos c_67] at ev60
                  refine lv_iinc (v := (x5 + 1)) (lv' := [(5, .int (x5 + 1)), (4, .int r60), (3, .int r38), (0, .ref (zg Z 108)), (1, .ref (zg Z (2 + 7 * j))), (2, .int 1)]) hx hb dX5_either_72 hl (k := 5) rfl rfl (by decide) rfl (fun ls hl => ?_)
                  refine lv_goto (tgt := 8) hx hb dX5_either_75 (by decide) ?_
                  exact ih8 r38 r60 (x5 + 1) false true (q + 1) ((rdF t z 3 b).2.1 + 1) (if io then lo ++ (liN t z 3 ia b li) ++ [1] else (liN t z 3 ia b li)) [] v60 (by rw [hr38, c_43]) (by rw [hr60, c_67]) (by rw [hx5]; exact nI_1 _) (by omega) (by omega) (by have := isAt_lt c_67; omega) (by rw [ev60]; exact PT_at (PT_FT (by omega) hP hFT3 hat3 hF2.2.1) (isAt_lt c_67)) (by rw [ev60]; exact FT_at (by omega) hFT3) (by rw [List.append_nil, ev60]; exact TS_at (by omega) hTS3) (by rw [List.append_nil]; have z4 : bN true = 1 := rfl; have z5 : bN false = 0 := rfl; omega) (fun _ => rfl) (fun q => by cases q) (hRE.trans (rsE_or c_21 c_43 c_67)) (by omega) _ _ h ls (lv_sub hl [3, 4, 5, 2, 1, 0] rfl)
                · skip
                  rw [hr60, bI_0] at c_67
                  rw [if_neg (by rw [c_67]; decide)] at ev60
                  refine lv_iconst (v := 1) hx hb dX5_either_70 (by decide) ?_
                  exact g_nret X h dX5_either_71 rfl (RT_eq (u := v60) (hRE.trans (rsE_end c_21 c_43 c_67)) rfl (RT_yes (by rw [ev60]; exact hFT3) (by rw [ev60]; exact hat3) (by rw [ev60]; exact hTS3)))
              · skip
                rw [hx4, bI_n] at c_48
                refine lv_aload_n hx hb dX5_either_51 rfl (lv_at hl 2 rfl) ?_
                refine lv_bipush (v := (-2)) hx hb dX5_either_52 (by decide) ?_
                refine g_kv h (g_runV X h (As := [.int (-2)]) (rest := []) (c_X1_addStep gl Z v38 w (-2) (2 + 7 * j) hL (s + (lo ++ (liN t z 3 ia b li)).length) (by rw [ev38]; exact hTS2.1) (by rw [c_48] at hlen2; have z4 : bN true = 1 := rfl; have := hF2.2.1; omega)) mi_X1_addStep ml_RX5_92 (cL_0 hL) (by decide) kl1 rfl ⟨Nat.le_of_ble_eq_true rfl, Nat.le_of_ble_eq_true rfl⟩ rfl hl.1 rfl (Nat.le_of_ble_eq_true rfl) dX5_either_54) (fun v54 w54 H locs hp54 h => ?_)
                obtain ⟨ev54, rfl⟩ := Prod.mk.inj hp54
                replace ev54 := ev54.symm
                have ei : (if io then lo ++ (liN t z 3 ia b li) ++ [1] else (liN t z 3 ia b li)) = lo ++ (liN t z 3 ia b li) ++ [1] := by rw [c_48, if_pos rfl]
                have hTS3 : TS v54 (2 + 7 * j) s (if io then lo ++ (liN t z 3 ia b li) ++ [1] else (liN t z 3 ia b li)) := by
                  rw [ei]
                  exact TS_app hTS2 (by rw [ev54, ev38]; exact FT_ad (by omega)) (by rw [ev54, ev38]; exact TS_ad (t := 1) (by decide) rfl)
                have hFT3 : FT v v54 (2 + 7 * j) s := FT_trans hFT2 (by rw [ev54, ev38]; exact FT_ad (by omega)) (Nat.le_add_right _ (lo ++ (liN t z 3 ia b li)).length)
                have hat3 : v54 108 2 = nI (rdF t z 3 b).2.1 := by rw [ev54, ev38, adS, up2_ne (by omega), up2_ne (by omega)]; exact hat2
                have hlen3 : (if io then lo ++ (liN t z 3 ia b li) ++ [1] else (liN t z 3 ia b li)).length + a ≤ (rdF t z 3 b).2.1 := by
                  rw [ei, List.length_append, List.length_singleton]
                  rw [c_48] at hlen2
                  have z4 : bN true = 1 := rfl
                  omega
                refine lv_aload_n hx hb dX5_either_57 rfl (lv_at hl 1 rfl) ?_
                refine lv_bipush (v := 124) hx hb dX5_either_58 (by decide) ?_
                refine g_ki h (g_runV X h (As := [.int 124]) (rest := []) (c_X5_skip gl Z v54 w 124 t z ((rdF t z 3 b).2.1) (PT_FT (by omega) hP hFT3 hat3 hF2.2.1)) mi_X5_skip ml_RX5_35 (cc_108) (by decide) kl5 rfl ⟨Nat.le_of_ble_eq_true rfl, Nat.le_of_ble_eq_true rfl⟩ rfl hl.1 rfl (Nat.le_of_ble_eq_true rfl) dX5_either_60) (fun r60 v60 w60 H locs hp60 h => ?_)
                obtain ⟨hr60, hu60⟩ := hp60
                obtain ⟨ev60, rfl⟩ := Prod.mk.inj hu60
                replace ev60 := ev60.symm
                refine lv_istore (lv' := [(4, .int r60), (3, .int r38), (0, .ref (zg Z 108)), (1, .ref (zg Z (2 + 7 * j))), (2, .int 1), (5, .int x5)]) hx hb dX5_either_63 hl (by decide) rfl (fun ls hl => ?_)
                refine lv_iload hx hb dX5_either_65 (lv_at hl 0 rfl) ?_
                refine lv_if_ne (tgt := 72) hx hb dX5_either_67 (by decide) (fun c_67 => ?_) (fun c_67 => ?_)
                · skip
                  rw [hr60, bI_n] at c_67
                  rw [if_pos c_67] at ev60
                  refine lv_iinc (v := (x5 + 1)) (lv' := [(5, .int (x5 + 1)), (4, .int r60), (3, .int r38), (0, .ref (zg Z 108)), (1, .ref (zg Z (2 + 7 * j))), (2, .int 1)]) hx hb dX5_either_72 hl (k := 5) rfl rfl (by decide) rfl (fun ls hl => ?_)
                  refine lv_goto (tgt := 8) hx hb dX5_either_75 (by decide) ?_
                  exact ih8 r38 r60 (x5 + 1) false true (q + 1) ((rdF t z 3 b).2.1 + 1) (if io then lo ++ (liN t z 3 ia b li) ++ [1] else (liN t z 3 ia b li)) [] v60 (by rw [hr38, c_43]) (by rw [hr60, c_67]) (by rw [hx5]; exact nI_1 _) (by omega) (by omega) (by have := isAt_lt c_67; omega) (by rw [ev60]; exact PT_at (PT_FT (by omega) hP hFT3 hat3 hF2.2.1) (isAt_lt c_67)) (by rw [ev60]; exact FT_at (by omega) hFT3) (by rw [List.append_nil, ev60]; exact TS_at (by omega) hTS3) (by rw [List.append_nil]; have z4 : bN true = 1 := rfl; have z5 : bN false = 0 := rfl; omega) (fun _ => rfl) (fun q => by cases q) (hRE.trans (rsE_or c_21 c_43 c_67)) (by omega) _ _ h ls (lv_sub hl [3, 4, 5, 2, 1, 0] rfl)
                · skip
                  rw [hr60, bI_0] at c_67
                  rw [if_neg (by rw [c_67]; decide)] at ev60
                  refine lv_iconst (v := 1) hx hb dX5_either_70 (by decide) ?_
                  exact g_nret X h dX5_either_71 rfl (RT_eq (u := v60) (hRE.trans (rsE_end c_21 c_43 c_67)) rfl (RT_yes (by rw [ev60]; exact hFT3) (by rw [ev60]; exact hat3) (by rw [ev60]; exact hTS3)))
          · skip
            rw [hx3, bI_n] at c_27
            have hTSa := TS_app hTS hRT18.1 (hRT18.2.2 c_21)
            have hlena : ((lo ++ li) ++ (rdF t z 3 b).2.2).length + a + 1 ≤ (rdF t z 3 b).2.1 := by
              simp only [List.length_append] at hlen ⊢
              have z3 := (hF2.2.2 c_21).2
              rw [c_27] at hlen
              have z4 : bN true = 1 := rfl
              omega
            refine lv_aload_n hx hb dX5_either_30 rfl (lv_at hl 1 rfl) ?_
            refine lv_iconst (v := (-1)) hx hb dX5_either_31 (by decide) ?_
            refine g_kv h (g_runV X h (As := [.int (-1)]) (rest := []) (c_X1_addStep gl Z v18 w (-1) (2 + 7 * j) hL (s + ((lo ++ li) ++ (rdF t z 3 b).2.2).length) hTSa.1 (by have := hF2.2.1; omega)) mi_X1_addStep ml_RX5_92 (cL_0 hL) (by decide) kl1 rfl ⟨Nat.le_of_ble_eq_true rfl, Nat.le_of_ble_eq_true rfl⟩ rfl hl.1 rfl (Nat.le_of_ble_eq_true rfl) dX5_either_32) (fun v32 w32 H locs hp32 h => ?_)
            obtain ⟨ev32, rfl⟩ := Prod.mk.inj hp32
            replace ev32 := ev32.symm
            have hTS2 : TS v32 (2 + 7 * j) s (lo ++ (liN t z 3 ia b li)) := by
              rw [liN, if_pos c_27]
              have z2 := TS_app (x := v32) (l2 := [0]) hTSa (by rw [ev32]; exact FT_ad (by omega)) (by rw [ev32]; exact TS_ad (t := 0) (by decide) rfl)
              simpa [List.append_assoc] using z2
            have hFT2 : FT v v32 (2 + 7 * j) s := FT_trans (FT_trans (u := va) hFT hRT18.1 (Nat.le_add_right _ _)) (by rw [ev32]; exact FT_ad (by omega)) (Nat.le_add_right _ ((lo ++ li) ++ (rdF t z 3 b).2.2).length)
            have hat2 : v32 108 2 = nI (rdF t z 3 b).2.1 := by rw [ev32, adS, up2_ne (by omega), up2_ne (by omega)]; exact hRT18.2.1
            have hlen2 : (lo ++ (liN t z 3 ia b li)).length + a + bN io ≤ (rdF t z 3 b).2.1 := by
              rw [liN, if_pos c_27]
              simp only [List.length_append, List.length_singleton] at hlen ⊢
              have z3 := (hF2.2.2 c_21).2
              rw [c_27] at hlen
              have z4 : bN true = 1 := rfl
              omega
            refine lv_aload_n hx hb dX5_either_35 rfl (lv_at hl 0 rfl) ?_
            refine lv_bipush (v := 38) hx hb dX5_either_36 (by decide) ?_
            refine g_ki h (g_runV X h (As := [.int 38]) (rest := []) (c_X5_skip gl Z v32 w 38 t z ((rdF t z 3 b).2.1) (PT_FT (by omega) hP hFT2 hat2 hF2.2.1)) mi_X5_skip ml_RX5_35 (cc_108) (by decide) kl5 rfl ⟨Nat.le_of_ble_eq_true rfl, Nat.le_of_ble_eq_true rfl⟩ rfl hl.1 rfl (Nat.le_of_ble_eq_true rfl) dX5_either_38) (fun r38 v38 w38 H locs hp38 h => ?_)
            obtain ⟨hr38, hu38⟩ := hp38
            obtain ⟨ev38, rfl⟩ := Prod.mk.inj hu38
            replace ev38 := ev38.symm
            refine lv_istore_n (lv' := [(3, .int r38), (0, .ref (zg Z 108)), (1, .ref (zg Z (2 + 7 * j))), (2, .int 1), (4, .int x4), (5, .int x5)]) hx hb dX5_either_41 rfl hl (by decide) rfl (fun ls hl => ?_)
            refine lv_iload_n hx hb dX5_either_42 rfl (lv_at hl 0 rfl) ?_
            refine lv_if_ne (tgt := 72) hx hb dX5_either_43 (by decide) (fun c_43 => ?_) (fun c_43 => ?_)
            · skip
              rw [hr38, bI_n] at c_43
              rw [if_pos c_43] at ev38
              refine lv_iinc (v := (x5 + 1)) (lv' := [(5, .int (x5 + 1)), (3, .int r38), (0, .ref (zg Z 108)), (1, .ref (zg Z (2 + 7 * j))), (2, .int 1), (4, .int x4)]) hx hb dX5_either_72 hl (k := 5) rfl rfl (by decide) rfl (fun ls hl => ?_)
              refine lv_goto (tgt := 8) hx hb dX5_either_75 (by decide) ?_
              exact ih8 r38 x4 (x5 + 1) true io (q + 1) ((rdF t z 3 b).2.1 + 1) lo (liN t z 3 ia b li) v38 (by rw [hr38, c_43]) hx4 (by rw [hx5]; exact nI_1 _) (by omega) (by omega) (by have := isAt_lt c_43; omega) (by rw [ev38]; exact PT_at (PT_FT (by omega) hP hFT2 hat2 hF2.2.1) (isAt_lt c_43)) (by rw [ev38]; exact FT_at (by omega) hFT2) (by rw [ev38]; exact TS_at (by omega) hTS2) (by have z4 : bN true = 1 := rfl; omega) (fun q => by cases q) hlo (hRE.trans (rsE_and c_21 c_43)) (by omega) _ _ h ls (lv_sub hl [2, 3, 4, 1, 5, 0] rfl)
            · skip
              rw [hr38, bI_0] at c_43
              rw [if_neg (by rw [c_43]; decide)] at ev38
              refine lv_iload hx hb dX5_either_46 (lv_at hl 4 rfl) ?_
              refine lv_if_eq (tgt := 57) hx hb dX5_either_48 (by decide) (fun c_48 => ?_) (fun c_48 => ?_)
              · skip
                rw [hx4, bI_0] at c_48
                have ei : (if io then lo ++ (liN t z 3 ia b li) ++ [1] else (liN t z 3 ia b li)) = lo ++ (liN t z 3 ia b li) := by rw [c_48, if_neg (by decide), hlo c_48, List.nil_append]
                have hTS3 : TS v38 (2 + 7 * j) s (if io then lo ++ (liN t z 3 ia b li) ++ [1] else (liN t z 3 ia b li)) := by rw [ei, ev38]; exact hTS2
                have hFT3 : FT v v38 (2 + 7 * j) s := by rw [ev38]; exact hFT2
                have hat3 : v38 108 2 = nI (rdF t z 3 b).2.1 := by rw [ev38]; exact hat2
                have hlen3 : (if io then lo ++ (liN t z 3 ia b li) ++ [1] else (liN t z 3 ia b li)).length + a ≤ (rdF t z 3 b).2.1 := by rw [ei]; omega
                refine lv_aload_n hx hb dX5_either_57 rfl (lv_at hl 1 rfl) ?_
                refine lv_bipush (v := 124) hx hb dX5_either_58 (by decide) ?_
                refine g_ki h (g_runV X h (As := [.int 124]) (rest := []) (c_X5_skip gl Z v38 w 124 t z ((rdF t z 3 b).2.1) (PT_FT (by omega) hP hFT3 hat3 hF2.2.1)) mi_X5_skip ml_RX5_35 (cc_108) (by decide) kl5 rfl ⟨Nat.le_of_ble_eq_true rfl, Nat.le_of_ble_eq_true rfl⟩ rfl hl.1 rfl (Nat.le_of_ble_eq_true rfl) dX5_either_60) (fun r60 v60 w60 H locs hp60 h => ?_)
                obtain ⟨hr60, hu60⟩ := hp60
                obtain ⟨ev60, rfl⟩ := Prod.mk.inj hu60
                replace ev60 := ev60.symm
                refine lv_istore (lv' := [(4, .int r60), (3, .int r38), (0, .ref (zg Z 108)), (1, .ref (zg Z (2 + 7 * j))), (2, .int 1), (5, .int x5)]) hx hb dX5_either_63 hl (by decide) rfl (fun ls hl => ?_)
                refine lv_iload hx hb dX5_either_65 (lv_at hl 0 rfl) ?_
                refine lv_if_ne (tgt := 72) hx hb dX5_either_67 (by decide) (fun c_67 => ?_) (fun c_67 => ?_)
                · skip
                  rw [hr60, bI_n] at c_67
                  rw [if_pos c_67] at ev60
                  refine lv_iinc (v := (x5 + 1)) (lv' := [(5, .int (x5 + 1)), (4, .int r60), (3, .int r38), (0, .ref (zg Z 108)), (1, .ref (zg Z (2 + 7 * j))), (2, .int 1)]) hx hb dX5_either_72 hl (k := 5) rfl rfl (by decide) rfl (fun ls hl => ?_)
                  refine lv_goto (tgt := 8) hx hb dX5_either_75 (by decide) ?_
                  exact ih8 r38 r60 (x5 + 1) false true (q + 1) ((rdF t z 3 b).2.1 + 1) (if io then lo ++ (liN t z 3 ia b li) ++ [1] else (liN t z 3 ia b li)) [] v60 (by rw [hr38, c_43]) (by rw [hr60, c_67]) (by rw [hx5]; exact nI_1 _) (by omega) (by omega) (by have := isAt_lt c_67; omega) (by rw [ev60]; exact PT_at (PT_FT (by omega) hP hFT3 hat3 hF2.2.1) (isAt_lt c_67)) (by rw [ev60]; exact FT_at (by omega) hFT3) (by rw [List.append_nil, ev60]; exact TS_at (by omega) hTS3) (by rw [List.append_nil]; have z4 : bN true = 1 := rfl; have z5 : bN false = 0 := rfl; omega) (fun _ => rfl) (fun q => by cases q) (hRE.trans (rsE_or c_21 c_43 c_67)) (by omega) _ _ h ls (lv_sub hl [3, 4, 5, 2, 1, 0] rfl)
                · skip
                  rw [hr60, bI_0] at c_67
                  rw [if_neg (by rw [c_67]; decide)] at ev60
                  refine lv_iconst (v := 1) hx hb dX5_either_70 (by decide) ?_
                  exact g_nret X h dX5_either_71 rfl (RT_eq (u := v60) (hRE.trans (rsE_end c_21 c_43 c_67)) rfl (RT_yes (by rw [ev60]; exact hFT3) (by rw [ev60]; exact hat3) (by rw [ev60]; exact hTS3)))
              · skip
                rw [hx4, bI_n] at c_48
                refine lv_aload_n hx hb dX5_either_51 rfl (lv_at hl 2 rfl) ?_
                refine lv_bipush (v := (-2)) hx hb dX5_either_52 (by decide) ?_
                refine g_kv h (g_runV X h (As := [.int (-2)]) (rest := []) (c_X1_addStep gl Z v38 w (-2) (2 + 7 * j) hL (s + (lo ++ (liN t z 3 ia b li)).length) (by rw [ev38]; exact hTS2.1) (by rw [c_48] at hlen2; have z4 : bN true = 1 := rfl; have := hF2.2.1; omega)) mi_X1_addStep ml_RX5_92 (cL_0 hL) (by decide) kl1 rfl ⟨Nat.le_of_ble_eq_true rfl, Nat.le_of_ble_eq_true rfl⟩ rfl hl.1 rfl (Nat.le_of_ble_eq_true rfl) dX5_either_54) (fun v54 w54 H locs hp54 h => ?_)
                obtain ⟨ev54, rfl⟩ := Prod.mk.inj hp54
                replace ev54 := ev54.symm
                have ei : (if io then lo ++ (liN t z 3 ia b li) ++ [1] else (liN t z 3 ia b li)) = lo ++ (liN t z 3 ia b li) ++ [1] := by rw [c_48, if_pos rfl]
                have hTS3 : TS v54 (2 + 7 * j) s (if io then lo ++ (liN t z 3 ia b li) ++ [1] else (liN t z 3 ia b li)) := by
                  rw [ei]
                  exact TS_app hTS2 (by rw [ev54, ev38]; exact FT_ad (by omega)) (by rw [ev54, ev38]; exact TS_ad (t := 1) (by decide) rfl)
                have hFT3 : FT v v54 (2 + 7 * j) s := FT_trans hFT2 (by rw [ev54, ev38]; exact FT_ad (by omega)) (Nat.le_add_right _ (lo ++ (liN t z 3 ia b li)).length)
                have hat3 : v54 108 2 = nI (rdF t z 3 b).2.1 := by rw [ev54, ev38, adS, up2_ne (by omega), up2_ne (by omega)]; exact hat2
                have hlen3 : (if io then lo ++ (liN t z 3 ia b li) ++ [1] else (liN t z 3 ia b li)).length + a ≤ (rdF t z 3 b).2.1 := by
                  rw [ei, List.length_append, List.length_singleton]
                  rw [c_48] at hlen2
                  have z4 : bN true = 1 := rfl
                  omega
                refine lv_aload_n hx hb dX5_either_57 rfl (lv_at hl 1 rfl) ?_
                refine lv_bipush (v := 124) hx hb dX5_either_58 (by decide) ?_
                refine g_ki h (g_runV X h (As := [.int 124]) (rest := []) (c_X5_skip gl Z v54 w 124 t z ((rdF t z 3 b).2.1) (PT_FT (by omega) hP hFT3 hat3 hF2.2.1)) mi_X5_skip ml_RX5_35 (cc_108) (by decide) kl5 rfl ⟨Nat.le_of_ble_eq_true rfl, Nat.le_of_ble_eq_true rfl⟩ rfl hl.1 rfl (Nat.le_of_ble_eq_true rfl) dX5_either_60) (fun r60 v60 w60 H locs hp60 h => ?_)
                obtain ⟨hr60, hu60⟩ := hp60
                obtain ⟨ev60, rfl⟩ := Prod.mk.inj hu60
                replace ev60 := ev60.symm
                refine lv_istore (lv' := [(4, .int r60), (3, .int r38), (0, .ref (zg Z 108)), (1, .ref (zg Z (2 + 7 * j))), (2, .int 1), (5, .int x5)]) hx hb dX5_either_63 hl (by decide) rfl (fun ls hl => ?_)
                refine lv_iload hx hb dX5_either_65 (lv_at hl 0 rfl) ?_
                refine lv_if_ne (tgt := 72) hx hb dX5_either_67 (by decide) (fun c_67 => ?_) (fun c_67 => ?_)
                · skip
                  rw [hr60, bI_n] at c_67
                  rw [if_pos c_67] at ev60
                  refine lv_iinc (v := (x5 + 1)) (lv' := [(5, .int (x5 + 1)), (4, .int r60), (3, .int r38), (0, .ref (zg Z 108)), (1, .ref (zg Z (2 + 7 * j))), (2, .int 1)]) hx hb dX5_either_72 hl (k := 5) rfl rfl (by decide) rfl (fun ls hl => ?_)
                  refine lv_goto (tgt := 8) hx hb dX5_either_75 (by decide) ?_
                  exact ih8 r38 r60 (x5 + 1) false true (q + 1) ((rdF t z 3 b).2.1 + 1) (if io then lo ++ (liN t z 3 ia b li) ++ [1] else (liN t z 3 ia b li)) [] v60 (by rw [hr38, c_43]) (by rw [hr60, c_67]) (by rw [hx5]; exact nI_1 _) (by omega) (by omega) (by have := isAt_lt c_67; omega) (by rw [ev60]; exact PT_at (PT_FT (by omega) hP hFT3 hat3 hF2.2.1) (isAt_lt c_67)) (by rw [ev60]; exact FT_at (by omega) hFT3) (by rw [List.append_nil, ev60]; exact TS_at (by omega) hTS3) (by rw [List.append_nil]; have z4 : bN true = 1 := rfl; have z5 : bN false = 0 := rfl; omega) (fun _ => rfl) (fun q => by cases q) (hRE.trans (rsE_or c_21 c_43 c_67)) (by omega) _ _ h ls (lv_sub hl [3, 4, 5, 2, 1, 0] rfl)
                · skip
                  rw [hr60, bI_0] at c_67
                  rw [if_neg (by rw [c_67]; decide)] at ev60
                  refine lv_iconst (v := 1) hx hb dX5_either_70 (by decide) ?_
                  exact g_nret X h dX5_either_71 rfl (RT_eq (u := v60) (hRE.trans (rsE_end c_21 c_43 c_67)) rfl (RT_yes (by rw [ev60]; exact hFT3) (by rw [ev60]; exact hat3) (by rw [ev60]; exact hTS3)))
        · skip
          rw [hr18, bI_0] at c_21
          refine lv_iconst (v := 0) hx hb dX5_either_24 (by decide) ?_
          exact g_nret X h dX5_either_25 rfl (RT_eq (u := v18) (hRE.trans (rsE_n c_21)) rfl (RT_no (FT_trans (u := va) hFT hRT18.1 (Nat.le_add_right _ _)) hRT18.2.1))
  exact L8 (100 - 0 + 1) 0 0 0 false false 0 a [] [] v rfl rfl rfl (by omega) (by omega) haz hP (FT_refl _ _ _) (TS_nil hs) (by show 0 + a + 0 + 0 ≤ a; omega) (fun _ => rfl) (fun _ => rfl) rsE_0 (Nat.lt_succ_self _) _ _ h ls (lv_sub hl [3, 4, 5, 2, 1, 0] rfl)

set_option maxRecDepth 100000 in
set_option maxHeartbeats 1000000 in
theorem c_X5_single_0 (gl : Launch) (Z : PL) (v : VV) (w : WV) (t : Nat → Int32) (z : Nat) (a : Nat) (hP : PT v t z a) (j : Nat) (hj7 : j < 7) (s : Nat) (hs : v (2 + 7 * j) 9 = nI s) (hsz : s + (z - a) ≤ 100) : CT gl yX5_single cX5_single 4 (some .boolean) 14 329 Z [.ref (zg Z 108), .ref (zg Z (2 + 7 * j)), .int 0] v w (Qi Z (fun r u => r = bI (rdF t z 4 a).1 ∧ (u.1, w) = u ∧ RT z (2 + 7 * j) s v u.1 (rdF t z 4 a))) := by
  refine g_met (by decide) (Nat.le_of_ble_eq_true rfl) ?_
  intro gp ge gs gm ga gb gh gc X h ls hl
  have hx := X.1
  have hb := X.2.1
  have hl : lv_has ls 4 [(0, .ref (zg Z 108)), (1, .ref (zg Z (2 + 7 * j))), (2, .int 0)] := hl
  obtain ⟨ht, hz, ha, hz1, haz, hch⟩ := id hP
  have hL : isL (2 + 7 * j) := isLj hj7
  refine lv_aload_n hx hb dX5_single_0 rfl (lv_at hl 0 rfl) ?_
  refine g_geti X h (k := 2) (cc_108) fr_RX5_28 rfl (by decide) dX5_single_1 ?_
  refine lv_aload_n hx hb dX5_single_4 rfl (lv_at hl 0 rfl) ?_
  refine g_geti X h (k := 1) (cc_108) fr_RX5_15 rfl (by decide) dX5_single_5 ?_
  refine lv_icmp_ge (tgt := 23) hx hb dX5_single_8 (by decide) (fun c_8 => ?_) (fun c_8 => ?_)
  · skip
    have hle := nI_le1 (a := z) (b := a) hz ha (by omega) (by omega) c_8
    refine lv_iconst (v := (-1)) hx hb dX5_single_23 (by decide) ?_
    refine lv_istore_n (lv' := [(3, .int (-1)), (0, .ref (zg Z 108)), (1, .ref (zg Z (2 + 7 * j))), (2, .int 0)]) hx hb dX5_single_24 rfl hl (by decide) rfl (fun ls hl => ?_)
    refine lv_iload_n hx hb dX5_single_25 rfl (lv_at hl 0 rfl) ?_
    refine lv_bipush (v := 33) hx hb dX5_single_26 (by decide) ?_
    refine lv_icmp_eq (tgt := 43) hx hb dX5_single_28 (by decide) (fun q => absurd q (by decide)) (fun _ => ?_)
    refine lv_iload_n hx hb dX5_single_31 rfl (lv_at hl 0 rfl) ?_
    refine lv_bipush (v := 40) hx hb dX5_single_32 (by decide) ?_
    refine lv_icmp_eq (tgt := 43) hx hb dX5_single_34 (by decide) (fun q => absurd q (by decide)) (fun _ => ?_)
    refine lv_aload_n hx hb dX5_single_37 rfl (lv_at hl 1 rfl) ?_
    refine lv_aload_n hx hb dX5_single_38 rfl (lv_at hl 2 rfl) ?_
    refine g_ki h (g_runV X h (As := [.ref (zg Z (2 + 7 * j))]) (rest := []) (c_X5_test gl Z v w t z a hP j hj7 s hs hsz) mi_X5_test ml_RX5_95 (cc_108) (by decide) kl5 rfl ⟨Nat.le_of_ble_eq_true rfl, Nat.le_of_ble_eq_true rfl⟩ rfl hl.1 rfl (Nat.le_of_ble_eq_true rfl) dX5_single_39) (fun r39 v39 w39 H locs hp39 h => ?_)
    obtain ⟨hr39, hw39, hRT39⟩ := hp39
    obtain ⟨-, rfl⟩ := Prod.mk.inj hw39
    replace hRT39 : RT _ _ _ _ v39 _ := hRT39
    exact g_nret X h dX5_single_42 (by rw [hr39]; exact nar_bI _) (RT_eq (u := v39) (e := rdF t z 4 a) (rdF_t (isAt_f1 (by omega)) (isAt_f1 (by omega))) hr39 hRT39)
  · skip
    have hle := nI_le0 (a := z) (b := a) hz ha (by omega) (by omega) c_8
    refine lv_aload_n hx hb dX5_single_11 rfl (lv_at hl 0 rfl) ?_
    refine g_getr X h (k := 0) (t := 109) (cc_108) fr_RX5_11 rfl (by decide) (by decide) (by decide) dX5_single_12 ?_
    refine lv_aload_n hx hb dX5_single_15 rfl (lv_at hl 0 rfl) ?_
    refine g_geti X h (k := 2) (cc_108) fr_RX5_28 rfl (by decide) dX5_single_16 ?_
    refine g_bald X h (k := a) (cc_109) ha (by omega) (by decide) dX5_single_19 ?_
    refine lv_goto (tgt := 24) hx hb dX5_single_20 (by decide) ?_
    refine lv_topi (fun x3_24 ex3_24 => ?_)
    refine lv_istore_n (lv' := [(3, .int x3_24), (0, .ref (zg Z 108)), (1, .ref (zg Z (2 + 7 * j))), (2, .int 0)]) hx hb dX5_single_24 rfl hl (by decide) rfl (fun ls hl => ?_)
    refine lv_iload_n hx hb dX5_single_25 rfl (lv_at hl 0 rfl) ?_
    refine lv_bipush (v := 33) hx hb dX5_single_26 (by decide) ?_
    refine lv_icmp_eq (tgt := 43) hx hb dX5_single_28 (by decide) (fun c_28 => ?_) (fun c_28 => ?_)
    · skip
      have h33 : isAt t z a 33 = true := isAt_t hle (by rw [← ht, ← ex3_24]; exact c_28)
      have h33z := isAt_lt h33
      have hat1 : v 108 2 + 1 = nI (a + 1) := by rw [ha]; exact nI_1 a
      have hF2 := rdF_G t z 3 (a + 1) h33z
      refine lv_iload_n hx hb dX5_single_43 rfl (lv_at hl 3 rfl) ?_
      refine lv_iconst (v := 4) hx hb dX5_single_44 (by decide) ?_
      refine lv_icmp_lt (tgt := 50) hx hb dX5_single_45 (by decide) (fun _ => ?_) (fun q => absurd q (by decide))
      refine lv_aload_n hx hb dX5_single_50 rfl (lv_at hl 1 rfl) ?_
      refine lv_dup hx hb dX5_single_51 rfl ?_
      refine g_geti X h (k := 2) (cc_108) fr_RX5_28 rfl (by decide) dX5_single_52 ?_
      refine lv_iconst (v := 1) hx hb dX5_single_55 (by decide) ?_
      refine lv_iadd hx hb dX5_single_56 ?_
      refine g_puti X h (k := 2) (cc_108) fp_RX5_28 rfl (by decide) dX5_single_57 (fun v57 H locs ev57 h => ?_)
      refine lv_iload_n hx hb dX5_single_60 rfl (lv_at hl 0 rfl) ?_
      refine lv_bipush (v := 40) hx hb dX5_single_61 (by decide) ?_
      refine lv_icmp_ne (tgt := 92) hx hb dX5_single_63 (by decide) (fun c_63 => ?_) (fun c_63 => ?_)
      · skip
        refine lv_aload_n hx hb dX5_single_92 rfl (lv_at hl 1 rfl) ?_
        refine lv_aload_n hx hb dX5_single_93 rfl (lv_at hl 2 rfl) ?_
        refine lv_iload_n hx hb dX5_single_94 rfl (lv_at hl 3 rfl) ?_
        refine lv_iconst (v := 1) hx hb dX5_single_95 (by decide) ?_
        refine lv_iadd hx hb dX5_single_96 ?_
        refine g_tr (y := 1) (by decide) ?_
        refine g_ki h (g_runV X h (As := [.ref (zg Z (2 + 7 * j)), .int 1]) (rest := []) (c_X5_single_1 gl Z v57 w t z (a + 1) (by rw [ev57, hat1]; exact PT_at hP h33z) j hj7 s (by rw [ev57, hat1, up2_ne (by omega)]; exact hs) (by omega)) mi_X5_single ml_RX5_89 (cc_108) (by decide) kl5 rfl ⟨Nat.le_of_ble_eq_true rfl, Nat.le_of_ble_eq_true rfl⟩ rfl hl.1 rfl (Nat.le_of_ble_eq_true rfl) dX5_single_97) (fun r97 v97 w97 H locs hp97 h => ?_)
        obtain ⟨hr97, hw97, hRT97⟩ := hp97
        obtain ⟨-, rfl⟩ := Prod.mk.inj hw97
        replace hRT97 : RT _ _ _ _ v97 _ := hRT97
        refine lv_if_ne (tgt := 105) hx hb dX5_single_100 (by decide) (fun c_100 => ?_) (fun c_100 => ?_)
        · skip
          rw [hr97, bI_n] at c_100
          refine lv_aload_n hx hb dX5_single_105 rfl (lv_at hl 2 rfl) ?_
          refine lv_bipush (v := (-3)) hx hb dX5_single_106 (by decide) ?_
          refine g_kv h (g_runV X h (As := [.int (-3)]) (rest := []) (c_X1_addStep gl Z v97 w (-3) (2 + 7 * j) hL (s + (rdF t z 3 (a + 1)).2.2.length) (hRT97.2.2 c_100).1 (by have := hF2.2.2 c_100; have := hF2.2.1; omega)) mi_X1_addStep ml_RX5_92 (cL_0 hL) (by decide) kl1 rfl ⟨Nat.le_of_ble_eq_true rfl, Nat.le_of_ble_eq_true rfl⟩ rfl hl.1 rfl (Nat.le_of_ble_eq_true rfl) dX5_single_108) (fun v108 w108 H locs hp108 h => ?_)
          obtain ⟨ev108, rfl⟩ := Prod.mk.inj hp108
          replace ev108 := ev108.symm
          refine lv_iconst (v := 1) hx hb dX5_single_111 (by decide) ?_
          exact g_nret X h dX5_single_112 rfl (RT_eq (u := v108) (rdF_y h33 c_100) rfl (RT_yes (FT_trans (FT_trans (by rw [ev57, hat1]; exact FT_at (by omega) (FT_refl _ _ _)) hRT97.1 (Nat.le_refl _)) (by rw [ev108]; exact FT_ad (by omega)) (Nat.le_add_right _ _)) (by rw [ev108, adS, up2_ne (by omega), up2_ne (by omega)]; exact hRT97.2.1) (TS_app (hRT97.2.2 c_100) (by rw [ev108]; exact FT_ad (by omega)) (by rw [ev108]; exact TS_ad (by decide) rfl))))
        · skip
          rw [hr97, bI_0] at c_100
          refine lv_iconst (v := 0) hx hb dX5_single_103 (by decide) ?_
          exact g_nret X h dX5_single_104 rfl (RT_eq (u := v97) (rdF_n h33 c_100) rfl (RT_no (FT_trans (by rw [ev57, hat1]; exact FT_at (by omega) (FT_refl _ _ _)) hRT97.1 (Nat.le_refl _)) hRT97.2.1))
      · exact absurd (c_28.symm.trans c_63) (by decide)
    · skip
      have h33 : isAt t z a 33 = false := isAt_f2 (by rw [← ht, ← ex3_24]; exact c_28)
      refine lv_iload_n hx hb dX5_single_31 rfl (lv_at hl 0 rfl) ?_
      refine lv_bipush (v := 40) hx hb dX5_single_32 (by decide) ?_
      refine lv_icmp_eq (tgt := 43) hx hb dX5_single_34 (by decide) (fun c_34 => ?_) (fun c_34 => ?_)
      · skip
        have h40 : isAt t z a 40 = true := isAt_t hle (by rw [← ht, ← ex3_24]; exact c_34)
        have h33z := isAt_lt h40
        have hat1 : v 108 2 + 1 = nI (a + 1) := by rw [ha]; exact nI_1 a
        have hE2 := rdE_G t z 3 (a + 1) h33z
        refine lv_iload_n hx hb dX5_single_43 rfl (lv_at hl 3 rfl) ?_
        refine lv_iconst (v := 4) hx hb dX5_single_44 (by decide) ?_
        refine lv_icmp_lt (tgt := 50) hx hb dX5_single_45 (by decide) (fun _ => ?_) (fun q => absurd q (by decide))
        refine lv_aload_n hx hb dX5_single_50 rfl (lv_at hl 1 rfl) ?_
        refine lv_dup hx hb dX5_single_51 rfl ?_
        refine g_geti X h (k := 2) (cc_108) fr_RX5_28 rfl (by decide) dX5_single_52 ?_
        refine lv_iconst (v := 1) hx hb dX5_single_55 (by decide) ?_
        refine lv_iadd hx hb dX5_single_56 ?_
        refine g_puti X h (k := 2) (cc_108) fp_RX5_28 rfl (by decide) dX5_single_57 (fun v57 H locs ev57 h => ?_)
        refine lv_iload_n hx hb dX5_single_60 rfl (lv_at hl 0 rfl) ?_
        refine lv_bipush (v := 40) hx hb dX5_single_61 (by decide) ?_
        refine lv_icmp_ne (tgt := 92) hx hb dX5_single_63 (by decide) (fun c_63 => ?_) (fun c_63 => ?_)
        · exact absurd c_34 c_63
        · skip
          refine lv_aload_n hx hb dX5_single_66 rfl (lv_at hl 1 rfl) ?_
          refine lv_aload_n hx hb dX5_single_67 rfl (lv_at hl 2 rfl) ?_
          refine lv_iload_n hx hb dX5_single_68 rfl (lv_at hl 3 rfl) ?_
          refine lv_iconst (v := 1) hx hb dX5_single_69 (by decide) ?_
          refine lv_iadd hx hb dX5_single_70 ?_
          refine g_tr (y := 1) (by decide) ?_
          refine g_ki h (g_runV X h (As := [.ref (zg Z (2 + 7 * j)), .int 1]) (rest := []) (c_X5_either_1 gl Z v57 w t z (a + 1) (by rw [ev57, hat1]; exact PT_at hP h33z) j hj7 s (by rw [ev57, hat1, up2_ne (by omega)]; exact hs) (by omega)) mi_X5_either ml_RX5_46 (cc_108) (by decide) kl5 rfl ⟨Nat.le_of_ble_eq_true rfl, Nat.le_of_ble_eq_true rfl⟩ rfl hl.1 rfl (Nat.le_of_ble_eq_true rfl) dX5_single_71) (fun r71 v71 w71 H locs hp71 h => ?_)
          obtain ⟨hr71, hw71, hRT71⟩ := hp71
          obtain ⟨-, rfl⟩ := Prod.mk.inj hw71
          replace hRT71 : RT _ _ _ _ v71 _ := hRT71
          refine lv_if_eq (tgt := 90) hx hb dX5_single_74 (by decide) (fun c_74 => ?_) (fun c_74 => ?_)
          · skip
            rw [hr71, bI_0] at c_74
            refine lv_iconst (v := 0) hx hb dX5_single_90 (by decide) ?_
            exact g_nret X h dX5_single_91 rfl (RT_eq (u := v71) (rdF_pn h33 h40 c_74) rfl (RT_no (FT_trans (by rw [ev57, hat1]; exact FT_at (by omega) (FT_refl _ _ _)) hRT71.1 (Nat.le_refl _)) hRT71.2.1))
          · skip
            rw [hr71, bI_n] at c_74
            refine lv_aload_n hx hb dX5_single_77 rfl (lv_at hl 1 rfl) ?_
            refine lv_bipush (v := 41) hx hb dX5_single_78 (by decide) ?_
            refine g_ki h (g_runV X h (As := [.int 41]) (rest := []) (c_X5_skip gl Z v71 w 41 t z ((rdE t z 3 (a + 1)).2.1) (PT_FT (by omega) (by rw [ev57, hat1]; exact PT_at hP h33z) hRT71.1 hRT71.2.1 hE2.2.1)) mi_X5_skip ml_RX5_35 (cc_108) (by decide) kl5 rfl ⟨Nat.le_of_ble_eq_true rfl, Nat.le_of_ble_eq_true rfl⟩ rfl hl.1 rfl (Nat.le_of_ble_eq_true rfl) dX5_single_80) (fun r80 v80 w80 H locs hp80 h => ?_)
            obtain ⟨hr80, hu80⟩ := hp80
            obtain ⟨ev80, rfl⟩ := Prod.mk.inj hu80
            replace ev80 := ev80.symm
            refine lv_if_eq (tgt := 90) hx hb dX5_single_83 (by decide) (fun c_83 => ?_) (fun c_83 => ?_)
            · skip
              rw [hr80, bI_0] at c_83
              refine lv_iconst (v := 0) hx hb dX5_single_90 (by decide) ?_
              exact g_nret X h dX5_single_91 rfl (by rw [c_83, if_neg (by decide)] at ev80; exact RT_eq (u := v80) (rdF_pm h33 h40 c_74 c_83) rfl (RT_no (by rw [ev80]; exact FT_trans (by rw [ev57, hat1]; exact FT_at (by omega) (FT_refl _ _ _)) hRT71.1 (Nat.le_refl _)) (by rw [ev80]; exact hRT71.2.1)))
            · skip
              rw [hr80, bI_n] at c_83
              refine lv_iconst (v := 1) hx hb dX5_single_86 (by decide) ?_
              refine lv_goto (tgt := 91) hx hb dX5_single_87 (by decide) ?_
              exact g_nret X h dX5_single_91 rfl (by rw [c_83, if_pos rfl] at ev80; exact RT_eq (u := v80) (rdF_py h33 h40 c_74 c_83) rfl (RT_yes (by rw [ev80]; exact FT_at (by omega) (FT_trans (by rw [ev57, hat1]; exact FT_at (by omega) (FT_refl _ _ _)) hRT71.1 (Nat.le_refl _))) (by rw [ev80, up2_same]) (by rw [ev80]; exact TS_at (by omega) (hRT71.2.2 c_74))))
      · skip
        have h40 : isAt t z a 40 = false := isAt_f2 (by rw [← ht, ← ex3_24]; exact c_34)
        refine lv_aload_n hx hb dX5_single_37 rfl (lv_at hl 1 rfl) ?_
        refine lv_aload_n hx hb dX5_single_38 rfl (lv_at hl 2 rfl) ?_
        refine g_ki h (g_runV X h (As := [.ref (zg Z (2 + 7 * j))]) (rest := []) (c_X5_test gl Z v w t z a hP j hj7 s hs hsz) mi_X5_test ml_RX5_95 (cc_108) (by decide) kl5 rfl ⟨Nat.le_of_ble_eq_true rfl, Nat.le_of_ble_eq_true rfl⟩ rfl hl.1 rfl (Nat.le_of_ble_eq_true rfl) dX5_single_39) (fun r39 v39 w39 H locs hp39 h => ?_)
        obtain ⟨hr39, hw39, hRT39⟩ := hp39
        obtain ⟨-, rfl⟩ := Prod.mk.inj hw39
        replace hRT39 : RT _ _ _ _ v39 _ := hRT39
        exact g_nret X h dX5_single_42 (by rw [hr39]; exact nar_bI _) (RT_eq (u := v39) (e := rdF t z 4 a) (rdF_t h33 h40) hr39 hRT39)

set_option maxRecDepth 100000 in
set_option maxHeartbeats 1000000 in
theorem c_X5_either_0 (gl : Launch) (Z : PL) (v : VV) (w : WV) (t : Nat → Int32) (z : Nat) (a : Nat) (hP : PT v t z a) (j : Nat) (hj7 : j < 7) (s : Nat) (hs : v (2 + 7 * j) 9 = nI s) (hsz : s + (z - a) ≤ 100) : CT gl yX5_either cX5_either 6 (some .boolean) 15 352 Z [.ref (zg Z 108), .ref (zg Z (2 + 7 * j)), .int 0] v w (Qi Z (fun r u => r = bI (rdE t z 4 a).1 ∧ (u.1, w) = u ∧ RT z (2 + 7 * j) s v u.1 (rdE t z 4 a))) := by
  refine g_met (by decide) (Nat.le_of_ble_eq_true rfl) ?_
  intro gp ge gs gm ga gb gh gc X h ls hl
  have hx := X.1
  have hb := X.2.1
  have hl : lv_has ls 6 [(0, .ref (zg Z 108)), (1, .ref (zg Z (2 + 7 * j))), (2, .int 0)] := hl
  obtain ⟨ht, hz, ha, hz1, haz, hch⟩ := id hP
  have hL : isL (2 + 7 * j) := isLj hj7
  refine lv_iconst (v := 0) hx hb dX5_either_0 (by decide) ?_
  refine lv_istore_n (lv' := [(3, .int 0), (0, .ref (zg Z 108)), (1, .ref (zg Z (2 + 7 * j))), (2, .int 0)]) hx hb dX5_either_1 rfl hl (by decide) rfl (fun ls hl => ?_)
  refine lv_iconst (v := 0) hx hb dX5_either_2 (by decide) ?_
  refine lv_istore (lv' := [(4, .int 0), (3, .int 0), (0, .ref (zg Z 108)), (1, .ref (zg Z (2 + 7 * j))), (2, .int 0)]) hx hb dX5_either_3 hl (by decide) rfl (fun ls hl => ?_)
  refine lv_iconst (v := 0) hx hb dX5_either_5 (by decide) ?_
  refine lv_istore (lv' := [(5, .int 0), (4, .int 0), (3, .int 0), (0, .ref (zg Z 108)), (1, .ref (zg Z (2 + 7 * j))), (2, .int 0)]) hx hb dX5_either_6 hl (by decide) rfl (fun ls hl => ?_)
  have L8 : ∀ (n8 : Nat) (x3 x4 x5 : Int32) (ia io : Bool) (q b : Nat) (lo li : List Nat) (va : VV), (x3 = bI ia) → (x4 = bI io) → (x5 = nI q) → (q ≤ 100) → (a + q ≤ b) → (b ≤ z) → (PT va t z b) → (FT v va (2 + 7 * j) s) → (TS va (2 + 7 * j) s (lo ++ li)) → ((lo ++ li).length + a + bN ia + bN io ≤ b) → (ia = false → li = []) → (io = false → lo = []) → (rdE t z 4 a = rsE t z 4 ia io b lo li) → 100 - q < n8 → ∀ (H : Heap) (locs : List Loc), HS Z gs va w H locs → ∀ ls : Array Slot, lv_has ls 6 [(0, .ref (zg Z 108)), (1, .ref (zg Z (2 + 7 * j))), (2, .int 0), (3, .int x3), (4, .int x4), (5, .int x5)] → W gp gl ge (rmm 15 352) gs gm ga gb gh gc H locs 0 0 (MQ gb (Qi Z (fun r u => r = bI (rdE t z 4 a).1 ∧ (u.1, w) = u ∧ RT z (2 + 7 * j) s v u.1 (rdE t z 4 a))) ga gs 0 0 (zA Z)) (F0 gm 8 ls []) := by
    intro n8
    induction n8 with
    | zero => intro x3 x4 x5 ia io q b lo li va hx3 hx4 hx5 hq hqb hbz hP3 hFT hTS hlen hli hlo hRE hmu; exact absurd hmu (Nat.not_lt_zero _)
    | succ n8 ih8 =>
      intro x3 x4 x5 ia io q b lo li va hx3 hx4 hx5 hq hqb hbz hP3 hFT hTS hlen hli hlo hRE hmu8 H locs h ls hl
      have hF2 := rdF_G t z 4 b hbz
      refine lv_iload hx hb dX5_either_8 (lv_at hl 5 rfl) ?_
      refine lv_bipush (v := 100) hx hb dX5_either_10 (by decide) ?_
      refine lv_icmp_ge (tgt := 78) hx hb dX5_either_12 (by decide) (fun c_12 => ?_) (fun c_12 => ?_)
      · skip
        have hqq := nI_le1 (a := 100) (b := q) rfl hx5 (by omega) (by omega) c_12
        refine lv_iconst (v := 0) hx hb dX5_either_78 (by decide) ?_
        exact g_nret X h dX5_either_79 rfl (RT_eq (u := va) (hRE.trans ((congrArg (fun y => rsE t z 4 ia io y lo li) (show b = z by omega)).trans (rsE_n (by rw [rdF_z])))) rfl (by rw [rdF_z]; exact RT_no hFT (by rw [show z = b by omega]; exact hP3.2.2.1)))
      · skip
        have hqq := nI_le0 (a := 100) (b := q) rfl hx5 (by omega) (by omega) c_12
        refine lv_aload_n hx hb dX5_either_15 rfl (lv_at hl 0 rfl) ?_
        refine lv_aload_n hx hb dX5_either_16 rfl (lv_at hl 1 rfl) ?_
        refine lv_iload_n hx hb dX5_either_17 rfl (lv_at hl 2 rfl) ?_
        refine g_ki h (g_runV X h (As := [.ref (zg Z (2 + 7 * j)), .int 0]) (rest := []) (c_X5_single_0 gl Z va w t z b hP3 j hj7 (s + (lo ++ li).length) hTS.1 (by omega)) mi_X5_single ml_RX5_89 (cc_108) (by decide) kl5 rfl ⟨Nat.le_of_ble_eq_true rfl, Nat.le_of_ble_eq_true rfl⟩ rfl hl.1 rfl (Nat.le_of_ble_eq_true rfl) dX5_either_18) (fun r18 v18 w18 H locs hp18 h => ?_)
        obtain ⟨hr18, hw18, hRT18⟩ := hp18
        obtain ⟨-, rfl⟩ := Prod.mk.inj hw18
        replace hRT18 : RT _ _ _ _ v18 _ := hRT18
        refine lv_if_ne (tgt := 26) hx hb dX5_either_21 (by decide) (fun c_21 => ?_) (fun c_21 => ?_)
        · skip
          rw [hr18, bI_n] at c_21
          refine lv_iload_n hx hb dX5_either_26 rfl (lv_at hl 3 rfl) ?_
          refine lv_if_eq (tgt := 35) hx hb dX5_either_27 (by decide) (fun c_27 => ?_) (fun c_27 => ?_)
          · skip
            rw [hx3, bI_0] at c_27
            have hTS2 : TS v18 (2 + 7 * j) s (lo ++ (liN t z 4 ia b li)) := by
              rw [liN, if_neg (by rw [c_27]; decide)]
              have z2 := TS_app hTS hRT18.1 (hRT18.2.2 c_21)
              rw [hli c_27, List.append_nil] at z2
              exact z2
            have hFT2 : FT v v18 (2 + 7 * j) s := (FT_trans (u := va) hFT hRT18.1 (Nat.le_add_right _ _))
            have hat2 : v18 108 2 = nI (rdF t z 4 b).2.1 := hRT18.2.1
            have hlen2 : (lo ++ (liN t z 4 ia b li)).length + a + bN io ≤ (rdF t z 4 b).2.1 := by
              rw [liN, if_neg (by rw [c_27]; decide), List.length_append]
              rw [hli c_27, List.append_nil, c_27] at hlen
              have z3 := (hF2.2.2 c_21).2
              have z4 : bN false = 0 := rfl
              omega
            refine lv_aload_n hx hb dX5_either_35 rfl (lv_at hl 0 rfl) ?_
            refine lv_bipush (v := 38) hx hb dX5_either_36 (by decide) ?_
            refine g_ki h (g_runV X h (As := [.int 38]) (rest := []) (c_X5_skip gl Z v18 w 38 t z ((rdF t z 4 b).2.1) (PT_FT (by omega) hP hFT2 hat2 hF2.2.1)) mi_X5_skip ml_RX5_35 (cc_108) (by decide) kl5 rfl ⟨Nat.le_of_ble_eq_true rfl, Nat.le_of_ble_eq_true rfl⟩ rfl hl.1 rfl (Nat.le_of_ble_eq_true rfl) dX5_either_38) (fun r38 v38 w38 H locs hp38 h => ?_)
            obtain ⟨hr38, hu38⟩ := hp38
            obtain ⟨ev38, rfl⟩ := Prod.mk.inj hu38
            replace ev38 := ev38.symm
            refine lv_istore_n (lv' := [(3, .int r38), (0, .ref (zg Z 108)), (1, .ref (zg Z (2 + 7 * j))), (2, .int 0), (4, .int x4), (5, .int x5)]) hx hb dX5_either_41 rfl hl (by decide) rfl (fun ls hl => ?_)
            refine lv_iload_n hx hb dX5_either_42 rfl (lv_at hl 0 rfl) ?_
            refine lv_if_ne (tgt := 72) hx hb dX5_either_43 (by decide) (fun c_43 => ?_) (fun c_43 => ?_)
            · skip
              rw [hr38, bI_n] at c_43
              rw [if_pos c_43] at ev38
              refine lv_iinc (v := (x5 + 1)) (lv' := [(5, .int (x5 + 1)), (3, .int r38), (0, .ref (zg Z 108)), (1, .ref (zg Z (2 + 7 * j))), (2, .int 0), (4, .int x4)]) hx hb dX5_either_72 hl (k := 5) rfl rfl (by decide) rfl (fun ls hl => ?_)
              refine lv_goto (tgt := 8) hx hb dX5_either_75 (by decide) ?_
              exact ih8 r38 x4 (x5 + 1) true io (q + 1) ((rdF t z 4 b).2.1 + 1) lo (liN t z 4 ia b li) v38 (by rw [hr38, c_43]) hx4 (by rw [hx5]; exact nI_1 _) (by omega) (by omega) (by have := isAt_lt c_43; omega) (by rw [ev38]; exact PT_at (PT_FT (by omega) hP hFT2 hat2 hF2.2.1) (isAt_lt c_43)) (by rw [ev38]; exact FT_at (by omega) hFT2) (by rw [ev38]; exact TS_at (by omega) hTS2) (by have z4 : bN true = 1 := rfl; omega) (fun q => by cases q) hlo (hRE.trans (rsE_and c_21 c_43)) (by omega) _ _ h ls (lv_sub hl [2, 3, 4, 1, 5, 0] rfl)
            · skip
              rw [hr38, bI_0] at c_43
              rw [if_neg (by rw [c_43]; decide)] at ev38
              refine lv_iload hx hb dX5_either_46 (lv_at hl 4 rfl) ?_
              refine lv_if_eq (tgt := 57) hx hb dX5_either_48 (by decide) (fun c_48 => ?_) (fun c_48 => ?_)
              · skip
                rw [hx4, bI_0] at c_48
                have ei : (if io then lo ++ (liN t z 4 ia b li) ++ [1] else (liN t z 4 ia b li)) = lo ++ (liN t z 4 ia b li) := by rw [c_48, if_neg (by decide), hlo c_48, List.nil_append]
                have hTS3 : TS v38 (2 + 7 * j) s (if io then lo ++ (liN t z 4 ia b li) ++ [1] else (liN t z 4 ia b li)) := by rw [ei, ev38]; exact hTS2
                have hFT3 : FT v v38 (2 + 7 * j) s := by rw [ev38]; exact hFT2
                have hat3 : v38 108 2 = nI (rdF t z 4 b).2.1 := by rw [ev38]; exact hat2
                have hlen3 : (if io then lo ++ (liN t z 4 ia b li) ++ [1] else (liN t z 4 ia b li)).length + a ≤ (rdF t z 4 b).2.1 := by rw [ei]; omega
                refine lv_aload_n hx hb dX5_either_57 rfl (lv_at hl 1 rfl) ?_
                refine lv_bipush (v := 124) hx hb dX5_either_58 (by decide) ?_
                refine g_ki h (g_runV X h (As := [.int 124]) (rest := []) (c_X5_skip gl Z v38 w 124 t z ((rdF t z 4 b).2.1) (PT_FT (by omega) hP hFT3 hat3 hF2.2.1)) mi_X5_skip ml_RX5_35 (cc_108) (by decide) kl5 rfl ⟨Nat.le_of_ble_eq_true rfl, Nat.le_of_ble_eq_true rfl⟩ rfl hl.1 rfl (Nat.le_of_ble_eq_true rfl) dX5_either_60) (fun r60 v60 w60 H locs hp60 h => ?_)
                obtain ⟨hr60, hu60⟩ := hp60
                obtain ⟨ev60, rfl⟩ := Prod.mk.inj hu60
                replace ev60 := ev60.symm
                refine lv_istore (lv' := [(4, .int r60), (3, .int r38), (0, .ref (zg Z 108)), (1, .ref (zg Z (2 + 7 * j))), (2, .int 0), (5, .int x5)]) hx hb dX5_either_63 hl (by decide) rfl (fun ls hl => ?_)
                refine lv_iload hx hb dX5_either_65 (lv_at hl 0 rfl) ?_
                refine lv_if_ne (tgt := 72) hx hb dX5_either_67 (by decide) (fun c_67 => ?_) (fun c_67 => ?_)
                · skip
                  rw [hr60, bI_n] at c_67
                  rw [if_pos c_67] at ev60
                  refine lv_iinc (v := (x5 + 1)) (lv' := [(5, .int (x5 + 1)), (4, .int r60), (3, .int r38), (0, .ref (zg Z 108)), (1, .ref (zg Z (2 + 7 * j))), (2, .int 0)]) hx hb dX5_either_72 hl (k := 5) rfl rfl (by decide) rfl (fun ls hl => ?_)
                  refine lv_goto (tgt := 8) hx hb dX5_either_75 (by decide) ?_
                  exact ih8 r38 r60 (x5 + 1) false true (q + 1) ((rdF t z 4 b).2.1 + 1) (if io then lo ++ (liN t z 4 ia b li) ++ [1] else (liN t z 4 ia b li)) [] v60 (by rw [hr38, c_43]) (by rw [hr60, c_67]) (by rw [hx5]; exact nI_1 _) (by omega) (by omega) (by have := isAt_lt c_67; omega) (by rw [ev60]; exact PT_at (PT_FT (by omega) hP hFT3 hat3 hF2.2.1) (isAt_lt c_67)) (by rw [ev60]; exact FT_at (by omega) hFT3) (by rw [List.append_nil, ev60]; exact TS_at (by omega) hTS3) (by rw [List.append_nil]; have z4 : bN true = 1 := rfl; have z5 : bN false = 0 := rfl; omega) (fun _ => rfl) (fun q => by cases q) (hRE.trans (rsE_or c_21 c_43 c_67)) (by omega) _ _ h ls (lv_sub hl [3, 4, 5, 2, 1, 0] rfl)
                · skip
                  rw [hr60, bI_0] at c_67
                  rw [if_neg (by rw [c_67]; decide)] at ev60
                  refine lv_iconst (v := 1) hx hb dX5_either_70 (by decide) ?_
                  exact g_nret X h dX5_either_71 rfl (RT_eq (u := v60) (hRE.trans (rsE_end c_21 c_43 c_67)) rfl (RT_yes (by rw [ev60]; exact hFT3) (by rw [ev60]; exact hat3) (by rw [ev60]; exact hTS3)))
              · skip
                rw [hx4, bI_n] at c_48
                refine lv_aload_n hx hb dX5_either_51 rfl (lv_at hl 2 rfl) ?_
                refine lv_bipush (v := (-2)) hx hb dX5_either_52 (by decide) ?_
                refine g_kv h (g_runV X h (As := [.int (-2)]) (rest := []) (c_X1_addStep gl Z v38 w (-2) (2 + 7 * j) hL (s + (lo ++ (liN t z 4 ia b li)).length) (by rw [ev38]; exact hTS2.1) (by rw [c_48] at hlen2; have z4 : bN true = 1 := rfl; have := hF2.2.1; omega)) mi_X1_addStep ml_RX5_92 (cL_0 hL) (by decide) kl1 rfl ⟨Nat.le_of_ble_eq_true rfl, Nat.le_of_ble_eq_true rfl⟩ rfl hl.1 rfl (Nat.le_of_ble_eq_true rfl) dX5_either_54) (fun v54 w54 H locs hp54 h => ?_)
                obtain ⟨ev54, rfl⟩ := Prod.mk.inj hp54
                replace ev54 := ev54.symm
                have ei : (if io then lo ++ (liN t z 4 ia b li) ++ [1] else (liN t z 4 ia b li)) = lo ++ (liN t z 4 ia b li) ++ [1] := by rw [c_48, if_pos rfl]
                have hTS3 : TS v54 (2 + 7 * j) s (if io then lo ++ (liN t z 4 ia b li) ++ [1] else (liN t z 4 ia b li)) := by
                  rw [ei]
                  exact TS_app hTS2 (by rw [ev54, ev38]; exact FT_ad (by omega)) (by rw [ev54, ev38]; exact TS_ad (t := 1) (by decide) rfl)
                have hFT3 : FT v v54 (2 + 7 * j) s := FT_trans hFT2 (by rw [ev54, ev38]; exact FT_ad (by omega)) (Nat.le_add_right _ (lo ++ (liN t z 4 ia b li)).length)
                have hat3 : v54 108 2 = nI (rdF t z 4 b).2.1 := by rw [ev54, ev38, adS, up2_ne (by omega), up2_ne (by omega)]; exact hat2
                have hlen3 : (if io then lo ++ (liN t z 4 ia b li) ++ [1] else (liN t z 4 ia b li)).length + a ≤ (rdF t z 4 b).2.1 := by
                  rw [ei, List.length_append, List.length_singleton]
                  rw [c_48] at hlen2
                  have z4 : bN true = 1 := rfl
                  omega
                refine lv_aload_n hx hb dX5_either_57 rfl (lv_at hl 1 rfl) ?_
                refine lv_bipush (v := 124) hx hb dX5_either_58 (by decide) ?_
                refine g_ki h (g_runV X h (As := [.int 124]) (rest := []) (c_X5_skip gl Z v54 w 124 t z ((rdF t z 4 b).2.1) (PT_FT (by omega) hP hFT3 hat3 hF2.2.1)) mi_X5_skip ml_RX5_35 (cc_108) (by decide) kl5 rfl ⟨Nat.le_of_ble_eq_true rfl, Nat.le_of_ble_eq_true rfl⟩ rfl hl.1 rfl (Nat.le_of_ble_eq_true rfl) dX5_either_60) (fun r60 v60 w60 H locs hp60 h => ?_)
                obtain ⟨hr60, hu60⟩ := hp60
                obtain ⟨ev60, rfl⟩ := Prod.mk.inj hu60
                replace ev60 := ev60.symm
                refine lv_istore (lv' := [(4, .int r60), (3, .int r38), (0, .ref (zg Z 108)), (1, .ref (zg Z (2 + 7 * j))), (2, .int 0), (5, .int x5)]) hx hb dX5_either_63 hl (by decide) rfl (fun ls hl => ?_)
                refine lv_iload hx hb dX5_either_65 (lv_at hl 0 rfl) ?_
                refine lv_if_ne (tgt := 72) hx hb dX5_either_67 (by decide) (fun c_67 => ?_) (fun c_67 => ?_)
                · skip
                  rw [hr60, bI_n] at c_67
                  rw [if_pos c_67] at ev60
                  refine lv_iinc (v := (x5 + 1)) (lv' := [(5, .int (x5 + 1)), (4, .int r60), (3, .int r38), (0, .ref (zg Z 108)), (1, .ref (zg Z (2 + 7 * j))), (2, .int 0)]) hx hb dX5_either_72 hl (k := 5) rfl rfl (by decide) rfl (fun ls hl => ?_)
                  refine lv_goto (tgt := 8) hx hb dX5_either_75 (by decide) ?_
                  exact ih8 r38 r60 (x5 + 1) false true (q + 1) ((rdF t z 4 b).2.1 + 1) (if io then lo ++ (liN t z 4 ia b li) ++ [1] else (liN t z 4 ia b li)) [] v60 (by rw [hr38, c_43]) (by rw [hr60, c_67]) (by rw [hx5]; exact nI_1 _) (by omega) (by omega) (by have := isAt_lt c_67; omega) (by rw [ev60]; exact PT_at (PT_FT (by omega) hP hFT3 hat3 hF2.2.1) (isAt_lt c_67)) (by rw [ev60]; exact FT_at (by omega) hFT3) (by rw [List.append_nil, ev60]; exact TS_at (by omega) hTS3) (by rw [List.append_nil]; have z4 : bN true = 1 := rfl; have z5 : bN false = 0 := rfl; omega) (fun _ => rfl) (fun q => by cases q) (hRE.trans (rsE_or c_21 c_43 c_67)) (by omega) _ _ h ls (lv_sub hl [3, 4, 5, 2, 1, 0] rfl)
                · skip
                  rw [hr60, bI_0] at c_67
                  rw [if_neg (by rw [c_67]; decide)] at ev60
                  refine lv_iconst (v := 1) hx hb dX5_either_70 (by decide) ?_
                  exact g_nret X h dX5_either_71 rfl (RT_eq (u := v60) (hRE.trans (rsE_end c_21 c_43 c_67)) rfl (RT_yes (by rw [ev60]; exact hFT3) (by rw [ev60]; exact hat3) (by rw [ev60]; exact hTS3)))
          · skip
            rw [hx3, bI_n] at c_27
            have hTSa := TS_app hTS hRT18.1 (hRT18.2.2 c_21)
            have hlena : ((lo ++ li) ++ (rdF t z 4 b).2.2).length + a + 1 ≤ (rdF t z 4 b).2.1 := by
              simp only [List.length_append] at hlen ⊢
              have z3 := (hF2.2.2 c_21).2
              rw [c_27] at hlen
              have z4 : bN true = 1 := rfl
              omega
            refine lv_aload_n hx hb dX5_either_30 rfl (lv_at hl 1 rfl) ?_
            refine lv_iconst (v := (-1)) hx hb dX5_either_31 (by decide) ?_
            refine g_kv h (g_runV X h (As := [.int (-1)]) (rest := []) (c_X1_addStep gl Z v18 w (-1) (2 + 7 * j) hL (s + ((lo ++ li) ++ (rdF t z 4 b).2.2).length) hTSa.1 (by have := hF2.2.1; omega)) mi_X1_addStep ml_RX5_92 (cL_0 hL) (by decide) kl1 rfl ⟨Nat.le_of_ble_eq_true rfl, Nat.le_of_ble_eq_true rfl⟩ rfl hl.1 rfl (Nat.le_of_ble_eq_true rfl) dX5_either_32) (fun v32 w32 H locs hp32 h => ?_)
            obtain ⟨ev32, rfl⟩ := Prod.mk.inj hp32
            replace ev32 := ev32.symm
            have hTS2 : TS v32 (2 + 7 * j) s (lo ++ (liN t z 4 ia b li)) := by
              rw [liN, if_pos c_27]
              have z2 := TS_app (x := v32) (l2 := [0]) hTSa (by rw [ev32]; exact FT_ad (by omega)) (by rw [ev32]; exact TS_ad (t := 0) (by decide) rfl)
              simpa [List.append_assoc] using z2
            have hFT2 : FT v v32 (2 + 7 * j) s := FT_trans (FT_trans (u := va) hFT hRT18.1 (Nat.le_add_right _ _)) (by rw [ev32]; exact FT_ad (by omega)) (Nat.le_add_right _ ((lo ++ li) ++ (rdF t z 4 b).2.2).length)
            have hat2 : v32 108 2 = nI (rdF t z 4 b).2.1 := by rw [ev32, adS, up2_ne (by omega), up2_ne (by omega)]; exact hRT18.2.1
            have hlen2 : (lo ++ (liN t z 4 ia b li)).length + a + bN io ≤ (rdF t z 4 b).2.1 := by
              rw [liN, if_pos c_27]
              simp only [List.length_append, List.length_singleton] at hlen ⊢
              have z3 := (hF2.2.2 c_21).2
              rw [c_27] at hlen
              have z4 : bN true = 1 := rfl
              omega
            refine lv_aload_n hx hb dX5_either_35 rfl (lv_at hl 0 rfl) ?_
            refine lv_bipush (v := 38) hx hb dX5_either_36 (by decide) ?_
            refine g_ki h (g_runV X h (As := [.int 38]) (rest := []) (c_X5_skip gl Z v32 w 38 t z ((rdF t z 4 b).2.1) (PT_FT (by omega) hP hFT2 hat2 hF2.2.1)) mi_X5_skip ml_RX5_35 (cc_108) (by decide) kl5 rfl ⟨Nat.le_of_ble_eq_true rfl, Nat.le_of_ble_eq_true rfl⟩ rfl hl.1 rfl (Nat.le_of_ble_eq_true rfl) dX5_either_38) (fun r38 v38 w38 H locs hp38 h => ?_)
            obtain ⟨hr38, hu38⟩ := hp38
            obtain ⟨ev38, rfl⟩ := Prod.mk.inj hu38
            replace ev38 := ev38.symm
            refine lv_istore_n (lv' := [(3, .int r38), (0, .ref (zg Z 108)), (1, .ref (zg Z (2 + 7 * j))), (2, .int 0), (4, .int x4), (5, .int x5)]) hx hb dX5_either_41 rfl hl (by decide) rfl (fun ls hl => ?_)
            refine lv_iload_n hx hb dX5_either_42 rfl (lv_at hl 0 rfl) ?_
            refine lv_if_ne (tgt := 72) hx hb dX5_either_43 (by decide) (fun c_43 => ?_) (fun c_43 => ?_)
            · skip
              rw [hr38, bI_n] at c_43
              rw [if_pos c_43] at ev38
              refine lv_iinc (v := (x5 + 1)) (lv' := [(5, .int (x5 + 1)), (3, .int r38), (0, .ref (zg Z 108)), (1, .ref (zg Z (2 + 7 * j))), (2, .int 0), (4, .int x4)]) hx hb dX5_either_72 hl (k := 5) rfl rfl (by decide) rfl (fun ls hl => ?_)
              refine lv_goto (tgt := 8) hx hb dX5_either_75 (by decide) ?_
              exact ih8 r38 x4 (x5 + 1) true io (q + 1) ((rdF t z 4 b).2.1 + 1) lo (liN t z 4 ia b li) v38 (by rw [hr38, c_43]) hx4 (by rw [hx5]; exact nI_1 _) (by omega) (by omega) (by have := isAt_lt c_43; omega) (by rw [ev38]; exact PT_at (PT_FT (by omega) hP hFT2 hat2 hF2.2.1) (isAt_lt c_43)) (by rw [ev38]; exact FT_at (by omega) hFT2) (by rw [ev38]; exact TS_at (by omega) hTS2) (by have z4 : bN true = 1 := rfl; omega) (fun q => by cases q) hlo (hRE.trans (rsE_and c_21 c_43)) (by omega) _ _ h ls (lv_sub hl [2, 3, 4, 1, 5, 0] rfl)
            · skip
              rw [hr38, bI_0] at c_43
              rw [if_neg (by rw [c_43]; decide)] at ev38
              refine lv_iload hx hb dX5_either_46 (lv_at hl 4 rfl) ?_
              refine lv_if_eq (tgt := 57) hx hb dX5_either_48 (by decide) (fun c_48 => ?_) (fun c_48 => ?_)
              · skip
                rw [hx4, bI_0] at c_48
                have ei : (if io then lo ++ (liN t z 4 ia b li) ++ [1] else (liN t z 4 ia b li)) = lo ++ (liN t z 4 ia b li) := by rw [c_48, if_neg (by decide), hlo c_48, List.nil_append]
                have hTS3 : TS v38 (2 + 7 * j) s (if io then lo ++ (liN t z 4 ia b li) ++ [1] else (liN t z 4 ia b li)) := by rw [ei, ev38]; exact hTS2
                have hFT3 : FT v v38 (2 + 7 * j) s := by rw [ev38]; exact hFT2
                have hat3 : v38 108 2 = nI (rdF t z 4 b).2.1 := by rw [ev38]; exact hat2
                have hlen3 : (if io then lo ++ (liN t z 4 ia b li) ++ [1] else (liN t z 4 ia b li)).length + a ≤ (rdF t z 4 b).2.1 := by rw [ei]; omega
                refine lv_aload_n hx hb dX5_either_57 rfl (lv_at hl 1 rfl) ?_
                refine lv_bipush (v := 124) hx hb dX5_either_58 (by decide) ?_
                refine g_ki h (g_runV X h (As := [.int 124]) (rest := []) (c_X5_skip gl Z v38 w 124 t z ((rdF t z 4 b).2.1) (PT_FT (by omega) hP hFT3 hat3 hF2.2.1)) mi_X5_skip ml_RX5_35 (cc_108) (by decide) kl5 rfl ⟨Nat.le_of_ble_eq_true rfl, Nat.le_of_ble_eq_true rfl⟩ rfl hl.1 rfl (Nat.le_of_ble_eq_true rfl) dX5_either_60) (fun r60 v60 w60 H locs hp60 h => ?_)
                obtain ⟨hr60, hu60⟩ := hp60
                obtain ⟨ev60, rfl⟩ := Prod.mk.inj hu60
                replace ev60 := ev60.symm
                refine lv_istore (lv' := [(4, .int r60), (3, .int r38), (0, .ref (zg Z 108)), (1, .ref (zg Z (2 + 7 * j))), (2, .int 0), (5, .int x5)]) hx hb dX5_either_63 hl (by decide) rfl (fun ls hl => ?_)
                refine lv_iload hx hb dX5_either_65 (lv_at hl 0 rfl) ?_
                refine lv_if_ne (tgt := 72) hx hb dX5_either_67 (by decide) (fun c_67 => ?_) (fun c_67 => ?_)
                · skip
                  rw [hr60, bI_n] at c_67
                  rw [if_pos c_67] at ev60
                  refine lv_iinc (v := (x5 + 1)) (lv' := [(5, .int (x5 + 1)), (4, .int r60), (3, .int r38), (0, .ref (zg Z 108)), (1, .ref (zg Z (2 + 7 * j))), (2, .int 0)]) hx hb dX5_either_72 hl (k := 5) rfl rfl (by decide) rfl (fun ls hl => ?_)
                  refine lv_goto (tgt := 8) hx hb dX5_either_75 (by decide) ?_
                  exact ih8 r38 r60 (x5 + 1) false true (q + 1) ((rdF t z 4 b).2.1 + 1) (if io then lo ++ (liN t z 4 ia b li) ++ [1] else (liN t z 4 ia b li)) [] v60 (by rw [hr38, c_43]) (by rw [hr60, c_67]) (by rw [hx5]; exact nI_1 _) (by omega) (by omega) (by have := isAt_lt c_67; omega) (by rw [ev60]; exact PT_at (PT_FT (by omega) hP hFT3 hat3 hF2.2.1) (isAt_lt c_67)) (by rw [ev60]; exact FT_at (by omega) hFT3) (by rw [List.append_nil, ev60]; exact TS_at (by omega) hTS3) (by rw [List.append_nil]; have z4 : bN true = 1 := rfl; have z5 : bN false = 0 := rfl; omega) (fun _ => rfl) (fun q => by cases q) (hRE.trans (rsE_or c_21 c_43 c_67)) (by omega) _ _ h ls (lv_sub hl [3, 4, 5, 2, 1, 0] rfl)
                · skip
                  rw [hr60, bI_0] at c_67
                  rw [if_neg (by rw [c_67]; decide)] at ev60
                  refine lv_iconst (v := 1) hx hb dX5_either_70 (by decide) ?_
                  exact g_nret X h dX5_either_71 rfl (RT_eq (u := v60) (hRE.trans (rsE_end c_21 c_43 c_67)) rfl (RT_yes (by rw [ev60]; exact hFT3) (by rw [ev60]; exact hat3) (by rw [ev60]; exact hTS3)))
              · skip
                rw [hx4, bI_n] at c_48
                refine lv_aload_n hx hb dX5_either_51 rfl (lv_at hl 2 rfl) ?_
                refine lv_bipush (v := (-2)) hx hb dX5_either_52 (by decide) ?_
                refine g_kv h (g_runV X h (As := [.int (-2)]) (rest := []) (c_X1_addStep gl Z v38 w (-2) (2 + 7 * j) hL (s + (lo ++ (liN t z 4 ia b li)).length) (by rw [ev38]; exact hTS2.1) (by rw [c_48] at hlen2; have z4 : bN true = 1 := rfl; have := hF2.2.1; omega)) mi_X1_addStep ml_RX5_92 (cL_0 hL) (by decide) kl1 rfl ⟨Nat.le_of_ble_eq_true rfl, Nat.le_of_ble_eq_true rfl⟩ rfl hl.1 rfl (Nat.le_of_ble_eq_true rfl) dX5_either_54) (fun v54 w54 H locs hp54 h => ?_)
                obtain ⟨ev54, rfl⟩ := Prod.mk.inj hp54
                replace ev54 := ev54.symm
                have ei : (if io then lo ++ (liN t z 4 ia b li) ++ [1] else (liN t z 4 ia b li)) = lo ++ (liN t z 4 ia b li) ++ [1] := by rw [c_48, if_pos rfl]
                have hTS3 : TS v54 (2 + 7 * j) s (if io then lo ++ (liN t z 4 ia b li) ++ [1] else (liN t z 4 ia b li)) := by
                  rw [ei]
                  exact TS_app hTS2 (by rw [ev54, ev38]; exact FT_ad (by omega)) (by rw [ev54, ev38]; exact TS_ad (t := 1) (by decide) rfl)
                have hFT3 : FT v v54 (2 + 7 * j) s := FT_trans hFT2 (by rw [ev54, ev38]; exact FT_ad (by omega)) (Nat.le_add_right _ (lo ++ (liN t z 4 ia b li)).length)
                have hat3 : v54 108 2 = nI (rdF t z 4 b).2.1 := by rw [ev54, ev38, adS, up2_ne (by omega), up2_ne (by omega)]; exact hat2
                have hlen3 : (if io then lo ++ (liN t z 4 ia b li) ++ [1] else (liN t z 4 ia b li)).length + a ≤ (rdF t z 4 b).2.1 := by
                  rw [ei, List.length_append, List.length_singleton]
                  rw [c_48] at hlen2
                  have z4 : bN true = 1 := rfl
                  omega
                refine lv_aload_n hx hb dX5_either_57 rfl (lv_at hl 1 rfl) ?_
                refine lv_bipush (v := 124) hx hb dX5_either_58 (by decide) ?_
                refine g_ki h (g_runV X h (As := [.int 124]) (rest := []) (c_X5_skip gl Z v54 w 124 t z ((rdF t z 4 b).2.1) (PT_FT (by omega) hP hFT3 hat3 hF2.2.1)) mi_X5_skip ml_RX5_35 (cc_108) (by decide) kl5 rfl ⟨Nat.le_of_ble_eq_true rfl, Nat.le_of_ble_eq_true rfl⟩ rfl hl.1 rfl (Nat.le_of_ble_eq_true rfl) dX5_either_60) (fun r60 v60 w60 H locs hp60 h => ?_)
                obtain ⟨hr60, hu60⟩ := hp60
                obtain ⟨ev60, rfl⟩ := Prod.mk.inj hu60
                replace ev60 := ev60.symm
                refine lv_istore (lv' := [(4, .int r60), (3, .int r38), (0, .ref (zg Z 108)), (1, .ref (zg Z (2 + 7 * j))), (2, .int 0), (5, .int x5)]) hx hb dX5_either_63 hl (by decide) rfl (fun ls hl => ?_)
                refine lv_iload hx hb dX5_either_65 (lv_at hl 0 rfl) ?_
                refine lv_if_ne (tgt := 72) hx hb dX5_either_67 (by decide) (fun c_67 => ?_) (fun c_67 => ?_)
                · skip
                  rw [hr60, bI_n] at c_67
                  rw [if_pos c_67] at ev60
                  refine lv_iinc (v := (x5 + 1)) (lv' := [(5, .int (x5 + 1)), (4, .int r60), (3, .int r38), (0, .ref (zg Z 108)), (1, .ref (zg Z (2 + 7 * j))), (2, .int 0)]) hx hb dX5_either_72 hl (k := 5) rfl rfl (by decide) rfl (fun ls hl => ?_)
                  refine lv_goto (tgt := 8) hx hb dX5_either_75 (by decide) ?_
                  exact ih8 r38 r60 (x5 + 1) false true (q + 1) ((rdF t z 4 b).2.1 + 1) (if io then lo ++ (liN t z 4 ia b li) ++ [1] else (liN t z 4 ia b li)) [] v60 (by rw [hr38, c_43]) (by rw [hr60, c_67]) (by rw [hx5]; exact nI_1 _) (by omega) (by omega) (by have := isAt_lt c_67; omega) (by rw [ev60]; exact PT_at (PT_FT (by omega) hP hFT3 hat3 hF2.2.1) (isAt_lt c_67)) (by rw [ev60]; exact FT_at (by omega) hFT3) (by rw [List.append_nil, ev60]; exact TS_at (by omega) hTS3) (by rw [List.append_nil]; have z4 : bN true = 1 := rfl; have z5 : bN false = 0 := rfl; omega) (fun _ => rfl) (fun q => by cases q) (hRE.trans (rsE_or c_21 c_43 c_67)) (by omega) _ _ h ls (lv_sub hl [3, 4, 5, 2, 1, 0] rfl)
                · skip
                  rw [hr60, bI_0] at c_67
                  rw [if_neg (by rw [c_67]; decide)] at ev60
                  refine lv_iconst (v := 1) hx hb dX5_either_70 (by decide) ?_
                  exact g_nret X h dX5_either_71 rfl (RT_eq (u := v60) (hRE.trans (rsE_end c_21 c_43 c_67)) rfl (RT_yes (by rw [ev60]; exact hFT3) (by rw [ev60]; exact hat3) (by rw [ev60]; exact hTS3)))
        · skip
          rw [hr18, bI_0] at c_21
          refine lv_iconst (v := 0) hx hb dX5_either_24 (by decide) ?_
          exact g_nret X h dX5_either_25 rfl (RT_eq (u := v18) (hRE.trans (rsE_n c_21)) rfl (RT_no (FT_trans (u := va) hFT hRT18.1 (Nat.le_add_right _ _)) hRT18.2.1))
  exact L8 (100 - 0 + 1) 0 0 0 false false 0 a [] [] v rfl rfl rfl (by omega) (by omega) haz hP (FT_refl _ _ _) (TS_nil hs) (by show 0 + a + 0 + 0 ≤ a; omega) (fun _ => rfl) (fun _ => rfl) rsE_0 (Nat.lt_succ_self _) _ _ h ls (lv_sub hl [3, 4, 5, 2, 1, 0] rfl)
