/-! words and clauses -/
def allF (t : Nat → Int32) (z : Nat) : List Int32 → Nat → Bool × Nat
  | [], a => (true, a)
  | b :: l, a => if isAt t z a b then allF t z l (a + 1) else (false, a)
def allS (t : Nat → Int32) (z i a : Nat) : Bool × Nat := allF t z (strB.getD i []) a
theorem up2_self {v : VV} {i k : Nat} {x : Int32} (h : v i k = x) : up2 v i k x = v := by
  funext i' k'
  show (if i' = i ∧ k' = k then x else v i' k') = v i' k'
  split
  · rename_i q; rw [q.1, q.2, h]
  · rfl
theorem up2_up2 {v : VV} {i k : Nat} {x y : Int32} : up2 (up2 v i k x) i k y = up2 v i k y := by
  funext i' k'
  simp only [up2]
  split <;> rfl
theorem allF_le {t : Nat → Int32} {z : Nat} : ∀ (l : List Int32) (a : Nat), a ≤ z → a ≤ (allF t z l a).2 ∧ (allF t z l a).2 ≤ z := by
  intro l
  induction l with
  | nil => intro a h; exact ⟨Nat.le_refl _, h⟩
  | cons b l ih =>
    intro a h
    rw [allF]
    split
    · rename_i e
      have := isAt_lt e
      have := ih (a + 1) (by omega)
      omega
    · exact ⟨Nat.le_refl _, h⟩
/-- the word that a clause begins with: 5 is none -/
def clW (t : Nat → Int32) (z a : Nat) : Nat :=
  if a < z then (if t a = 111 then 0 else if t a = 99 then 2 else if t a = 112 then 3 else if t a = 115 then (if a + 1 < z ∧ t (a + 1) = 116 then 4 else 1) else 5) else 5
/-- a clause: good, where it stands, what it says -/
def clR (t : Nat → Int32) (z a : Nat) : Bool × Nat × CLA :=
  if clW t z a = 5 then (false, a, dC)
  else if (allS t z (7 + clW t z a) a).1 = false then (false, (allS t z (7 + clW t z a) a).2, dC)
  else
    (let b := (allS t z (7 + clW t z a) a).2
     if nmC t z b = 0 then (false, b, dC)
     else if 2 ≤ clW t z a then (true, b + nmC t z b, (clW t z a, nmV t b (nmC t z b), []))
     else if isAt t z (b + nmC t z b) 32 then
       (if (rdE t z 4 (b + nmC t z b + 1)).1 then (true, (rdE t z 4 (b + nmC t z b + 1)).2.1, (clW t z a, nmV t b (nmC t z b), (rdE t z 4 (b + nmC t z b + 1)).2.2)) else (false, (rdE t z 4 (b + nmC t z b + 1)).2.1, dC))
     else (false, b + nmC t z b, dC))
set_option maxRecDepth 100000 in
set_option maxHeartbeats 1000000 in
theorem c_X8_isAll (gl : Launch) (Z : PL) (v : VV) (w : WV) (i : Nat) (hi : i < 12) (a : Nat) (z : Nat) (ha : v 116 23 = nI a) (hz : v 116 12 = nI z) (haz : a ≤ z) (hz1 : z ≤ 100) : CT gl yX8_isAll cX8_isAll 3 (some .boolean) 4 85 Z [.ref (zg Z 116), .ref (zK Z i)] v w (Qi Z (fun r u => r = bI (allS (v 124) z i a).1 ∧ (up2 v 116 23 (nI (allS (v 124) z i a).2), w) = u)) := by
  refine g_met (by decide) (Nat.le_of_ble_eq_true rfl) ?_
  intro gp ge gs gm ga gb gh gc X h ls hl
  have hx := X.1
  have hb := X.2.1
  have hl : lv_has ls 3 [(0, .ref (zg Z 116)), (1, .ref (zK Z i))] := hl
  have h8 := strN_lt hi
  refine lv_iconst (v := 0) hx hb dX8_isAll_0 (by decide) ?_
  refine lv_istore_n (lv' := [(2, .int 0), (0, .ref (zg Z 116)), (1, .ref (zK Z i))]) hx hb dX8_isAll_1 rfl hl (by decide) rfl (fun ls hl => ?_)
  have L2 : ∀ (n2 : Nat) (k : Nat) (x2 : Int32) (va : VV), (x2 = nI k) → (k ≤ strN i) → (va = up2 v 116 23 (nI (a + k))) → (a + k ≤ z) → (allS (v 124) z i a = allF (v 124) z ((strB.getD i []).drop k) (a + k)) → strN i - k < n2 → ∀ (H : Heap) (locs : List Loc), HS Z gs va w H locs → ∀ ls : Array Slot, lv_has ls 3 [(0, .ref (zg Z 116)), (1, .ref (zK Z i)), (2, .int x2)] → W gp gl ge (rmm 4 85) gs gm ga gb gh gc H locs 0 0 (MQ gb (Qi Z (fun r u => r = bI (allS (v 124) z i a).1 ∧ (up2 v 116 23 (nI (allS (v 124) z i a).2), w) = u)) ga gs 0 0 (zA Z)) (F0 gm 2 ls []) := by
    intro n2
    induction n2 with
    | zero => intro k x2 va hx2 hk hva hak e hmu; exact absurd hmu (Nat.not_lt_zero _)
    | succ n2 ih2 =>
      intro k x2 va hx2 hk hva hak e hmu2 H locs h ls hl
      have ha3 : va 116 23 = nI (a + k) := by rw [hva, up23]
      have ht3 : va 124 = v 124 := by rw [hva, up2_ne (by decide)]
      have hz3 : va 116 12 = nI z := by rw [hva, up2_at, if_neg (by decide)]; exact hz
      refine lv_iload_n hx hb dX8_isAll_2 rfl (lv_at hl 2 rfl) ?_
      refine lv_aload_n hx hb dX8_isAll_3 rfl (lv_at hl 1 rfl) ?_
      refine g_ki h (g_runVs X h (As := []) (rest := [.int x2]) (c_J0_length_8abf5 gl Z va w i (by first | decide | assumption)) mi_J0_length_8abf5 ml_RX8_158 hi rfl ⟨Nat.le_of_ble_eq_true rfl, Nat.le_of_ble_eq_true rfl⟩ rfl hl.1 rfl (Nat.le_of_ble_eq_true rfl) dX8_isAll_4) (fun r4 v4 w4 H locs hp4 h => ?_)
      obtain ⟨hr4, hu4⟩ := hp4; obtain ⟨rfl, rfl⟩ := Prod.mk.inj hu4
      refine lv_icmp_ge (tgt := 30) hx hb dX8_isAll_7 (by decide) (fun c_7 => ?_) (fun c_7 => ?_)
      · skip
        have hkn := nI_le1 (a := (strN i)) (b := k) hr4 hx2 (by omega) (by omega) c_7
        refine lv_iconst (v := 1) hx hb dX8_isAll_30 (by decide) ?_
        exact g_nret X h dX8_isAll_31 rfl (by rw [e, List.drop_eq_nil_of_le (by rw [(str_all i hi).2.2.2.1]; exact hkn)]; exact ⟨rfl, by rw [hva]; rfl⟩)
      · skip
        have hkn := nI_le0 (a := (strN i)) (b := k) hr4 hx2 (by omega) (by omega) c_7
        refine lv_aload_n hx hb dX8_isAll_10 rfl (lv_at hl 0 rfl) ?_
        refine lv_aload_n hx hb dX8_isAll_11 rfl (lv_at hl 1 rfl) ?_
        refine lv_iload_n hx hb dX8_isAll_12 rfl (lv_at hl 2 rfl) ?_
        refine g_ki h (g_runVs X h (As := [.int x2]) (rest := [.ref (zg Z 116)]) (c_J0_charAt_5068e gl Z va w i (by first | decide | assumption) x2 k hx2 hkn) mi_J0_charAt_5068e ml_RX8_163 hi rfl ⟨Nat.le_of_ble_eq_true rfl, Nat.le_of_ble_eq_true rfl⟩ rfl hl.1 rfl (Nat.le_of_ble_eq_true rfl) dX8_isAll_13) (fun r13 v13 w13 H locs hp13 h => ?_)
        obtain ⟨hr13, hu13⟩ := hp13; obtain ⟨rfl, rfl⟩ := Prod.mk.inj hu13
        refine g_ki h (g_runV X h (As := [.int r13]) (rest := []) (c_X8_is gl Z va w r13 (a + k) z ha3 hz3 hak hz1) mi_X8_is ml_RX8_167 (cc_116) (by decide) kl8 rfl ⟨Nat.le_of_ble_eq_true rfl, Nat.le_of_ble_eq_true rfl⟩ rfl hl.1 rfl (Nat.le_of_ble_eq_true rfl) dX8_isAll_16) (fun r16 v16 w16 H locs hp16 h => ?_)
        obtain ⟨hr16, hu16⟩ := hp16
        obtain ⟨hv16, rfl⟩ := Prod.mk.inj hu16
        rw [ht3, hr13] at hr16 hv16
        refine lv_if_ne (tgt := 24) hx hb dX8_isAll_19 (by decide) (fun c_19 => ?_) (fun c_19 => ?_)
        · skip
          rw [hr16, bI_n] at c_19
          rw [if_pos c_19] at hv16
          refine lv_iinc (v := (x2 + 1)) (lv' := [(2, .int (x2 + 1)), (0, .ref (zg Z 116)), (1, .ref (zK Z i))]) hx hb dX8_isAll_24 hl (k := 2) rfl rfl (by decide) rfl (fun ls hl => ?_)
          refine lv_goto (tgt := 2) hx hb dX8_isAll_27 (by decide) ?_
          exact ih2 (k + 1) (x2 + 1) v16 (by rw [hx2]; exact nI_1 _) (by omega) (by rw [← hv16, hva, up2_up2]; rfl) (by have := isAt_lt c_19; omega) (by rw [e, (str_at hi hkn).2.2.2.2, allF, if_pos c_19]; rfl) (by omega) _ _ h ls (lv_sub hl [1, 2, 0] rfl)
        · skip
          rw [hr16, bI_0] at c_19
          rw [c_19, if_neg (by decide)] at hv16
          refine lv_iconst (v := 0) hx hb dX8_isAll_22 (by decide) ?_
          exact g_nret X h dX8_isAll_23 rfl (by rw [e, (str_at hi hkn).2.2.2.2, allF, if_neg (by rw [c_19]; decide)]; exact ⟨rfl, by rw [← hv16, hva]⟩)
  exact L2 (strN i - 0 + 1) 0 0 v rfl (Nat.zero_le _) (up2_self ha).symm haz rfl (Nat.lt_succ_self _) _ _ h ls (lv_sub hl [1, 2, 0] rfl)
