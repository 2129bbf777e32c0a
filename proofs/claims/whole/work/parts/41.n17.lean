/-! the class: words, clauses, a land -/
/-- how far a word's signs stand, from a on -/
theorem allF_at {t : Nat → Int32} {z : Nat} : ∀ (l : List Int32) (a e : Nat), e ≤ l.length → (∀ k, k < e → isAt t z (a + k) (l.getD k 0) = true) → (e = l.length ∨ isAt t z (a + e) (l.getD e 0) = false) → allF t z l a = (decide (e = l.length), a + e) := by
  intro l
  induction l with
  | nil =>
    intro a e he _ _
    rw [show e = 0 by simpa using he]
    rfl
  | cons b l ih =>
    intro a e he h1 h2
    rcases Nat.eq_zero_or_pos e with q | q
    · subst q
      have h3 : isAt t z a b = false := by
        rcases h2 with h2 | h2
        · simp at h2
        · exact h2
      rw [allF, if_neg (by rw [h3]; decide)]
      simp
    · obtain ⟨e, rfl⟩ : ∃ d, e = d + 1 := ⟨e - 1, by omega⟩
      have h3 : isAt t z a b = true := h1 0 (by omega)
      rw [allF, if_pos h3, ih (a + 1) e (by simpa using he) (fun k hk => by
        have := h1 (k + 1) (by omega)
        rw [show a + (k + 1) = a + 1 + k by omega] at this
        exact this) (by
        rcases h2 with h2 | h2
        · left; simpa using h2
        · right
          rw [show a + (e + 1) = a + 1 + e by omega] at h2
          exact h2)]
      simp
      omega
theorem allF_app {t : Nat → Int32} {z : Nat} : ∀ (l l2 : List Int32) (a : Nat), allF t z (l ++ l2) a = if (allF t z l a).1 = true then allF t z l2 (allF t z l a).2 else allF t z l a := by
  intro l
  induction l with
  | nil => intro l2 a; rfl
  | cons b l ih =>
    intro l2 a
    rw [List.cons_append, allF, allF]
    split
    · exact ih l2 (a + 1)
    · rfl
theorem strB_7 : ∀ i, i < 5 → strB.getD (7 + i) [] = strB.getD i [] ++ [32] := by decide
theorem allS_7 {t : Nat → Int32} {z a i : Nat} (hi : i < 5) : allS t z (7 + i) a = if (allS t z i a).1 = true then (if isAt t z (allS t z i a).2 32 then (true, (allS t z i a).2 + 1) else (false, (allS t z i a).2)) else allS t z i a := by
  rw [allS, strB_7 i hi, allF_app]
  rfl
/-- how many signs of word i stand at a -/
def alk (t : Nat → Int32) (z a i : Nat) : Nat := (allS t z i a).2 - a
def mxA (t : Nat → Int32) (z a : Nat) : Nat → Nat
  | 0 => 0
  | i + 1 => max (mxA t z a i) (alk t z a i)
theorem all_0 {t : Nat → Int32} {z a i : Nat} (hi : i < 12) (h : isAt t z a (strC i 0) = false) : allS t z i a = (false, a) := by
  have hp := (str_all i hi).2.1
  have e := allF_at (t := t) (z := z) (strB.getD i []) a 0 (Nat.zero_le _) (fun k hk => absurd hk (Nat.not_lt_zero _)) (Or.inr h)
  rw [allS, e, decide_eq_false (by have := (str_all i hi).2.2.2.1; omega)]
  rfl
theorem all_1 {t : Nat → Int32} {z a i : Nat} (hi : i < 12) (hl : 1 < strN i) (h : isAt t z a (strC i 0) = true) (h2 : isAt t z (a + 1) (strC i 1) = false) : allS t z i a = (false, a + 1) := by
  have hn := (str_all i hi).2.2.2.1
  have e := allF_at (t := t) (z := z) (strB.getD i []) a 1 (by omega) (fun k hk => by rw [show k = 0 by omega]; exact h) (Or.inr h2)
  rw [allS, e, decide_eq_false (by omega)]
theorem all_g {t : Nat → Int32} {z a i : Nat} (hi : i < 12) (h : isAt t z a (strC i 0) = true) : a + 1 ≤ (allS t z i a).2 := by
  have hB : strB.getD i [] = strC i 0 :: (strB.getD i []).drop 1 := (str_at (k := 0) hi (str_all i hi).2.1).2.2.2.2
  have hlt := isAt_lt h
  rw [allS, hB, allF, if_pos h]
  exact (allF_le _ (a + 1) hlt).1
theorem isA_no {t : Nat → Int32} {z a : Nat} {x y : Int32} (h : a < z → t a = x) (hne : ¬ x = y) : isAt t z a y = false := by
  rcases Nat.lt_or_ge a z with q | q
  · exact isAt_f2 (by rw [h q]; exact hne)
  · rw [isAt, decide_eq_false (by omega)]; rfl
/-- the word: of the five at most one stands wholly, and it is the reference's -/
theorem word_W {t : Nat → Int32} {z a : Nat} (ha : a ≤ z) : (∀ i, i < 5 → i ≠ clW t z a → (allS t z i a).1 = false) ∧ (clW t z a = 5 → mxA t z a 5 = 0) ∧ (clW t z a < 5 → a + mxA t z a 5 = (allS t z (clW t z a) a).2) := by
  have hle : ∀ i, a ≤ (allS t z i a).2 := fun i => (allF_le _ a ha).1
  have c0 : strC 0 0 = 111 := rfl
  have c1 : strC 1 0 = 115 := rfl
  have c2 : strC 2 0 = 99 := rfl
  have c3 : strC 3 0 = 112 := rfl
  have c4 : strC 4 0 = 115 := rfl
  have d1 : strC 1 1 = 104 := rfl
  have d4 : strC 4 1 = 116 := rfl
  -- the words that don't begin so
  have no : ∀ x : Int32, (a < z → t a = x) → (x ≠ 111 → allS t z 0 a = (false, a)) ∧ (x ≠ 115 → allS t z 1 a = (false, a) ∧ allS t z 4 a = (false, a)) ∧ (x ≠ 99 → allS t z 2 a = (false, a)) ∧ (x ≠ 112 → allS t z 3 a = (false, a)) := fun x hx =>
    ⟨fun q => all_0 (by decide) (by rw [c0]; exact isA_no hx q), fun q => ⟨all_0 (by decide) (by rw [c1]; exact isA_no hx q), all_0 (by decide) (by rw [c4]; exact isA_no hx q)⟩, fun q => all_0 (by decide) (by rw [c2]; exact isA_no hx q), fun q => all_0 (by decide) (by rw [c3]; exact isA_no hx q)⟩
  have i5 : ∀ i, i < 5 → i = 0 ∨ i = 1 ∨ i = 2 ∨ i = 3 ∨ i = 4 := by omega
  have mx : mxA t z a 5 = max (max (max (max (max 0 (alk t z a 0)) (alk t z a 1)) (alk t z a 2)) (alk t z a 3)) (alk t z a 4) := rfl
  have al0 : ∀ i, allS t z i a = (false, a) → alk t z a i = 0 := fun i h => by rw [alk, h]; simp
  -- none stands: as if nothing were there
  have none : (allS t z 0 a = (false, a) ∧ allS t z 1 a = (false, a) ∧ allS t z 2 a = (false, a) ∧ allS t z 3 a = (false, a) ∧ allS t z 4 a = (false, a)) → clW t z a = 5 → (∀ i, i < 5 → i ≠ clW t z a → (allS t z i a).1 = false) ∧ (clW t z a = 5 → mxA t z a 5 = 0) ∧ (clW t z a < 5 → a + mxA t z a 5 = (allS t z (clW t z a) a).2) := by
    rintro ⟨h0, h1, h2, h3, h4⟩ hc
    refine ⟨fun i hi _ => ?_, fun _ => ?_, fun q => absurd q (by omega)⟩
    · rcases i5 i hi with rfl | rfl | rfl | rfl | rfl
      · rw [h0]
      · rw [h1]
      · rw [h2]
      · rw [h3]
      · rw [h4]
    · rw [mx, al0 0 h0, al0 1 h1, al0 2 h2, al0 3 h3, al0 4 h4]; rfl
  rcases Nat.lt_or_ge a z with hz | hz
  · by_cases e1 : t a = 111
    · obtain ⟨-, n2, n3, n4⟩ := no 111 (fun _ => e1)
      have h1 := (n2 (by decide)).1
      have h4 := (n2 (by decide)).2
      have h2 := n3 (by decide)
      have h3 := n4 (by decide)
      have hc : clW t z a = 0 := by unfold clW; rw [if_pos hz, if_pos e1]
      have := hle 0
      refine ⟨fun i hi hne => ?_, fun q => absurd q (by omega), fun _ => ?_⟩
      · rcases i5 i hi with rfl | rfl | rfl | rfl | rfl
        · exact absurd hc.symm hne
        · rw [h1]
        · rw [h2]
        · rw [h3]
        · rw [h4]
      · rw [hc, mx, al0 1 h1, al0 2 h2, al0 3 h3, al0 4 h4, alk]; omega
    by_cases e2 : t a = 99
    · obtain ⟨n1, n2, -, n4⟩ := no 99 (fun _ => e2)
      have h0 := n1 (by decide)
      have h1 := (n2 (by decide)).1
      have h4 := (n2 (by decide)).2
      have h3 := n4 (by decide)
      have hc : clW t z a = 2 := by unfold clW; rw [if_pos hz, if_neg e1, if_pos e2]
      have := hle 2
      refine ⟨fun i hi hne => ?_, fun q => absurd q (by omega), fun _ => ?_⟩
      · rcases i5 i hi with rfl | rfl | rfl | rfl | rfl
        · rw [h0]
        · rw [h1]
        · exact absurd hc.symm hne
        · rw [h3]
        · rw [h4]
      · rw [hc, mx, al0 0 h0, al0 1 h1, al0 3 h3, al0 4 h4, alk]; omega
    by_cases e3 : t a = 112
    · obtain ⟨n1, n2, n3, -⟩ := no 112 (fun _ => e3)
      have h0 := n1 (by decide)
      have h1 := (n2 (by decide)).1
      have h4 := (n2 (by decide)).2
      have h2 := n3 (by decide)
      have hc : clW t z a = 3 := by unfold clW; rw [if_pos hz, if_neg e1, if_neg e2, if_pos e3]
      have := hle 3
      refine ⟨fun i hi hne => ?_, fun q => absurd q (by omega), fun _ => ?_⟩
      · rcases i5 i hi with rfl | rfl | rfl | rfl | rfl
        · rw [h0]
        · rw [h1]
        · rw [h2]
        · exact absurd hc.symm hne
        · rw [h4]
      · rw [hc, mx, al0 0 h0, al0 1 h1, al0 2 h2, al0 4 h4, alk]; omega
    by_cases e4 : t a = 115
    · obtain ⟨n1, -, n3, n4⟩ := no 115 (fun _ => e4)
      have h0 := n1 (by decide)
      have h2 := n3 (by decide)
      have h3 := n4 (by decide)
      have k1 : isAt t z a (strC 1 0) = true := isAt_t hz (by rw [c1]; exact e4)
      have k4 : isAt t z a (strC 4 0) = true := isAt_t hz (by rw [c4]; exact e4)
      by_cases e5 : a + 1 < z ∧ t (a + 1) = 116
      · have h1 : allS t z 1 a = (false, a + 1) := all_1 (by decide) (by decide) k1 (by rw [d1]; exact isAt_f2 (by rw [e5.2]; decide))
        have hc : clW t z a = 4 := by unfold clW; rw [if_pos hz, if_neg e1, if_neg e2, if_neg e3, if_pos e4, if_pos e5]
        have g4 := all_g (i := 4) (by decide) k4
        refine ⟨fun i hi hne => ?_, fun q => absurd q (by omega), fun _ => ?_⟩
        · rcases i5 i hi with rfl | rfl | rfl | rfl | rfl
          · rw [h0]
          · rw [h1]
          · rw [h2]
          · rw [h3]
          · exact absurd hc.symm hne
        · rw [hc, mx, al0 0 h0, al0 2 h2, al0 3 h3, alk, alk, h1]
          show a + max (max (max (max 0 0) (a + 1 - a)) 0 |> fun y => max y 0) ((allS t z 4 a).2 - a) = _
          simp only
          omega
      · have h4 : allS t z 4 a = (false, a + 1) := all_1 (by decide) (by decide) k4 (by
          rw [d4]
          rcases Nat.lt_or_ge (a + 1) z with q | q
          · exact isAt_f2 (fun q2 => e5 ⟨q, q2⟩)
          · rw [isAt, decide_eq_false (by omega)]; rfl)
        have hc : clW t z a = 1 := by unfold clW; rw [if_pos hz, if_neg e1, if_neg e2, if_neg e3, if_pos e4, if_neg e5]
        have g1 := all_g (i := 1) (by decide) k1
        refine ⟨fun i hi hne => ?_, fun q => absurd q (by omega), fun _ => ?_⟩
        · rcases i5 i hi with rfl | rfl | rfl | rfl | rfl
          · rw [h0]
          · exact absurd hc.symm hne
          · rw [h2]
          · rw [h3]
          · rw [h4]
        · rw [hc, mx, al0 0 h0, al0 2 h2, al0 3 h3, alk, alk, h4]
          show a + max (max (max (max 0 0) ((allS t z 1 a).2 - a)) 0 |> fun y => max y 0) (a + 1 - a) = _
          simp only
          omega
    · obtain ⟨n1, n2, n3, n4⟩ := no (t a) (fun _ => rfl)
      exact none ⟨n1 e1, (n2 e4).1, n3 e2, n4 e3, (n2 e4).2⟩ (by unfold clW; rw [if_pos hz, if_neg e1, if_neg e2, if_neg e3, if_neg e4])
  · obtain ⟨n1, n2, n3, n4⟩ := no 0 (fun q => absurd q (by omega))
    exact none ⟨n1 (by decide), (n2 (by decide)).1, n3 (by decide), n4 (by decide), (n2 (by decide)).2⟩ (by unfold clW; rw [if_neg (by omega)])
theorem clW_at {t : Nat → Int32} {z a wd e : Nat} (ha : a ≤ z) (h9 : allS t z wd a = (true, a + e)) (hw : wd < 5 := by omega) : wd = clW t z a := by
  rcases Decidable.em (wd = clW t z a) with q | q
  · exact q
  · have := (word_W ha).1 wd hw q
    rw [h9] at this
    cases this
theorem imax_nI {a b : Nat} (ha : a < 2 ^ 31) (hb : b < 2 ^ 31) : (if nI a < nI b then nI b else nI a) = nI (max a b) := by
  rcases Nat.lt_or_ge a b with q | q
  · rw [if_pos (nI_lt q hb), Nat.max_eq_right (by omega)]
  · rw [if_neg (nI_nlt q ha), Nat.max_eq_left q]
theorem isA_z {t : Nat → Int32} {z a : Nat} {x : Int32} (h : z ≤ a) : isAt t z a x = false := by rw [isAt, decide_eq_false (by omega)]; rfl
set_option maxRecDepth 100000 in
set_option maxHeartbeats 1000000 in
theorem c_X5_nameOf (gl : Launch) (Z : PL) (v : VV) (w : WV) (x0 : Int32) (k : Nat) (hk : x0 = nI k) (hk5 : k < 5) : CT gl yX5_nameOf cX5_nameOf 1 (some (.object "java/lang/String")) 0 0 Z [.int x0] v w (Qs Z k (fun u => (v, w) = u)) := by
  refine g_met (by decide) (Nat.le_of_ble_eq_true rfl) ?_
  intro gp ge gs gm ga gb gh gc X h ls hl
  have hx := X.1
  have hb := X.2.1
  have hl : lv_has ls 1 [(0, .int x0)] := hl
  refine lv_iload_n hx hb dX5_nameOf_0 rfl (lv_at hl 0 rfl) ?_
  by_cases t1_0 : x0 = 0
  · refine lv_tableIn (off := 31) (tgt := 32) hx hb dX5_nameOf_1 (by rw [t1_0]; decide) (by rw [t1_0]; decide) (by rw [t1_0]; rfl) (by decide) ?_
    obtain rfl : k = 0 := nI_eq1 (b := 0) hk rfl (by omega) (by omega) t1_0
    refine g_ldcs X sE_0 dX5_nameOf_32 ?_
    exact g_sret X h dX5_nameOf_34 rfl
  · skip
    by_cases t1_1 : x0 = 1
    · refine lv_tableIn (off := 34) (tgt := 35) hx hb dX5_nameOf_1 (by rw [t1_1]; decide) (by rw [t1_1]; decide) (by rw [t1_1]; rfl) (by decide) ?_
      obtain rfl : k = 1 := nI_eq1 (b := 1) hk rfl (by omega) (by omega) t1_1
      refine g_ldcs X sE_1 dX5_nameOf_35 ?_
      exact g_sret X h dX5_nameOf_37 rfl
    · skip
      by_cases t1_2 : x0 = 2
      · refine lv_tableIn (off := 37) (tgt := 38) hx hb dX5_nameOf_1 (by rw [t1_2]; decide) (by rw [t1_2]; decide) (by rw [t1_2]; rfl) (by decide) ?_
        obtain rfl : k = 2 := nI_eq1 (b := 2) hk rfl (by omega) (by omega) t1_2
        refine g_ldcs X sE_2 dX5_nameOf_38 ?_
        exact g_sret X h dX5_nameOf_40 rfl
      · skip
        by_cases t1_3 : x0 = 3
        · refine lv_tableIn (off := 40) (tgt := 41) hx hb dX5_nameOf_1 (by rw [t1_3]; decide) (by rw [t1_3]; decide) (by rw [t1_3]; rfl) (by decide) ?_
          obtain rfl : k = 3 := nI_eq1 (b := 3) hk rfl (by omega) (by omega) t1_3
          refine g_ldcs X sE_3 dX5_nameOf_41 ?_
          exact g_sret X h dX5_nameOf_43 rfl
        · skip
          have q0 := lv_neT t1_0 (a := 0) (by decide)
          have q1 := lv_neT t1_1 (a := 1) (by decide)
          have q2 := lv_neT t1_2 (a := 2) (by decide)
          have q3 := lv_neT t1_3 (a := 3) (by decide)
          refine lv_tableOut (tgt := 44) hx hb dX5_nameOf_1 (by omega) (by decide) ?_
          have e0 := nI_eq0 (b := 0) hk rfl t1_0
          have e1 := nI_eq0 (b := 1) hk rfl t1_1
          have e2 := nI_eq0 (b := 2) hk rfl t1_2
          have e3 := nI_eq0 (b := 3) hk rfl t1_3
          obtain rfl : k = 4 := by omega
          have q0 := lv_neT t1_0 (a := 0) (by decide)
          have q1 := lv_neT t1_1 (a := 1) (by decide)
          refine g_ldcs X sE_4 dX5_nameOf_44 ?_
          exact g_sret X h dX5_nameOf_46 rfl

set_option maxRecDepth 100000 in
set_option maxHeartbeats 1000000 in
theorem c_X5_word (gl : Launch) (Z : PL) (v : VV) (w : WV) (t : Nat → Int32) (z : Nat) (a : Nat) (hP : PT v t z a) : CT gl yX5_word cX5_word 5 (some .int) 4 85 Z [.ref (zg Z 108)] v w (Qi Z (fun r u => (u.1, w) = u ∧ (clW t z a = 5 → r = -1 ∧ u.1 = v) ∧ (clW t z a < 5 → r = (if (allS t z (clW t z a) a).1 then nI (clW t z a) else -1) ∧ u.1 = up2 v 108 2 (nI (allS t z (clW t z a) a).2)))) := by
  refine g_met (by decide) (Nat.le_of_ble_eq_true rfl) ?_
  intro gp ge gs gm ga gb gh gc X h ls hl
  have hx := X.1
  have hb := X.2.1
  have hl : lv_has ls 5 [(0, .ref (zg Z 108))] := hl
  obtain ⟨ht, hz, ha, hz1, haz, hch⟩ := id hP
  refine lv_iconst (v := 0) hx hb dX5_word_0 (by decide) ?_
  refine lv_istore_n (lv' := [(1, .int 0), (0, .ref (zg Z 108))]) hx hb dX5_word_1 rfl hl (by decide) rfl (fun ls hl => ?_)
  refine lv_iconst (v := 0) hx hb dX5_word_2 (by decide) ?_
  refine lv_istore_n (lv' := [(2, .int 0), (1, .int 0), (0, .ref (zg Z 108))]) hx hb dX5_word_3 rfl hl (by decide) rfl (fun ls hl => ?_)
  have L4 : ∀ (n4 : Nat) (wd m : Nat) (x1 x2 : Int32), (x2 = nI wd) → (wd ≤ 5) → (x1 = nI m) → (m = mxA t z a wd) → (∀ i, i < wd → (allS t z i a).1 = false) → (a + m ≤ z) → 5 - wd < n4 → ∀ (H : Heap) (locs : List Loc), HS Z gs v w H locs → ∀ ls : Array Slot, lv_has ls 5 [(0, .ref (zg Z 108)), (1, .int x1), (2, .int x2)] → W gp gl ge (rmm 4 85) gs gm ga gb gh gc H locs 0 0 (MQ gb (Qi Z (fun r u => (u.1, w) = u ∧ (clW t z a = 5 → r = -1 ∧ u.1 = v) ∧ (clW t z a < 5 → r = (if (allS t z (clW t z a) a).1 then nI (clW t z a) else -1) ∧ u.1 = up2 v 108 2 (nI (allS t z (clW t z a) a).2)))) ga gs 0 0 (zA Z)) (F0 gm 4 ls []) := by
    intro n4
    induction n4 with
    | zero => intro wd m x1 x2 hx2 hwd hx1 hm hno hmz hmu; exact absurd hmu (Nat.not_lt_zero _)
    | succ n4 ih4 =>
      intro wd m x1 x2 hx2 hwd hx1 hm hno hmz hmu4 H locs h ls hl
      refine lv_iload_n hx hb dX5_word_4 rfl (lv_at hl 2 rfl) ?_
      refine lv_iconst (v := 5) hx hb dX5_word_5 (by decide) ?_
      refine lv_icmp_ge (tgt := 102) hx hb dX5_word_6 (by decide) (fun c_6 => ?_) (fun c_6 => ?_)
      · skip
        have hw5 := nI_le1 (a := 5) (b := wd) rfl hx2 (by omega) (by omega) c_6
        refine lv_aload_n hx hb dX5_word_102 rfl (lv_at hl 0 rfl) ?_
        refine lv_dup hx hb dX5_word_103 rfl ?_
        refine g_geti X h (k := 2) (cc_108) fr_RX5_28 rfl (by decide) dX5_word_104 ?_
        refine lv_iload_n hx hb dX5_word_107 rfl (lv_at hl 1 rfl) ?_
        refine lv_iadd hx hb dX5_word_108 ?_
        refine g_puti X h (k := 2) (cc_108) fp_RX5_28 rfl (by decide) dX5_word_109 (fun v109 H locs ev109 h => ?_)
        refine lv_iconst (v := (-1)) hx hb dX5_word_112 (by decide) ?_
        exact g_iret X h dX5_word_113 (by obtain ⟨w1, w2, w3⟩ := word_W (t := t) haz; rw [show wd = 5 by omega] at hm hno; refine ⟨rfl, (fun q => ⟨rfl, ?_⟩), (fun q => ⟨?_, ?_⟩)⟩; (show v109 = v; rw [ev109, hx1, hm, w2 q, ha, nI_add, Nat.add_zero]; exact up2_self ha); (rw [hno _ q, if_neg (by decide)]); (show v109 = _; rw [ev109, ha, hx1, nI_add, ← w3 q, hm]))
      · skip
        have hwd5 := nI_le0 (a := 5) (b := wd) rfl hx2 (by omega) (by omega) c_6
        have h12 : wd < 12 := by omega
        have hN8 := strN_lt h12
        have hNp := (str_all wd h12).2.1
        have hNl := (str_all wd h12).2.2.2.1
        refine lv_iload_n hx hb dX5_word_9 rfl (lv_at hl 2 rfl) ?_
        refine g_ks h (g_runS X h (As := [.int x2]) (rest := []) (c_X5_nameOf gl Z v w x2 wd hx2 hwd5) ms_X5_nameOf ml_RX5_63 ⟨Nat.le_of_ble_eq_true rfl, Nat.le_of_ble_eq_true rfl⟩ rfl hl.1 rfl (Nat.le_of_ble_eq_true rfl) dX5_word_10) (fun v10 w10 H locs hp10 h => ?_)
        obtain ⟨rfl, rfl⟩ := Prod.mk.inj hp10
        refine lv_astore_n (lv' := [(3, .ref (zK Z wd)), (0, .ref (zg Z 108)), (1, .int x1), (2, .int x2)]) hx hb dX5_word_13 rfl hl (by decide) rfl (fun ls hl => ?_)
        refine lv_iconst (v := 0) hx hb dX5_word_14 (by decide) ?_
        refine lv_istore (lv' := [(4, .int 0), (3, .ref (zK Z wd)), (0, .ref (zg Z 108)), (1, .int x1), (2, .int x2)]) hx hb dX5_word_15 hl (by decide) rfl (fun ls hl => ?_)
        have L17 : ∀ (n17 : Nat) (e : Nat) (x4 : Int32), (x4 = nI e) → (e ≤ strN wd) → (a + e ≤ z) → (∀ k, k < e → isAt t z (a + k) (strC wd k) = true) → strN wd - e < n17 → ∀ (H : Heap) (locs : List Loc), HS Z gs v w H locs → ∀ ls : Array Slot, lv_has ls 5 [(0, .ref (zg Z 108)), (1, .int x1), (2, .int x2), (3, .ref (zK Z wd)), (4, .int x4)] → W gp gl ge (rmm 4 85) gs gm ga gb gh gc H locs 0 0 (MQ gb (Qi Z (fun r u => (u.1, w) = u ∧ (clW t z a = 5 → r = -1 ∧ u.1 = v) ∧ (clW t z a < 5 → r = (if (allS t z (clW t z a) a).1 then nI (clW t z a) else -1) ∧ u.1 = up2 v 108 2 (nI (allS t z (clW t z a) a).2)))) ga gs 0 0 (zA Z)) (F0 gm 17 ls []) := by
          intro n17
          induction n17 with
          | zero => intro e x4 hx4 heN haez hal hmu; exact absurd hmu (Nat.not_lt_zero _)
          | succ n17 ih17 =>
            intro e x4 hx4 heN haez hal hmu17 H locs h ls hl
            refine lv_iload hx hb dX5_word_17 (lv_at hl 4 rfl) ?_
            refine lv_aload_n hx hb dX5_word_19 rfl (lv_at hl 3 rfl) ?_
            refine g_ki h (g_runVs X h (As := []) (rest := [.int x4]) (c_J0_length_8abf5 gl Z v w wd (by omega)) mi_J0_length_8abf5 ml_RX5_67 (by omega) rfl ⟨Nat.le_of_ble_eq_true rfl, Nat.le_of_ble_eq_true rfl⟩ rfl hl.1 rfl (Nat.le_of_ble_eq_true rfl) dX5_word_20) (fun r20 v20 w20 H locs hp20 h => ?_)
            obtain ⟨hr20, hu20⟩ := hp20; obtain ⟨rfl, rfl⟩ := Prod.mk.inj hu20
            refine lv_icmp_ge (tgt := 67) hx hb dX5_word_23 (by decide) (fun c_23 => ?_) (fun c_23 => ?_)
            · skip
              have hee := nI_le1 (a := (strN wd)) (b := e) hr20 hx4 (by omega) (by omega) c_23
              have h9 : allS t z wd a = (decide (e = strN wd), a + e) := by
                have q := allF_at (t := t) (z := z) (strB.getD wd []) a e (by omega) hal (Or.inl (by omega))
                rw [allS, q, hNl]
              refine lv_iload hx hb dX5_word_67 (lv_at hl 4 rfl) ?_
              refine lv_aload_n hx hb dX5_word_69 rfl (lv_at hl 3 rfl) ?_
              refine g_ki h (g_runVs X h (As := []) (rest := [.int x4]) (c_J0_length_8abf5 gl Z v w wd (by omega)) mi_J0_length_8abf5 ml_RX5_67 (by omega) rfl ⟨Nat.le_of_ble_eq_true rfl, Nat.le_of_ble_eq_true rfl⟩ rfl hl.1 rfl (Nat.le_of_ble_eq_true rfl) dX5_word_70) (fun r70 v70 w70 H locs hp70 h => ?_)
              obtain ⟨hr70, hu70⟩ := hp70; obtain ⟨rfl, rfl⟩ := Prod.mk.inj hu70
              refine lv_icmp_ne (tgt := 89) hx hb dX5_word_73 (by decide) (fun c_73 => ?_) (fun c_73 => ?_)
              · skip
                have hne : ¬ e = strN wd := fun q => c_73 (by rw [hx4, hr70, q])
                rw [decide_eq_false hne] at h9
                refine lv_iload_n hx hb dX5_word_89 rfl (lv_at hl 1 rfl) ?_
                refine lv_iload hx hb dX5_word_90 (lv_at hl 4 rfl) ?_
                refine g_max X hl.1 ml_RX5_76 ⟨Nat.le_of_ble_eq_true rfl, Nat.le_of_ble_eq_true rfl⟩ (Nat.le_of_ble_eq_true rfl) dX5_word_92 ?_
                refine lv_topi (fun x1_95 ex1_95 => ?_)
                refine lv_istore_n (lv' := [(1, .int x1_95), (0, .ref (zg Z 108)), (2, .int x2), (3, .ref (zK Z wd)), (4, .int x4)]) hx hb dX5_word_95 rfl hl (by decide) rfl (fun ls hl => ?_)
                refine lv_iinc (v := (x2 + 1)) (lv' := [(2, .int (x2 + 1)), (1, .int x1_95), (0, .ref (zg Z 108)), (3, .ref (zK Z wd)), (4, .int x4)]) hx hb dX5_word_96 hl (k := 2) rfl rfl (by decide) rfl (fun ls hl => ?_)
                refine lv_goto (tgt := 4) hx hb dX5_word_99 (by decide) ?_
                exact ih4 (wd + 1) (max m e) x1_95 (x2 + 1) (by rw [hx2]; exact nI_1 _) (by omega) (by rw [ex1_95, hx1, hx4]; exact imax_nI (by omega) (by omega)) (by rw [hm, mxA, alk, h9]; simp) (fun i hi => if q : i = wd then (by rw [q, h9]) else hno i (by omega)) (by omega) (by omega) _ _ h ls (lv_sub hl [2, 1, 0] rfl)
              · skip
                have heq : e = strN wd := nI_inj (by omega) (by omega) (hx4.symm.trans (c_73.trans hr70))
                refine lv_aload_n hx hb dX5_word_76 rfl (lv_at hl 0 rfl) ?_
                refine lv_dup hx hb dX5_word_77 rfl ?_
                refine g_geti X h (k := 2) (cc_108) fr_RX5_28 rfl (by decide) dX5_word_78 ?_
                refine lv_iload hx hb dX5_word_81 (lv_at hl 4 rfl) ?_
                refine lv_iadd hx hb dX5_word_83 ?_
                rw [decide_eq_true heq] at h9
                refine g_puti X h (k := 2) (cc_108) fp_RX5_28 rfl (by decide) dX5_word_84 (fun v84 H locs ev84 h => ?_)
                refine lv_iload_n hx hb dX5_word_87 rfl (lv_at hl 2 rfl) ?_
                exact g_iret X h dX5_word_88 ⟨rfl, (fun q => absurd (clW_at haz h9) (by omega)), (fun _ => by rw [← clW_at haz h9, h9]; exact ⟨hx2, by show v84 = _; rw [ev84, ha, hx4, nI_add]⟩)⟩
            · skip
              have hee := nI_le0 (a := (strN wd)) (b := e) hr20 hx4 (by omega) (by omega) c_23
              refine lv_aload_n hx hb dX5_word_26 rfl (lv_at hl 0 rfl) ?_
              refine g_geti X h (k := 2) (cc_108) fr_RX5_28 rfl (by decide) dX5_word_27 ?_
              refine lv_iload hx hb dX5_word_30 (lv_at hl 4 rfl) ?_
              refine lv_iadd hx hb dX5_word_32 ?_
              refine lv_aload_n hx hb dX5_word_33 rfl (lv_at hl 0 rfl) ?_
              refine g_geti X h (k := 1) (cc_108) fr_RX5_15 rfl (by decide) dX5_word_34 ?_
              refine lv_icmp_ge (tgt := 67) hx hb dX5_word_37 (by decide) (fun c_37 => ?_) (fun c_37 => ?_)
              · skip
                have hze := nI_le1 (a := z) (b := (a + e)) hz (show v 108 2 + x4 = nI (a + e) by rw [ha, hx4]; exact nI_add _ _) (by omega) (by omega) c_37
                have h9 : allS t z wd a = (decide (e = strN wd), a + e) := by
                  have q := allF_at (t := t) (z := z) (strB.getD wd []) a e (by omega) hal (Or.inr (isA_z hze))
                  rw [allS, q, hNl]
                refine lv_iload hx hb dX5_word_67 (lv_at hl 4 rfl) ?_
                refine lv_aload_n hx hb dX5_word_69 rfl (lv_at hl 3 rfl) ?_
                refine g_ki h (g_runVs X h (As := []) (rest := [.int x4]) (c_J0_length_8abf5 gl Z v w wd (by omega)) mi_J0_length_8abf5 ml_RX5_67 (by omega) rfl ⟨Nat.le_of_ble_eq_true rfl, Nat.le_of_ble_eq_true rfl⟩ rfl hl.1 rfl (Nat.le_of_ble_eq_true rfl) dX5_word_70) (fun r70 v70 w70 H locs hp70 h => ?_)
                obtain ⟨hr70, hu70⟩ := hp70; obtain ⟨rfl, rfl⟩ := Prod.mk.inj hu70
                refine lv_icmp_ne (tgt := 89) hx hb dX5_word_73 (by decide) (fun c_73 => ?_) (fun c_73 => ?_)
                · skip
                  have hne : ¬ e = strN wd := fun q => c_73 (by rw [hx4, hr70, q])
                  rw [decide_eq_false hne] at h9
                  refine lv_iload_n hx hb dX5_word_89 rfl (lv_at hl 1 rfl) ?_
                  refine lv_iload hx hb dX5_word_90 (lv_at hl 4 rfl) ?_
                  refine g_max X hl.1 ml_RX5_76 ⟨Nat.le_of_ble_eq_true rfl, Nat.le_of_ble_eq_true rfl⟩ (Nat.le_of_ble_eq_true rfl) dX5_word_92 ?_
                  refine lv_topi (fun x1_95 ex1_95 => ?_)
                  refine lv_istore_n (lv' := [(1, .int x1_95), (0, .ref (zg Z 108)), (2, .int x2), (3, .ref (zK Z wd)), (4, .int x4)]) hx hb dX5_word_95 rfl hl (by decide) rfl (fun ls hl => ?_)
                  refine lv_iinc (v := (x2 + 1)) (lv' := [(2, .int (x2 + 1)), (1, .int x1_95), (0, .ref (zg Z 108)), (3, .ref (zK Z wd)), (4, .int x4)]) hx hb dX5_word_96 hl (k := 2) rfl rfl (by decide) rfl (fun ls hl => ?_)
                  refine lv_goto (tgt := 4) hx hb dX5_word_99 (by decide) ?_
                  exact ih4 (wd + 1) (max m e) x1_95 (x2 + 1) (by rw [hx2]; exact nI_1 _) (by omega) (by rw [ex1_95, hx1, hx4]; exact imax_nI (by omega) (by omega)) (by rw [hm, mxA, alk, h9]; simp) (fun i hi => if q : i = wd then (by rw [q, h9]) else hno i (by omega)) (by omega) (by omega) _ _ h ls (lv_sub hl [2, 1, 0] rfl)
                · skip
                  have heq : e = strN wd := nI_inj (by omega) (by omega) (hx4.symm.trans (c_73.trans hr70))
                  refine lv_aload_n hx hb dX5_word_76 rfl (lv_at hl 0 rfl) ?_
                  refine lv_dup hx hb dX5_word_77 rfl ?_
                  refine g_geti X h (k := 2) (cc_108) fr_RX5_28 rfl (by decide) dX5_word_78 ?_
                  refine lv_iload hx hb dX5_word_81 (lv_at hl 4 rfl) ?_
                  refine lv_iadd hx hb dX5_word_83 ?_
                  rw [decide_eq_true heq] at h9
                  refine g_puti X h (k := 2) (cc_108) fp_RX5_28 rfl (by decide) dX5_word_84 (fun v84 H locs ev84 h => ?_)
                  refine lv_iload_n hx hb dX5_word_87 rfl (lv_at hl 2 rfl) ?_
                  exact g_iret X h dX5_word_88 ⟨rfl, (fun q => absurd (clW_at haz h9) (by omega)), (fun _ => by rw [← clW_at haz h9, h9]; exact ⟨hx2, by show v84 = _; rw [ev84, ha, hx4, nI_add]⟩)⟩
              · skip
                have hze := nI_le0 (a := z) (b := (a + e)) hz (show v 108 2 + x4 = nI (a + e) by rw [ha, hx4]; exact nI_add _ _) (by omega) (by omega) c_37
                refine lv_aload_n hx hb dX5_word_40 rfl (lv_at hl 0 rfl) ?_
                refine g_getr X h (k := 0) (t := 109) (cc_108) fr_RX5_11 rfl (by decide) (by decide) (by decide) dX5_word_41 ?_
                refine lv_aload_n hx hb dX5_word_44 rfl (lv_at hl 0 rfl) ?_
                refine g_geti X h (k := 2) (cc_108) fr_RX5_28 rfl (by decide) dX5_word_45 ?_
                refine lv_iload hx hb dX5_word_48 (lv_at hl 4 rfl) ?_
                refine lv_iadd hx hb dX5_word_50 ?_
                refine g_bald X h (k := (a + e)) (cc_109) (by rw [show ((v 108 2)) = nI a from ha, show (x4) = nI e from hx4, nI_add]) (by omega) (by decide) dX5_word_51 ?_
                refine lv_aload_n hx hb dX5_word_52 rfl (lv_at hl 3 rfl) ?_
                refine lv_iload hx hb dX5_word_53 (lv_at hl 4 rfl) ?_
                refine g_ki h (g_runVs X h (As := [.int x4]) (rest := [.int (v 109 (a + e))]) (c_J0_charAt_5068e gl Z v w wd (by omega) x4 e hx4 (by omega)) mi_J0_charAt_5068e ml_RX5_72 (by omega) rfl ⟨Nat.le_of_ble_eq_true rfl, Nat.le_of_ble_eq_true rfl⟩ rfl hl.1 rfl (Nat.le_of_ble_eq_true rfl) dX5_word_55) (fun r55 v55 w55 H locs hp55 h => ?_)
                obtain ⟨hr55, hu55⟩ := hp55; obtain ⟨rfl, rfl⟩ := Prod.mk.inj hu55
                refine lv_icmp_ne (tgt := 67) hx hb dX5_word_58 (by decide) (fun c_58 => ?_) (fun c_58 => ?_)
                · skip
                  have hxx : isAt t z (a + e) (strC wd e) = false := isAt_f2 (by rw [← ht, ← hr55]; exact c_58)
                  have h9 : allS t z wd a = (decide (e = strN wd), a + e) := by
                    have q := allF_at (t := t) (z := z) (strB.getD wd []) a e (by omega) hal (Or.inr hxx)
                    rw [allS, q, hNl]
                  refine lv_iload hx hb dX5_word_67 (lv_at hl 4 rfl) ?_
                  refine lv_aload_n hx hb dX5_word_69 rfl (lv_at hl 3 rfl) ?_
                  refine g_ki h (g_runVs X h (As := []) (rest := [.int x4]) (c_J0_length_8abf5 gl Z v w wd (by omega)) mi_J0_length_8abf5 ml_RX5_67 (by omega) rfl ⟨Nat.le_of_ble_eq_true rfl, Nat.le_of_ble_eq_true rfl⟩ rfl hl.1 rfl (Nat.le_of_ble_eq_true rfl) dX5_word_70) (fun r70 v70 w70 H locs hp70 h => ?_)
                  obtain ⟨hr70, hu70⟩ := hp70; obtain ⟨rfl, rfl⟩ := Prod.mk.inj hu70
                  refine lv_icmp_ne (tgt := 89) hx hb dX5_word_73 (by decide) (fun c_73 => ?_) (fun c_73 => ?_)
                  · skip
                    have hne : ¬ e = strN wd := fun q => c_73 (by rw [hx4, hr70, q])
                    rw [decide_eq_false hne] at h9
                    refine lv_iload_n hx hb dX5_word_89 rfl (lv_at hl 1 rfl) ?_
                    refine lv_iload hx hb dX5_word_90 (lv_at hl 4 rfl) ?_
                    refine g_max X hl.1 ml_RX5_76 ⟨Nat.le_of_ble_eq_true rfl, Nat.le_of_ble_eq_true rfl⟩ (Nat.le_of_ble_eq_true rfl) dX5_word_92 ?_
                    refine lv_topi (fun x1_95 ex1_95 => ?_)
                    refine lv_istore_n (lv' := [(1, .int x1_95), (0, .ref (zg Z 108)), (2, .int x2), (3, .ref (zK Z wd)), (4, .int x4)]) hx hb dX5_word_95 rfl hl (by decide) rfl (fun ls hl => ?_)
                    refine lv_iinc (v := (x2 + 1)) (lv' := [(2, .int (x2 + 1)), (1, .int x1_95), (0, .ref (zg Z 108)), (3, .ref (zK Z wd)), (4, .int x4)]) hx hb dX5_word_96 hl (k := 2) rfl rfl (by decide) rfl (fun ls hl => ?_)
                    refine lv_goto (tgt := 4) hx hb dX5_word_99 (by decide) ?_
                    exact ih4 (wd + 1) (max m e) x1_95 (x2 + 1) (by rw [hx2]; exact nI_1 _) (by omega) (by rw [ex1_95, hx1, hx4]; exact imax_nI (by omega) (by omega)) (by rw [hm, mxA, alk, h9]; simp) (fun i hi => if q : i = wd then (by rw [q, h9]) else hno i (by omega)) (by omega) (by omega) _ _ h ls (lv_sub hl [2, 1, 0] rfl)
                  · skip
                    have heq : e = strN wd := nI_inj (by omega) (by omega) (hx4.symm.trans (c_73.trans hr70))
                    refine lv_aload_n hx hb dX5_word_76 rfl (lv_at hl 0 rfl) ?_
                    refine lv_dup hx hb dX5_word_77 rfl ?_
                    refine g_geti X h (k := 2) (cc_108) fr_RX5_28 rfl (by decide) dX5_word_78 ?_
                    refine lv_iload hx hb dX5_word_81 (lv_at hl 4 rfl) ?_
                    refine lv_iadd hx hb dX5_word_83 ?_
                    rw [decide_eq_true heq] at h9
                    refine g_puti X h (k := 2) (cc_108) fp_RX5_28 rfl (by decide) dX5_word_84 (fun v84 H locs ev84 h => ?_)
                    refine lv_iload_n hx hb dX5_word_87 rfl (lv_at hl 2 rfl) ?_
                    exact g_iret X h dX5_word_88 ⟨rfl, (fun q => absurd (clW_at haz h9) (by omega)), (fun _ => by rw [← clW_at haz h9, h9]; exact ⟨hx2, by show v84 = _; rw [ev84, ha, hx4, nI_add]⟩)⟩
                · skip
                  have hae : isAt t z (a + e) (strC wd e) = true := isAt_t hze (by rw [← ht, ← hr55]; exact c_58)
                  refine lv_iinc (v := (x4 + 1)) (lv' := [(4, .int (x4 + 1)), (0, .ref (zg Z 108)), (1, .int x1), (2, .int x2), (3, .ref (zK Z wd))]) hx hb dX5_word_61 hl (k := 4) rfl rfl (by decide) rfl (fun ls hl => ?_)
                  refine lv_goto (tgt := 17) hx hb dX5_word_64 (by decide) ?_
                  exact ih17 (e + 1) (x4 + 1) (by rw [hx4]; exact nI_1 _) (by omega) (by omega) (fun k hk => if q : k = e then (by rw [q]; exact hae) else hal k (by omega)) (by omega) _ _ h ls (lv_sub hl [1, 2, 3, 4, 0] rfl)
        exact L17 (strN wd - 0 + 1) 0 0 rfl (Nat.zero_le _) haz (fun k hk => absurd hk (Nat.not_lt_zero _)) (Nat.lt_succ_self _) _ _ h ls (lv_sub hl [2, 3, 4, 1, 0] rfl)
  exact L4 (5 - 0 + 1) 0 0 0 0 rfl (by omega) rfl rfl (fun i hi => absurd hi (Nat.not_lt_zero _)) haz (Nat.lt_succ_self _) _ _ h ls (lv_sub hl [2, 1, 0] rfl)
