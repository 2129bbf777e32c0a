theorem z_nat {x : Int32} (h : ¬ x < 0) : ∃ k : Nat, x = nI k ∧ k < 2 ^ 31 ∧ x.toNatClampNeg = k := by
  rw [i_lt] at h
  obtain ⟨k, e1, e2, e3⟩ := i_nat (x := x) (by have : (0 : Int32).toInt = 0 := rfl; omega)
  exact ⟨k, e1, e3, by rw [e1]; exact nI_clamp e3⟩
theorem okShift_nat {ts sz : Nat → Int32} (hti : TIv ts sz) {x0 x1 x2 x3 x4 : Int32} (hok : okShift ts sz x0 x1 x2 x3 x4 = true) : ∃ t o ii jj nn z1 z2 : Nat, (t < 6 ∧ x0.toNatClampNeg = t) ∧ (o < 6 ∧ x2.toNatClampNeg = o) ∧ (x1.toNatClampNeg = ii ∧ x3.toNatClampNeg = jj ∧ x4.toNatClampNeg = nn) ∧ (sz t = nI z1 ∧ z1 ≤ 60 ∧ ii + nn ≤ z1) ∧ (sz o = nI z2 ∧ z2 ≤ 60 ∧ jj + nn ≤ z2) := by
  unfold okShift at hok
  simp only [Bool.and_eq_true, decide_eq_true_iff, Bool.not_eq_true'] at hok
  obtain ⟨⟨⟨⟨⟨⟨⟨⟨⟨a0, a1⟩, a2⟩, a3⟩, a4⟩, a5⟩, a6⟩, a7⟩, a8⟩, a9⟩ := hok
  obtain ⟨t, t1, t2, t3, t4⟩ := inR_nat (a := 0) (b := 5) rfl rfl (by decide) a0
  obtain ⟨o, o1, o2, o3, o4⟩ := inR_nat (a := 0) (b := 5) rfl rfl (by decide) a1
  obtain ⟨ii, i1, i2, i3⟩ := z_nat a6
  obtain ⟨jj, j1, j2, j3⟩ := z_nat a7
  obtain ⟨nn, n1, n2, n3⟩ := z_nat a5
  rw [t4] at a2 a8
  rw [o4] at a3 a9
  obtain ⟨_, z1, _, y1, _, y2⟩ := TIv_sort hti (t := t) (by omega) (fun q => a2 ((TIv_emp hti (by omega)).mpr q))
  obtain ⟨_, z2, _, y3, _, y4⟩ := TIv_sort hti (t := o) (by omega) (fun q => a3 ((TIv_emp hti (by omega)).mpr q))
  have b8 := of_decide_eq_false a8
  have b9 := of_decide_eq_false a9
  rw [out_nat y2 i1 n1 (by omega) i2 n2] at b8
  rw [out_nat y4 j1 n1 (by omega) j2 n2] at b9
  exact ⟨t, o, ii, jj, nn, z1, z2, ⟨by omega, t4⟩, ⟨by omega, o4⟩, ⟨i3, j3, n3⟩, ⟨y2, y1, by omega⟩, ⟨y4, y3, by omega⟩⟩
theorem okTape_nat {x0 x1 x2 : Int32} (hok : okTape x0 x1 x2 = true) : ∃ t : Nat, (t < 6 ∧ x0.toNatClampNeg = t) ∧ ((x1 < 0 ∧ x1 = -1) ∨ (¬ x1 < 0 ∧ ∃ s z : Nat, s ≤ 4 ∧ z ≤ 60 ∧ x1 = nI s ∧ x2 = nI z ∧ x2.toNatClampNeg = z)) := by
  unfold okTape at hok
  obtain ⟨q1, q2⟩ := Bool.and_eq_true_iff.mp hok
  obtain ⟨q3, q4⟩ := Bool.and_eq_true_iff.mp q1
  obtain ⟨t, t1, t2, t3, t4⟩ := inR_nat (a := 0) (b := 5) rfl rfl (by decide) q3
  refine ⟨t, ⟨by omega, t4⟩, ?_⟩
  obtain ⟨b1, b2⟩ := inR_t.mp q4
  by_cases c : x1 < 0
  · refine Or.inl ⟨c, ?_⟩
    rw [i_lt] at c
    rw [i_le] at b1
    have e1 : (-1 : Int32).toInt = -1 := by decide
    have e0 : (0 : Int32).toInt = 0 := rfl
    exact Int32.toInt_inj.mp (by omega)
  · refine Or.inr ⟨c, ?_⟩
    obtain ⟨d1, d2⟩ := Bool.and_eq_true_iff.mp (by simpa [c] using q2 : (decide (0 ≤ x2) && decide (x2 ≤ 60)) = true)
    obtain ⟨z, z1, z2, z3, z4⟩ := inR_nat (a := 0) (b := 60) (x := x2) rfl rfl (by decide) (inR_t.mpr ⟨of_decide_eq_true d1, of_decide_eq_true d2⟩)
    obtain ⟨s, s1, s2, s3, s4⟩ := inR_nat (a := 0) (b := 4) (x := x1) rfl rfl (by decide) (inR_t.mpr ⟨Int32.not_lt.mp c, b2⟩)
    exact ⟨s, z, s3, z3, s1, z1, z4⟩
theorem zrL_out {f : Nat → Int64} {b d j : Nat} (hj : j < b ∨ b + d ≤ j) : zrL f b d j = f j := if_neg (by omega)
theorem zrL_in {f : Nat → Int64} {b d j : Nat} (hj : b ≤ j ∧ j < b + d) : zrL f b d j = 0 := if_pos hj
theorem cpy_in {f g : Nat → Int64} {b d m j : Nat} (hj : d ≤ j ∧ j < d + m) : va_cpy f g b d m j = f (b + (j - d)) := if_pos hj
theorem cpy_out {f g : Nat → Int64} {b d m j : Nat} (hj : ¬ (d ≤ j ∧ j < d + m)) : va_cpy f g b d m j = g j := if_neg hj
theorem TIv_set {ts sz : Nat → Int32} {t : Nat} {x y : Int32} (h : TIv ts sz) (q : (x = -1 ∧ y = 0) ∨ ∃ s z, s ≤ 4 ∧ z ≤ 60 ∧ x = nI s ∧ y = nI z) : TIv (upd ts t x) (upd sz t y) := by
  intro i hi
  by_cases e : i = t
  · subst e; simp only [upd, if_true]; exact q
  · simp only [upd, if_neg e]; exact h i hi
theorem st_tape {v : VV} {w : WV} {n k a cc : Nat} {Ls : Nat → LND} (h : INV v w n k a cc Ls) {x0 x1 x2 r1 : Int32} {u1 : VV × WV} (c1 : r1 = sTape x0 x1 x2 ∧ (if okTape x0 x1 x2 then (up2 (up2 v 113 x0.toNatClampNeg x1) 114 x0.toNatClampNeg (if x1 < 0 then 0 else x2), if x1 < 0 then w else upcL w 115 (zrL (w 115) (60 * x0.toNatClampNeg) x2.toNatClampNeg)) else (v, w)) = u1) (r2 : Int32) (u2 : VV × WV) (c2 : r2 = sTape x0 x1 x2 ∧ (if okTape x0 x1 x2 then (up2 (up2 u1.1 142 x0.toNatClampNeg x1) 143 x0.toNatClampNeg (if x1 < 0 then 0 else x2), upcL u1.2 144 (zrL (u1.2 144) (60 * x0.toNatClampNeg) 60)) else (u1.1, u1.2)) = u2) : r1 = r2 ∧ INV u2.1 u2.2 n k a cc Ls := by
  obtain ⟨rfl, rfl⟩ := c1
  obtain ⟨hak, hl, hw, hx, hc, hk, he, ht⟩ := id h
  have hk6 := hl.1.2.2
  have h6 := hw.1.2
  obtain ⟨t1, t2, t3, t4⟩ := ht
  obtain ⟨rfl, rfl⟩ := c2
  refine ⟨rfl, ?_⟩
  by_cases q : okTape x0 x1 x2 = true
  · simp only [if_pos q]
    obtain ⟨t, ⟨b1, b2⟩, b3⟩ := okTape_nat q
    rw [b2]
    refine INV_S h ⟨fun i b => by rw [up2_ne (by omega), up2_ne (by omega), up2_ne (by omega), up2_ne (by omega)], fun i _ _ _ _ _ _ => by rw [up2_ne (by decide), up2_ne (by decide), up2_ne (by decide), up2_ne (by decide)], fun i b1 b2 b3 => by rw [up2_ne (by omega), up2_ne (by omega), up2_ne (by omega), up2_ne (by omega)]⟩ (IX_cong (by rw [up2_ne (by decide), up2_ne (by decide), up2_ne (by decide), up2_ne (by decide)]) (by rw [up2_ne (by decide), up2_ne (by decide), up2_ne (by decide), up2_ne (by decide)]) (by rw [up2_ne (by decide), up2_ne (by decide), up2_ne (by decide), up2_ne (by decide)]) (by rw [up2_ne (by decide), up2_ne (by decide), up2_ne (by decide), up2_ne (by decide)]) hx) (IC_cong (fun i b0 b1 => by rw [up2_ne (by omega), up2_ne (by omega), up2_ne (by omega), up2_ne (by omega)]) (by rw [up2_ne (by decide), up2_ne (by decide), up2_ne (by decide), up2_ne (by decide)]) (by rw [up2_ne (by decide), up2_ne (by decide), up2_ne (by decide), up2_ne (by decide)]) (by rw [up2_ne (by decide), up2_ne (by decide), up2_ne (by decide), up2_ne (by decide)]) (fun i b0 b1 => by rw [up2_ne (by omega), up2_ne (by omega), up2_ne (by omega), up2_ne (by omega)]) hc) (IK_cong hk6 (by rw [up2_ne (by decide), up2_ne (by decide), up2_ne (by decide), up2_ne (by decide)]) (by rw [up2_ne (by decide), up2_ne (by decide), up2_ne (by decide), up2_ne (by decide)]) (fun i b0 b1 => by rw [up2_ne (by omega), up2_ne (by omega), up2_ne (by omega), up2_ne (by omega)]) (fun i b0 b1 b2 => by rw [up2_ne (by omega), up2_ne (by omega), up2_ne (by omega), up2_ne (by omega)]) (by rw [up2_ne (by decide), up2_ne (by decide), up2_ne (by decide), up2_ne (by decide)]) (by rw [up2_ne (by decide), up2_ne (by decide), up2_ne (by decide), up2_ne (by decide)]) (by rw [up2_ne (by decide), up2_ne (by decide), up2_ne (by decide), up2_ne (by decide)]) hk) (IE_cong (by rw [up2_ne (by decide), up2_ne (by decide), up2_ne (by decide), up2_ne (by decide)]) (by rw [up2_ne (by decide), up2_ne (by decide), up2_ne (by decide), up2_ne (by decide)]) (by rw [up2_ne (by decide), up2_ne (by decide), up2_ne (by decide), up2_ne (by decide)]) (by rw [up2_ne (by decide), up2_ne (by decide), up2_ne (by decide), up2_ne (by decide)]) he) ⟨?_, ?_, ?_, ?_⟩
    · funext i; simp [up2, t1]
    · funext i; simp [up2, t2]
    · rw [show up2 (up2 (up2 (up2 v 113 t x1) 114 t (if x1 < 0 then 0 else x2)) 142 t x1) 143 t (if x1 < 0 then 0 else x2) 142 = upd (v 142) t x1 from by funext i; simp [up2, upd], show up2 (up2 (up2 (up2 v 113 t x1) 114 t (if x1 < 0 then 0 else x2)) 142 t x1) 143 t (if x1 < 0 then 0 else x2) 143 = upd (v 143) t (if x1 < 0 then 0 else x2) from by funext i; simp [up2, upd]]
      refine TIv_set t3 ?_
      rcases b3 with ⟨b4, b5⟩ | ⟨b4, s, z, b5, b6, b7, b8, b9⟩
      · exact Or.inl ⟨b5, if_pos b4⟩
      · exact Or.inr ⟨s, z, b5, b6, b7, by rw [if_neg b4]; exact b8⟩
    · intro t' i z' d1 d2 d3 d4
      rcases b3 with ⟨b4, b5⟩ | ⟨b4, s, z, b5, b6, b7, b8, b9⟩
      · rw [if_pos b4] at d2 ⊢
        by_cases e : t' = t
        · subst e
          rw [up2_same] at d2
          have g : z' = 0 := (nI_inj (a := 0) (by omega) (by omega) d2).symm
          omega
        · rw [up2_slot e, up2_ne (by decide), up2_ne (by decide), up2_ne (by decide)] at d2
          simp only [upcL]
          simp only [if_true, if_neg (show ¬ (115 : Nat) = 144 by decide)]
          rw [zrL_out (by omega)]
          exact t4 t' i z' d1 d2 d3 d4
      · rw [if_neg b4] at d2 ⊢
        rw [b9]
        by_cases e : t' = t
        · subst e
          rw [up2_same, b8] at d2
          have g : z = z' := nI_inj (by omega) (by omega) d2
          simp only [upcL]
          simp only [if_true, if_neg (show ¬ (115 : Nat) = 144 by decide), if_neg (show ¬ (144 : Nat) = 115 by decide)]
          rw [zrL_in (by omega), zrL_in (by omega)]
        · rw [up2_slot e, up2_ne (by decide), up2_ne (by decide), up2_ne (by decide)] at d2
          simp only [upcL]
          simp only [if_true, if_neg (show ¬ (115 : Nat) = 144 by decide), if_neg (show ¬ (144 : Nat) = 115 by decide)]
          rw [zrL_out (by omega), zrL_out (by omega)]
          exact t4 t' i z' d1 d2 d3 d4
  · simp only [if_neg q]
    exact h
theorem INV_w {v : VV} {w x : WV} {n k a cc : Nat} {Ls : Nat → LND} (h : INV v w n k a cc Ls) (hi : ∀ t i z : Nat, t < 6 → v 143 t = nI z → i < z → z ≤ 60 → x 115 (60 * t + i) = x 144 (60 * t + i)) : INV v x n k a cc Ls := by
  obtain ⟨h1, h2, h3, h4, h5, h6, h7, t1, t2, t3, _⟩ := h
  exact ⟨h1, h2, h3, h4, h5, h6, h7, t1, t2, t3, hi⟩
theorem st_item {v : VV} {w : WV} {n k a cc : Nat} {Ls : Nat → LND} (h : INV v w n k a cc Ls) {x0 x1 r1 : Int32} {x2 : Int64} {u1 : VV × WV} (c1 : r1 = sItem (v 113) (v 114) x0 x1 ∧ (v, if okItem (v 113) (v 114) x0 x1 then up2L w 115 (60 * x0.toNatClampNeg + x1.toNatClampNeg) (keptS (v 113 x0.toNatClampNeg) x2) else w) = u1) (r2 : Int32) (u2 : VV × WV) (c2 : r2 = sItem (u1.1 142) (u1.1 143) x0 x1 ∧ (u1.1, if okItem (u1.1 142) (u1.1 143) x0 x1 then up2L u1.2 144 (60 * x0.toNatClampNeg + x1.toNatClampNeg) (keptS (u1.1 142 x0.toNatClampNeg) x2) else u1.2) = u2) : r1 = r2 ∧ INV u2.1 u2.2 n k a cc Ls := by
  obtain ⟨rfl, rfl⟩ := c1
  obtain ⟨hak, hl, hw, hx, hc, hk, he, ht⟩ := id h
  have hk6 := hl.1.2.2
  have h6 := hw.1.2
  obtain ⟨t1, t2, t3, t4⟩ := ht
  obtain ⟨rfl, rfl⟩ := c2
  try dsimp only
  rw [t1, t2]
  refine ⟨rfl, INV_w h (fun t i z d1 d2 d3 d4 => ?_)⟩
  by_cases q : okItem (v 142) (v 143) x0 x1 = true
  · simp only [if_pos q, up2L]
    simp only [true_and, false_and, if_false, show ((115 : Nat) = 144) = False by decide, show ((144 : Nat) = 115) = False by decide]
    by_cases e : 60 * t + i = 60 * x0.toNatClampNeg + x1.toNatClampNeg
    · rw [if_pos e, if_pos e]
    · rw [if_neg e, if_neg e]
      exact t4 t i z d1 d2 d3 d4
  · simp only [if_neg q]
    exact t4 t i z d1 d2 d3 d4
theorem st_shift {v : VV} {w : WV} {n k a cc : Nat} {Ls : Nat → LND} (h : INV v w n k a cc Ls) {x0 x1 x2 x3 x4 r1 : Int32} {u1 : VV × WV} (c1 : r1 = sShift (v 113) (v 114) x0 x1 x2 x3 x4 ∧ (v, if okShift (v 113) (v 114) x0 x1 x2 x3 x4 then upcL w 115 (va_cpy (w 115) (w 115) (60 * x0.toNatClampNeg + x1.toNatClampNeg) (60 * x2.toNatClampNeg + x3.toNatClampNeg) x4.toNatClampNeg) else w) = u1) (r2 : Int32) (u2 : VV × WV) (c2 : r2 = sShift (u1.1 142) (u1.1 143) x0 x1 x2 x3 x4 ∧ (u1.1, if okShift (u1.1 142) (u1.1 143) x0 x1 x2 x3 x4 then upcL u1.2 144 (va_cpy (u1.2 144) (u1.2 144) (60 * x0.toNatClampNeg + x1.toNatClampNeg) (60 * x2.toNatClampNeg + x3.toNatClampNeg) x4.toNatClampNeg) else u1.2) = u2) : r1 = r2 ∧ INV u2.1 u2.2 n k a cc Ls := by
  obtain ⟨rfl, rfl⟩ := c1
  obtain ⟨hak, hl, hw, hx, hc, hk, he, ht⟩ := id h
  have hk6 := hl.1.2.2
  have h6 := hw.1.2
  obtain ⟨t1, t2, t3, t4⟩ := ht
  obtain ⟨rfl, rfl⟩ := c2
  try dsimp only
  rw [t1, t2]
  refine ⟨rfl, INV_w h (fun t' i z d1 d2 d3 d4 => ?_)⟩
  by_cases q : okShift (v 142) (v 143) x0 x1 x2 x3 x4 = true
  · simp only [if_pos q]
    obtain ⟨t, o, ii, jj, nn, z1, z2, ⟨b1, b2⟩, ⟨b3, b4⟩, ⟨b5, b6, b7⟩, ⟨b8, b9, b10⟩, _⟩ := okShift_nat t3 q
    rw [b2, b4, b5, b6, b7]
    simp only [upcL]
    simp only [if_true, if_neg (show ¬ (115 : Nat) = 144 by decide), if_neg (show ¬ (144 : Nat) = 115 by decide)]
    by_cases e : 60 * o + jj ≤ 60 * t' + i ∧ 60 * t' + i < 60 * o + jj + nn
    · rw [cpy_in e, cpy_in e, Nat.add_assoc (60 * t) ii]
      exact t4 t _ z1 b1 b8 (by omega) b9
    · rw [cpy_out e, cpy_out e]
      exact t4 t' i z d1 d2 d3 d4
  · simp only [if_neg q]
    exact t4 t' i z d1 d2 d3 d4
