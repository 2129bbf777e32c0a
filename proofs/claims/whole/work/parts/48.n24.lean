theorem st_feed {v : VV} {w : WV} {n k a cc z : Nat} {Ls : Nat → LND} (h : INV v w n k a cc Ls) (hz : v 108 1 = nI z) (hz1 : z ≤ 100) {x0 r1 : Int32} {u1 : VV × WV} (c1 : r1 = sFeed z x0 ∧ (if inR x0 0 127 && decide (z < 100) then up2 (up2 v 109 z x0) 108 1 (nI (z + 1)) else v, w) = u1) : u1.1 116 12 = nI z ∧ ∀ (r2 : Int32) (u2 : VV × WV), (r2 = sFeed z x0 ∧ (if inR x0 0 127 && decide (z < 100) then up2 (up2 u1.1 116 12 (nI (z + 1))) 124 z x0 else u1.1, u1.2) = u2) → r1 = r2 ∧ INV u2.1 u2.2 n k a cc Ls := by
  obtain ⟨rfl, rfl⟩ := c1
  obtain ⟨hak, hl, hw, hx, hc, hk, he, ht⟩ := id h
  have hk6 := hl.1.2.2
  obtain ⟨hx1, z', z1, z2, z3, z4⟩ := hx
  have e : z = z' := nI_inj (by omega) (by omega) (hz.symm.trans z1)
  subst e
  by_cases q : (inR x0 0 127 && decide (z < 100)) = true
  · obtain ⟨q1, q2⟩ := Bool.and_eq_true_iff.mp q
    have q3 : z < 100 := of_decide_eq_true q2
    simp only [if_pos q]
    refine ⟨by rw [up2_ne (by decide), up2_ne (by decide)]; exact z2, fun r2 u2 c2 => ?_⟩
    obtain ⟨rfl, rfl⟩ := c2
    refine ⟨rfl, ?_⟩
    try dsimp only
    refine INV_S h ⟨fun i b => by rw [up2_ne (by omega), up2_ne (by omega), up2_ne (by omega), up2_ne (by omega)], fun i b _ _ _ _ _ => by rw [up2_ne (by decide), up2_slot b, up2_ne (by decide), up2_ne (by decide)], fun i b1 b2 b3 => by rw [up2_ne (by omega), up2_ne (by omega), up2_ne (by omega), up2_ne (by omega)]⟩ ⟨?_, z + 1, ?_, ?_, by omega, fun i hi => ?_⟩ (IC_cong (fun i b0 b1 => by rw [up2_ne (by omega), up2_ne (by omega), up2_ne (by omega), up2_ne (by omega)]) (by rw [up2_ne (by decide), up2_slot (by decide), up2_ne (by decide), up2_ne (by decide)]) (by rw [up2_ne (by decide), up2_slot (by decide), up2_ne (by decide), up2_ne (by decide)]) (by rw [up2_ne (by decide), up2_slot (by decide), up2_ne (by decide), up2_ne (by decide)]) (fun i b0 b1 => by rw [up2_ne (by omega), up2_ne (by omega), up2_ne (by omega), up2_ne (by omega)]) hc) (IK_cong hk6 (by rw [up2_ne (by decide), up2_ne (by decide), up2_ne (by decide), up2_ne (by decide)]) (by rw [up2_ne (by decide), up2_slot (by decide), up2_ne (by decide), up2_ne (by decide)]) (fun i b0 b1 => by rw [up2_ne (by omega), up2_ne (by omega), up2_ne (by omega), up2_ne (by omega)]) (fun i b0 b1 b2 => by rw [up2_ne (by omega), up2_ne (by omega), up2_ne (by omega), up2_ne (by omega)]) (by rw [up2_ne (by decide), up2_ne (by decide), up2_ne (by decide), up2_ne (by decide)]) (by rw [up2_ne (by decide), up2_ne (by decide), up2_ne (by decide), up2_ne (by decide)]) (by rw [up2_ne (by decide), up2_ne (by decide), up2_ne (by decide), up2_ne (by decide)]) hk) (IE_cong (by rw [up2_ne (by decide), up2_ne (by decide), up2_ne (by decide), up2_ne (by decide)]) (by rw [up2_ne (by decide), up2_ne (by decide), up2_ne (by decide), up2_ne (by decide)]) (by rw [up2_ne (by decide), up2_ne (by decide), up2_ne (by decide), up2_ne (by decide)]) (by rw [up2_ne (by decide), up2_slot (by decide), up2_ne (by decide), up2_ne (by decide)]) he) (IF_cong (fun i b0 b1 => by rw [up2_ne (by omega), up2_ne (by omega), up2_ne (by omega), up2_ne (by omega)]) (fun i b0 b1 => by rw [up2_ne (by omega), up2_ne (by omega), up2_ne (by omega), up2_ne (by omega)]) ht)
    · funext i; simp [up2, hx1]
    · simp [up2]
    · simp [up2]
    · by_cases e : i = z
      · subst e; rw [up2_same]; exact q1
      · rw [up2_slot e, up2_ne (by decide), up2_ne (by decide), up2_ne (by decide)]; exact z4 i (by omega)
  · simp only [if_neg q]
    refine ⟨z2, fun r2 u2 c2 => ?_⟩
    obtain ⟨rfl, rfl⟩ := c2
    exact ⟨rfl, h⟩
theorem st_see {v : VV} {w : WV} {n k a cc z : Nat} {Ls : Nat → LND} (h : INV v w n k a cc Ls) (hz : v 61 2 = nI z) (hz1 : z ≤ 5) {x0 x1 r1 : Int32} {u1 : VV × WV} (c1 : r1 = sSee z x0 x1 ∧ (if x0 = -1 then up2 v 61 2 0 else if okSee z x0 x1 then up2 (up2 (up2 v 62 z x0) 63 z x1) 61 2 (nI (z + 1)) else v, w) = u1) : (u1.1 116 28 = nI z ∧ u1.1 116 0 = nI n) ∧ ∀ (r2 : Int32) (u2 : VV × WV), (r2 = sSee z x0 x1 ∧ (if x0 = -1 then up2 u1.1 116 28 0 else if okSee z x0 x1 then up2 (up2 (up2 u1.1 132 z x0) 116 28 (nI (z + 1))) 133 z x1 else u1.1, u1.2) = u2) → r1 = r2 ∧ INV u2.1 u2.2 n k a cc Ls := by
  obtain ⟨rfl, rfl⟩ := c1
  obtain ⟨hak, hl, hw, hx, hc, hk, he, ht⟩ := id h
  have hk6 := hl.1.2.2
  have h6 := hw.1.2
  obtain ⟨zs, zw, zb, ⟨y1, y2⟩, ⟨y3, y4⟩, ⟨y5, y6⟩, y7⟩ := hc
  have e : z = zs := nI_inj (by omega) (by have := y7.1.1; have := y7.2.1.1; have := y7.2.2.1; omega) (hz.symm.trans y1)
  subst e
  by_cases b : x0 = -1
  · simp only [if_pos b]
    refine ⟨⟨by rw [up2_ne (by decide)]; exact y2, by rw [up2_ne (by decide)]; exact hw.1.1⟩, fun r2 u2 c2 => ?_⟩
    obtain ⟨rfl, rfl⟩ := c2
    refine ⟨rfl, ?_⟩
    try dsimp only
    refine INV_S h ⟨fun i b => by rw [up2_ne (by omega), up2_ne (by omega)], fun i _ b _ _ _ _ => by rw [up2_slot b, up2_ne (by decide)], fun i b1 b2 b3 => by rw [up2_ne (by omega), up2_ne (by omega)]⟩ (IX_cong (by rw [up2_ne (by decide), up2_ne (by decide)]) (by rw [up2_ne (by decide), up2_ne (by decide)]) (by rw [up2_ne (by decide), up2_ne (by decide)]) (by rw [up2_slot (by decide), up2_ne (by decide)]) hx) ?_ (IK_cong hk6 (by rw [up2_ne (by decide), up2_ne (by decide)]) (by rw [up2_slot (by decide), up2_ne (by decide)]) (fun i b0 b1 => by rw [up2_ne (by omega), up2_ne (by omega)]) (fun i b0 b1 b2 => by rw [up2_ne (by omega), up2_ne (by omega)]) (by rw [up2_ne (by decide), up2_ne (by decide)]) (by rw [up2_ne (by decide), up2_ne (by decide)]) (by rw [up2_ne (by decide), up2_ne (by decide)]) hk) (IE_cong (by rw [up2_ne (by decide), up2_ne (by decide)]) (by rw [up2_ne (by decide), up2_ne (by decide)]) (by rw [up2_ne (by decide), up2_ne (by decide)]) (by rw [up2_slot (by decide), up2_ne (by decide)]) he) (IF_cong (fun i b0 b1 => by rw [up2_ne (by omega), up2_ne (by omega)]) (fun i b0 b1 => by rw [up2_ne (by omega), up2_ne (by omega)]) ht)
    refine ⟨0, zw, zb, ⟨?_, ?_⟩, ⟨?_, ?_⟩, ⟨?_, ?_⟩, ?_⟩
    · simp [up2]; rfl
    · simp [up2]; rfl
    · rw [up2_ne (by decide), up2_ne (by decide)]; exact y3
    · rw [up2_slot (by decide), up2_ne (by decide)]; exact y4
    · rw [up2_ne (by decide), up2_ne (by decide)]; exact y5
    · rw [up2_slot (by decide), up2_ne (by decide)]; exact y6
    · rw [up2_ne (j := 62) (by decide), up2_ne (j := 62) (by decide), up2_ne (j := 63) (by decide), up2_ne (j := 63) (by decide), up2_ne (j := 65) (by decide), up2_ne (j := 65) (by decide), up2_ne (j := 66) (by decide), up2_ne (j := 66) (by decide), up2_ne (j := 68) (by decide), up2_ne (j := 68) (by decide), up2_ne (j := 69) (by decide), up2_ne (j := 69) (by decide), up2_ne (j := 132) (by decide), up2_ne (j := 132) (by decide), up2_ne (j := 133) (by decide), up2_ne (j := 133) (by decide), up2_ne (j := 134) (by decide), up2_ne (j := 134) (by decide), up2_ne (j := 135) (by decide), up2_ne (j := 135) (by decide), up2_ne (j := 136) (by decide), up2_ne (j := 136) (by decide), up2_ne (j := 137) (by decide), up2_ne (j := 137) (by decide)]; exact IP_s0 y7
  · simp only [if_neg b]
    by_cases q : (okSee z x0 x1) = true
    · simp only [if_pos q]
      refine ⟨⟨by rw [up2_ne (by decide), up2_ne (by decide), up2_ne (by decide)]; exact y2, by rw [up2_ne (by decide), up2_ne (by decide), up2_ne (by decide)]; exact hw.1.1⟩, fun r2 u2 c2 => ?_⟩
      obtain ⟨rfl, rfl⟩ := c2
      refine ⟨rfl, ?_⟩
      try dsimp only
      refine INV_S h ⟨fun i b => by rw [up2_ne (by omega), up2_ne (by omega), up2_ne (by omega), up2_ne (by omega), up2_ne (by omega), up2_ne (by omega)], fun i _ b _ _ _ _ => by rw [up2_ne (by decide), up2_slot b, up2_ne (by decide), up2_ne (by decide), up2_ne (by decide), up2_ne (by decide)], fun i b1 b2 b3 => by rw [up2_ne (by omega), up2_ne (by omega), up2_ne (by omega), up2_ne (by omega), up2_ne (by omega), up2_ne (by omega)]⟩ (IX_cong (by rw [up2_ne (by decide), up2_ne (by decide), up2_ne (by decide), up2_ne (by decide), up2_ne (by decide), up2_ne (by decide)]) (by rw [up2_ne (by decide), up2_ne (by decide), up2_ne (by decide), up2_ne (by decide), up2_ne (by decide), up2_ne (by decide)]) (by rw [up2_ne (by decide), up2_ne (by decide), up2_ne (by decide), up2_ne (by decide), up2_ne (by decide), up2_ne (by decide)]) (by rw [up2_ne (by decide), up2_slot (by decide), up2_ne (by decide), up2_ne (by decide), up2_ne (by decide), up2_ne (by decide)]) hx) ?_ (IK_cong hk6 (by rw [up2_ne (by decide), up2_ne (by decide), up2_ne (by decide), up2_ne (by decide), up2_ne (by decide), up2_ne (by decide)]) (by rw [up2_ne (by decide), up2_slot (by decide), up2_ne (by decide), up2_ne (by decide), up2_ne (by decide), up2_ne (by decide)]) (fun i b0 b1 => by rw [up2_ne (by omega), up2_ne (by omega), up2_ne (by omega), up2_ne (by omega), up2_ne (by omega), up2_ne (by omega)]) (fun i b0 b1 b2 => by rw [up2_ne (by omega), up2_ne (by omega), up2_ne (by omega), up2_ne (by omega), up2_ne (by omega), up2_ne (by omega)]) (by rw [up2_ne (by decide), up2_ne (by decide), up2_ne (by decide), up2_ne (by decide), up2_ne (by decide), up2_ne (by decide)]) (by rw [up2_ne (by decide), up2_ne (by decide), up2_ne (by decide), up2_ne (by decide), up2_ne (by decide), up2_ne (by decide)]) (by rw [up2_ne (by decide), up2_ne (by decide), up2_ne (by decide), up2_ne (by decide), up2_ne (by decide), up2_ne (by decide)]) hk) (IE_cong (by rw [up2_ne (by decide), up2_ne (by decide), up2_ne (by decide), up2_ne (by decide), up2_ne (by decide), up2_ne (by decide)]) (by rw [up2_ne (by decide), up2_ne (by decide), up2_ne (by decide), up2_ne (by decide), up2_ne (by decide), up2_ne (by decide)]) (by rw [up2_ne (by decide), up2_ne (by decide), up2_ne (by decide), up2_ne (by decide), up2_ne (by decide), up2_ne (by decide)]) (by rw [up2_ne (by decide), up2_slot (by decide), up2_ne (by decide), up2_ne (by decide), up2_ne (by decide), up2_ne (by decide)]) he) (IF_cong (fun i b0 b1 => by rw [up2_ne (by omega), up2_ne (by omega), up2_ne (by omega), up2_ne (by omega), up2_ne (by omega), up2_ne (by omega)]) (fun i b0 b1 => by rw [up2_ne (by omega), up2_ne (by omega), up2_ne (by omega), up2_ne (by omega), up2_ne (by omega), up2_ne (by omega)]) ht)
      refine ⟨z + 1, zw, zb, ⟨?_, ?_⟩, ⟨?_, ?_⟩, ⟨?_, ?_⟩, ?_⟩
      · simp [up2]
      · simp [up2]
      · rw [up2_ne (by decide), up2_ne (by decide), up2_ne (by decide), up2_ne (by decide), up2_ne (by decide), up2_ne (by decide)]; exact y3
      · rw [up2_ne (by decide), up2_slot (by decide), up2_ne (by decide), up2_ne (by decide), up2_ne (by decide), up2_ne (by decide)]; exact y4
      · rw [up2_ne (by decide), up2_ne (by decide), up2_ne (by decide), up2_ne (by decide), up2_ne (by decide), up2_ne (by decide)]; exact y5
      · rw [up2_ne (by decide), up2_slot (by decide), up2_ne (by decide), up2_ne (by decide), up2_ne (by decide), up2_ne (by decide)]; exact y6
      · have g62 : up2 (up2 (up2 (up2 (up2 (up2 v 62 z x0) 63 z x1) 61 2 (nI (z + 1))) 132 z x0) 116 28 (nI (z + 1))) 133 z (x1) 62 = upd (v 62) z (x0) := by funext i; simp [up2, upd]
        have g63 : up2 (up2 (up2 (up2 (up2 (up2 v 62 z x0) 63 z x1) 61 2 (nI (z + 1))) 132 z x0) 116 28 (nI (z + 1))) 133 z (x1) 63 = upd (v 63) z (x1) := by funext i; simp [up2, upd]
        have g132 : up2 (up2 (up2 (up2 (up2 (up2 v 62 z x0) 63 z x1) 61 2 (nI (z + 1))) 132 z x0) 116 28 (nI (z + 1))) 133 z (x1) 132 = upd (v 132) z (x0) := by funext i; simp [up2, upd]
        have g133 : up2 (up2 (up2 (up2 (up2 (up2 v 62 z x0) 63 z x1) 61 2 (nI (z + 1))) 132 z x0) 116 28 (nI (z + 1))) 133 z (x1) 133 = upd (v 133) z (x1) := by funext i; simp [up2, upd]
        rw [g62, g63, up2_ne (j := 65) (by decide), up2_ne (j := 65) (by decide), up2_ne (j := 65) (by decide), up2_ne (j := 65) (by decide), up2_ne (j := 65) (by decide), up2_ne (j := 65) (by decide), up2_ne (j := 66) (by decide), up2_ne (j := 66) (by decide), up2_ne (j := 66) (by decide), up2_ne (j := 66) (by decide), up2_ne (j := 66) (by decide), up2_ne (j := 66) (by decide), up2_ne (j := 68) (by decide), up2_ne (j := 68) (by decide), up2_ne (j := 68) (by decide), up2_ne (j := 68) (by decide), up2_ne (j := 68) (by decide), up2_ne (j := 68) (by decide), up2_ne (j := 69) (by decide), up2_ne (j := 69) (by decide), up2_ne (j := 69) (by decide), up2_ne (j := 69) (by decide), up2_ne (j := 69) (by decide), up2_ne (j := 69) (by decide), g132, g133, up2_ne (j := 134) (by decide), up2_ne (j := 134) (by decide), up2_ne (j := 134) (by decide), up2_ne (j := 134) (by decide), up2_ne (j := 134) (by decide), up2_ne (j := 134) (by decide), up2_ne (j := 135) (by decide), up2_ne (j := 135) (by decide), up2_ne (j := 135) (by decide), up2_ne (j := 135) (by decide), up2_ne (j := 135) (by decide), up2_ne (j := 135) (by decide), up2_ne (j := 136) (by decide), up2_ne (j := 136) (by decide), up2_ne (j := 136) (by decide), up2_ne (j := 136) (by decide), up2_ne (j := 136) (by decide), up2_ne (j := 136) (by decide), up2_ne (j := 137) (by decide), up2_ne (j := 137) (by decide), up2_ne (j := 137) (by decide), up2_ne (j := 137) (by decide), up2_ne (j := 137) (by decide), up2_ne (j := 137) (by decide)]
        unfold okSee at q
        obtain ⟨q1, q2⟩ := Bool.and_eq_true_iff.mp q
        obtain ⟨q3, q4⟩ := Bool.and_eq_true_iff.mp q1
        obtain ⟨d, d1, d2, d3, d4⟩ := inR_nat (a := 0) (b := 20) rfl rfl (by decide) q4
        exact IP_s1 y7 (of_decide_eq_true q2) d1 d3
    · simp only [if_neg q]
      refine ⟨⟨y2, hw.1.1⟩, fun r2 u2 c2 => ?_⟩
      obtain ⟨rfl, rfl⟩ := c2
      exact ⟨rfl, h⟩
theorem st_winter {v : VV} {w : WV} {n k a cc z : Nat} {Ls : Nat → LND} (h : INV v w n k a cc Ls) (hz : v 64 2 = nI z) (hz1 : z ≤ 10) {x0 x1 r1 : Int32} {u1 : VV × WV} (c1 : r1 = sWin n z x0 x1 ∧ (if x0 = -1 then up2 v 64 2 0 else if okWin n z x0 x1 then up2 (up2 (up2 v 65 z x0) 66 z x1) 64 2 (nI (z + 1)) else v, w) = u1) : (u1.1 116 31 = nI z ∧ u1.1 116 0 = nI n) ∧ ∀ (r2 : Int32) (u2 : VV × WV), (r2 = sWin n z x0 x1 ∧ (if x0 = -1 then up2 u1.1 116 31 0 else if okWin n z x0 x1 then up2 (up2 (up2 u1.1 134 z x0) 116 31 (nI (z + 1))) 135 z (if x0 = 1 then x1 else 0) else u1.1, u1.2) = u2) → r1 = r2 ∧ INV u2.1 u2.2 n k a cc Ls := by
  obtain ⟨rfl, rfl⟩ := c1
  obtain ⟨hak, hl, hw, hx, hc, hk, he, ht⟩ := id h
  have hk6 := hl.1.2.2
  have h6 := hw.1.2
  obtain ⟨zs, zw, zb, ⟨y1, y2⟩, ⟨y3, y4⟩, ⟨y5, y6⟩, y7⟩ := hc
  have e : z = zw := nI_inj (by omega) (by have := y7.1.1; have := y7.2.1.1; have := y7.2.2.1; omega) (hz.symm.trans y3)
  subst e
  by_cases b : x0 = -1
  · simp only [if_pos b]
    refine ⟨⟨by rw [up2_ne (by decide)]; exact y4, by rw [up2_ne (by decide)]; exact hw.1.1⟩, fun r2 u2 c2 => ?_⟩
    obtain ⟨rfl, rfl⟩ := c2
    refine ⟨rfl, ?_⟩
    try dsimp only
    refine INV_S h ⟨fun i b => by rw [up2_ne (by omega), up2_ne (by omega)], fun i _ _ b _ _ _ => by rw [up2_slot b, up2_ne (by decide)], fun i b1 b2 b3 => by rw [up2_ne (by omega), up2_ne (by omega)]⟩ (IX_cong (by rw [up2_ne (by decide), up2_ne (by decide)]) (by rw [up2_ne (by decide), up2_ne (by decide)]) (by rw [up2_ne (by decide), up2_ne (by decide)]) (by rw [up2_slot (by decide), up2_ne (by decide)]) hx) ?_ (IK_cong hk6 (by rw [up2_ne (by decide), up2_ne (by decide)]) (by rw [up2_slot (by decide), up2_ne (by decide)]) (fun i b0 b1 => by rw [up2_ne (by omega), up2_ne (by omega)]) (fun i b0 b1 b2 => by rw [up2_ne (by omega), up2_ne (by omega)]) (by rw [up2_ne (by decide), up2_ne (by decide)]) (by rw [up2_ne (by decide), up2_ne (by decide)]) (by rw [up2_ne (by decide), up2_ne (by decide)]) hk) (IE_cong (by rw [up2_ne (by decide), up2_ne (by decide)]) (by rw [up2_ne (by decide), up2_ne (by decide)]) (by rw [up2_ne (by decide), up2_ne (by decide)]) (by rw [up2_slot (by decide), up2_ne (by decide)]) he) (IF_cong (fun i b0 b1 => by rw [up2_ne (by omega), up2_ne (by omega)]) (fun i b0 b1 => by rw [up2_ne (by omega), up2_ne (by omega)]) ht)
    refine ⟨zs, 0, zb, ⟨?_, ?_⟩, ⟨?_, ?_⟩, ⟨?_, ?_⟩, ?_⟩
    · rw [up2_ne (by decide), up2_ne (by decide)]; exact y1
    · rw [up2_slot (by decide), up2_ne (by decide)]; exact y2
    · simp [up2]; rfl
    · simp [up2]; rfl
    · rw [up2_ne (by decide), up2_ne (by decide)]; exact y5
    · rw [up2_slot (by decide), up2_ne (by decide)]; exact y6
    · rw [up2_ne (j := 62) (by decide), up2_ne (j := 62) (by decide), up2_ne (j := 63) (by decide), up2_ne (j := 63) (by decide), up2_ne (j := 65) (by decide), up2_ne (j := 65) (by decide), up2_ne (j := 66) (by decide), up2_ne (j := 66) (by decide), up2_ne (j := 68) (by decide), up2_ne (j := 68) (by decide), up2_ne (j := 69) (by decide), up2_ne (j := 69) (by decide), up2_ne (j := 132) (by decide), up2_ne (j := 132) (by decide), up2_ne (j := 133) (by decide), up2_ne (j := 133) (by decide), up2_ne (j := 134) (by decide), up2_ne (j := 134) (by decide), up2_ne (j := 135) (by decide), up2_ne (j := 135) (by decide), up2_ne (j := 136) (by decide), up2_ne (j := 136) (by decide), up2_ne (j := 137) (by decide), up2_ne (j := 137) (by decide)]; exact IP_w0 y7
  · simp only [if_neg b]
    by_cases q : (okWin n z x0 x1) = true
    · simp only [if_pos q]
      refine ⟨⟨by rw [up2_ne (by decide), up2_ne (by decide), up2_ne (by decide)]; exact y4, by rw [up2_ne (by decide), up2_ne (by decide), up2_ne (by decide)]; exact hw.1.1⟩, fun r2 u2 c2 => ?_⟩
      obtain ⟨rfl, rfl⟩ := c2
      refine ⟨rfl, ?_⟩
      try dsimp only
      refine INV_S h ⟨fun i b => by rw [up2_ne (by omega), up2_ne (by omega), up2_ne (by omega), up2_ne (by omega), up2_ne (by omega), up2_ne (by omega)], fun i _ _ b _ _ _ => by rw [up2_ne (by decide), up2_slot b, up2_ne (by decide), up2_ne (by decide), up2_ne (by decide), up2_ne (by decide)], fun i b1 b2 b3 => by rw [up2_ne (by omega), up2_ne (by omega), up2_ne (by omega), up2_ne (by omega), up2_ne (by omega), up2_ne (by omega)]⟩ (IX_cong (by rw [up2_ne (by decide), up2_ne (by decide), up2_ne (by decide), up2_ne (by decide), up2_ne (by decide), up2_ne (by decide)]) (by rw [up2_ne (by decide), up2_ne (by decide), up2_ne (by decide), up2_ne (by decide), up2_ne (by decide), up2_ne (by decide)]) (by rw [up2_ne (by decide), up2_ne (by decide), up2_ne (by decide), up2_ne (by decide), up2_ne (by decide), up2_ne (by decide)]) (by rw [up2_ne (by decide), up2_slot (by decide), up2_ne (by decide), up2_ne (by decide), up2_ne (by decide), up2_ne (by decide)]) hx) ?_ (IK_cong hk6 (by rw [up2_ne (by decide), up2_ne (by decide), up2_ne (by decide), up2_ne (by decide), up2_ne (by decide), up2_ne (by decide)]) (by rw [up2_ne (by decide), up2_slot (by decide), up2_ne (by decide), up2_ne (by decide), up2_ne (by decide), up2_ne (by decide)]) (fun i b0 b1 => by rw [up2_ne (by omega), up2_ne (by omega), up2_ne (by omega), up2_ne (by omega), up2_ne (by omega), up2_ne (by omega)]) (fun i b0 b1 b2 => by rw [up2_ne (by omega), up2_ne (by omega), up2_ne (by omega), up2_ne (by omega), up2_ne (by omega), up2_ne (by omega)]) (by rw [up2_ne (by decide), up2_ne (by decide), up2_ne (by decide), up2_ne (by decide), up2_ne (by decide), up2_ne (by decide)]) (by rw [up2_ne (by decide), up2_ne (by decide), up2_ne (by decide), up2_ne (by decide), up2_ne (by decide), up2_ne (by decide)]) (by rw [up2_ne (by decide), up2_ne (by decide), up2_ne (by decide), up2_ne (by decide), up2_ne (by decide), up2_ne (by decide)]) hk) (IE_cong (by rw [up2_ne (by decide), up2_ne (by decide), up2_ne (by decide), up2_ne (by decide), up2_ne (by decide), up2_ne (by decide)]) (by rw [up2_ne (by decide), up2_ne (by decide), up2_ne (by decide), up2_ne (by decide), up2_ne (by decide), up2_ne (by decide)]) (by rw [up2_ne (by decide), up2_ne (by decide), up2_ne (by decide), up2_ne (by decide), up2_ne (by decide), up2_ne (by decide)]) (by rw [up2_ne (by decide), up2_slot (by decide), up2_ne (by decide), up2_ne (by decide), up2_ne (by decide), up2_ne (by decide)]) he) (IF_cong (fun i b0 b1 => by rw [up2_ne (by omega), up2_ne (by omega), up2_ne (by omega), up2_ne (by omega), up2_ne (by omega), up2_ne (by omega)]) (fun i b0 b1 => by rw [up2_ne (by omega), up2_ne (by omega), up2_ne (by omega), up2_ne (by omega), up2_ne (by omega), up2_ne (by omega)]) ht)
      refine ⟨zs, z + 1, zb, ⟨?_, ?_⟩, ⟨?_, ?_⟩, ⟨?_, ?_⟩, ?_⟩
      · rw [up2_ne (by decide), up2_ne (by decide), up2_ne (by decide), up2_ne (by decide), up2_ne (by decide), up2_ne (by decide)]; exact y1
      · rw [up2_ne (by decide), up2_slot (by decide), up2_ne (by decide), up2_ne (by decide), up2_ne (by decide), up2_ne (by decide)]; exact y2
      · simp [up2]
      · simp [up2]
      · rw [up2_ne (by decide), up2_ne (by decide), up2_ne (by decide), up2_ne (by decide), up2_ne (by decide), up2_ne (by decide)]; exact y5
      · rw [up2_ne (by decide), up2_slot (by decide), up2_ne (by decide), up2_ne (by decide), up2_ne (by decide), up2_ne (by decide)]; exact y6
      · have g65 : up2 (up2 (up2 (up2 (up2 (up2 v 65 z x0) 66 z x1) 64 2 (nI (z + 1))) 134 z x0) 116 31 (nI (z + 1))) 135 z ((if x0 = 1 then x1 else 0)) 65 = upd (v 65) z (x0) := by funext i; simp [up2, upd]
        have g66 : up2 (up2 (up2 (up2 (up2 (up2 v 65 z x0) 66 z x1) 64 2 (nI (z + 1))) 134 z x0) 116 31 (nI (z + 1))) 135 z ((if x0 = 1 then x1 else 0)) 66 = upd (v 66) z (x1) := by funext i; simp [up2, upd]
        have g134 : up2 (up2 (up2 (up2 (up2 (up2 v 65 z x0) 66 z x1) 64 2 (nI (z + 1))) 134 z x0) 116 31 (nI (z + 1))) 135 z ((if x0 = 1 then x1 else 0)) 134 = upd (v 134) z (x0) := by funext i; simp [up2, upd]
        have g135 : up2 (up2 (up2 (up2 (up2 (up2 v 65 z x0) 66 z x1) 64 2 (nI (z + 1))) 134 z x0) 116 31 (nI (z + 1))) 135 z ((if x0 = 1 then x1 else 0)) 135 = upd (v 135) z ((if x0 = 1 then x1 else 0)) := by funext i; simp [up2, upd]
        rw [up2_ne (j := 62) (by decide), up2_ne (j := 62) (by decide), up2_ne (j := 62) (by decide), up2_ne (j := 62) (by decide), up2_ne (j := 62) (by decide), up2_ne (j := 62) (by decide), up2_ne (j := 63) (by decide), up2_ne (j := 63) (by decide), up2_ne (j := 63) (by decide), up2_ne (j := 63) (by decide), up2_ne (j := 63) (by decide), up2_ne (j := 63) (by decide), g65, g66, up2_ne (j := 68) (by decide), up2_ne (j := 68) (by decide), up2_ne (j := 68) (by decide), up2_ne (j := 68) (by decide), up2_ne (j := 68) (by decide), up2_ne (j := 68) (by decide), up2_ne (j := 69) (by decide), up2_ne (j := 69) (by decide), up2_ne (j := 69) (by decide), up2_ne (j := 69) (by decide), up2_ne (j := 69) (by decide), up2_ne (j := 69) (by decide), up2_ne (j := 132) (by decide), up2_ne (j := 132) (by decide), up2_ne (j := 132) (by decide), up2_ne (j := 132) (by decide), up2_ne (j := 132) (by decide), up2_ne (j := 132) (by decide), up2_ne (j := 133) (by decide), up2_ne (j := 133) (by decide), up2_ne (j := 133) (by decide), up2_ne (j := 133) (by decide), up2_ne (j := 133) (by decide), up2_ne (j := 133) (by decide), g134, g135, up2_ne (j := 136) (by decide), up2_ne (j := 136) (by decide), up2_ne (j := 136) (by decide), up2_ne (j := 136) (by decide), up2_ne (j := 136) (by decide), up2_ne (j := 136) (by decide), up2_ne (j := 137) (by decide), up2_ne (j := 137) (by decide), up2_ne (j := 137) (by decide), up2_ne (j := 137) (by decide), up2_ne (j := 137) (by decide), up2_ne (j := 137) (by decide)]
        unfold okWin at q
        obtain ⟨q1, q2⟩ := Bool.and_eq_true_iff.mp q
        obtain ⟨q3, q4⟩ := Bool.and_eq_true_iff.mp q1
        refine IP_w1 y7 (of_decide_eq_true q2) (fun b1 => ?_)
        rw [if_pos b1]
        rw [b1] at q4
        obtain ⟨p, e1, e2, e3⟩ := isP_nat (by omega) (show isP (nI n) x1 = true by simpa using q4)
        exact ⟨rfl, p, e2, e1⟩
    · simp only [if_neg q]
      refine ⟨⟨y4, hw.1.1⟩, fun r2 u2 c2 => ?_⟩
      obtain ⟨rfl, rfl⟩ := c2
      exact ⟨rfl, h⟩
theorem st_book {v : VV} {w : WV} {n k a cc z : Nat} {Ls : Nat → LND} (h : INV v w n k a cc Ls) (hz : v 67 2 = nI z) (hz1 : z ≤ 8) {x0 x1 r1 : Int32} {u1 : VV × WV} (c1 : r1 = sBook n z x0 x1 ∧ (if x0 = -1 then up2 v 67 2 0 else if okBook n z x0 x1 then up2 (up2 (up2 v 68 z x0) 69 z x1) 67 2 (nI (z + 1)) else v, w) = u1) : (u1.1 116 34 = nI z ∧ u1.1 116 0 = nI n) ∧ ∀ (r2 : Int32) (u2 : VV × WV), (r2 = sBook n z x0 x1 ∧ (if x0 = -1 then up2 u1.1 116 34 0 else if okBook n z x0 x1 then up2 (up2 (up2 u1.1 136 z x0) 116 34 (nI (z + 1))) 137 z x1 else u1.1, u1.2) = u2) → r1 = r2 ∧ INV u2.1 u2.2 n k a cc Ls := by
  obtain ⟨rfl, rfl⟩ := c1
  obtain ⟨hak, hl, hw, hx, hc, hk, he, ht⟩ := id h
  have hk6 := hl.1.2.2
  have h6 := hw.1.2
  obtain ⟨zs, zw, zb, ⟨y1, y2⟩, ⟨y3, y4⟩, ⟨y5, y6⟩, y7⟩ := hc
  have e : z = zb := nI_inj (by omega) (by have := y7.1.1; have := y7.2.1.1; have := y7.2.2.1; omega) (hz.symm.trans y5)
  subst e
  by_cases b : x0 = -1
  · simp only [if_pos b]
    refine ⟨⟨by rw [up2_ne (by decide)]; exact y6, by rw [up2_ne (by decide)]; exact hw.1.1⟩, fun r2 u2 c2 => ?_⟩
    obtain ⟨rfl, rfl⟩ := c2
    refine ⟨rfl, ?_⟩
    try dsimp only
    refine INV_S h ⟨fun i b => by rw [up2_ne (by omega), up2_ne (by omega)], fun i _ _ _ b _ _ => by rw [up2_slot b, up2_ne (by decide)], fun i b1 b2 b3 => by rw [up2_ne (by omega), up2_ne (by omega)]⟩ (IX_cong (by rw [up2_ne (by decide), up2_ne (by decide)]) (by rw [up2_ne (by decide), up2_ne (by decide)]) (by rw [up2_ne (by decide), up2_ne (by decide)]) (by rw [up2_slot (by decide), up2_ne (by decide)]) hx) ?_ (IK_cong hk6 (by rw [up2_ne (by decide), up2_ne (by decide)]) (by rw [up2_slot (by decide), up2_ne (by decide)]) (fun i b0 b1 => by rw [up2_ne (by omega), up2_ne (by omega)]) (fun i b0 b1 b2 => by rw [up2_ne (by omega), up2_ne (by omega)]) (by rw [up2_ne (by decide), up2_ne (by decide)]) (by rw [up2_ne (by decide), up2_ne (by decide)]) (by rw [up2_ne (by decide), up2_ne (by decide)]) hk) (IE_cong (by rw [up2_ne (by decide), up2_ne (by decide)]) (by rw [up2_ne (by decide), up2_ne (by decide)]) (by rw [up2_ne (by decide), up2_ne (by decide)]) (by rw [up2_slot (by decide), up2_ne (by decide)]) he) (IF_cong (fun i b0 b1 => by rw [up2_ne (by omega), up2_ne (by omega)]) (fun i b0 b1 => by rw [up2_ne (by omega), up2_ne (by omega)]) ht)
    refine ⟨zs, zw, 0, ⟨?_, ?_⟩, ⟨?_, ?_⟩, ⟨?_, ?_⟩, ?_⟩
    · rw [up2_ne (by decide), up2_ne (by decide)]; exact y1
    · rw [up2_slot (by decide), up2_ne (by decide)]; exact y2
    · rw [up2_ne (by decide), up2_ne (by decide)]; exact y3
    · rw [up2_slot (by decide), up2_ne (by decide)]; exact y4
    · simp [up2]; rfl
    · simp [up2]; rfl
    · rw [up2_ne (j := 62) (by decide), up2_ne (j := 62) (by decide), up2_ne (j := 63) (by decide), up2_ne (j := 63) (by decide), up2_ne (j := 65) (by decide), up2_ne (j := 65) (by decide), up2_ne (j := 66) (by decide), up2_ne (j := 66) (by decide), up2_ne (j := 68) (by decide), up2_ne (j := 68) (by decide), up2_ne (j := 69) (by decide), up2_ne (j := 69) (by decide), up2_ne (j := 132) (by decide), up2_ne (j := 132) (by decide), up2_ne (j := 133) (by decide), up2_ne (j := 133) (by decide), up2_ne (j := 134) (by decide), up2_ne (j := 134) (by decide), up2_ne (j := 135) (by decide), up2_ne (j := 135) (by decide), up2_ne (j := 136) (by decide), up2_ne (j := 136) (by decide), up2_ne (j := 137) (by decide), up2_ne (j := 137) (by decide)]; exact IP_b0 y7
  · simp only [if_neg b]
    by_cases q : (okBook n z x0 x1) = true
    · simp only [if_pos q]
      refine ⟨⟨by rw [up2_ne (by decide), up2_ne (by decide), up2_ne (by decide)]; exact y6, by rw [up2_ne (by decide), up2_ne (by decide), up2_ne (by decide)]; exact hw.1.1⟩, fun r2 u2 c2 => ?_⟩
      obtain ⟨rfl, rfl⟩ := c2
      refine ⟨rfl, ?_⟩
      try dsimp only
      refine INV_S h ⟨fun i b => by rw [up2_ne (by omega), up2_ne (by omega), up2_ne (by omega), up2_ne (by omega), up2_ne (by omega), up2_ne (by omega)], fun i _ _ _ b _ _ => by rw [up2_ne (by decide), up2_slot b, up2_ne (by decide), up2_ne (by decide), up2_ne (by decide), up2_ne (by decide)], fun i b1 b2 b3 => by rw [up2_ne (by omega), up2_ne (by omega), up2_ne (by omega), up2_ne (by omega), up2_ne (by omega), up2_ne (by omega)]⟩ (IX_cong (by rw [up2_ne (by decide), up2_ne (by decide), up2_ne (by decide), up2_ne (by decide), up2_ne (by decide), up2_ne (by decide)]) (by rw [up2_ne (by decide), up2_ne (by decide), up2_ne (by decide), up2_ne (by decide), up2_ne (by decide), up2_ne (by decide)]) (by rw [up2_ne (by decide), up2_ne (by decide), up2_ne (by decide), up2_ne (by decide), up2_ne (by decide), up2_ne (by decide)]) (by rw [up2_ne (by decide), up2_slot (by decide), up2_ne (by decide), up2_ne (by decide), up2_ne (by decide), up2_ne (by decide)]) hx) ?_ (IK_cong hk6 (by rw [up2_ne (by decide), up2_ne (by decide), up2_ne (by decide), up2_ne (by decide), up2_ne (by decide), up2_ne (by decide)]) (by rw [up2_ne (by decide), up2_slot (by decide), up2_ne (by decide), up2_ne (by decide), up2_ne (by decide), up2_ne (by decide)]) (fun i b0 b1 => by rw [up2_ne (by omega), up2_ne (by omega), up2_ne (by omega), up2_ne (by omega), up2_ne (by omega), up2_ne (by omega)]) (fun i b0 b1 b2 => by rw [up2_ne (by omega), up2_ne (by omega), up2_ne (by omega), up2_ne (by omega), up2_ne (by omega), up2_ne (by omega)]) (by rw [up2_ne (by decide), up2_ne (by decide), up2_ne (by decide), up2_ne (by decide), up2_ne (by decide), up2_ne (by decide)]) (by rw [up2_ne (by decide), up2_ne (by decide), up2_ne (by decide), up2_ne (by decide), up2_ne (by decide), up2_ne (by decide)]) (by rw [up2_ne (by decide), up2_ne (by decide), up2_ne (by decide), up2_ne (by decide), up2_ne (by decide), up2_ne (by decide)]) hk) (IE_cong (by rw [up2_ne (by decide), up2_ne (by decide), up2_ne (by decide), up2_ne (by decide), up2_ne (by decide), up2_ne (by decide)]) (by rw [up2_ne (by decide), up2_ne (by decide), up2_ne (by decide), up2_ne (by decide), up2_ne (by decide), up2_ne (by decide)]) (by rw [up2_ne (by decide), up2_ne (by decide), up2_ne (by decide), up2_ne (by decide), up2_ne (by decide), up2_ne (by decide)]) (by rw [up2_ne (by decide), up2_slot (by decide), up2_ne (by decide), up2_ne (by decide), up2_ne (by decide), up2_ne (by decide)]) he) (IF_cong (fun i b0 b1 => by rw [up2_ne (by omega), up2_ne (by omega), up2_ne (by omega), up2_ne (by omega), up2_ne (by omega), up2_ne (by omega)]) (fun i b0 b1 => by rw [up2_ne (by omega), up2_ne (by omega), up2_ne (by omega), up2_ne (by omega), up2_ne (by omega), up2_ne (by omega)]) ht)
      refine ⟨zs, zw, z + 1, ⟨?_, ?_⟩, ⟨?_, ?_⟩, ⟨?_, ?_⟩, ?_⟩
      · rw [up2_ne (by decide), up2_ne (by decide), up2_ne (by decide), up2_ne (by decide), up2_ne (by decide), up2_ne (by decide)]; exact y1
      · rw [up2_ne (by decide), up2_slot (by decide), up2_ne (by decide), up2_ne (by decide), up2_ne (by decide), up2_ne (by decide)]; exact y2
      · rw [up2_ne (by decide), up2_ne (by decide), up2_ne (by decide), up2_ne (by decide), up2_ne (by decide), up2_ne (by decide)]; exact y3
      · rw [up2_ne (by decide), up2_slot (by decide), up2_ne (by decide), up2_ne (by decide), up2_ne (by decide), up2_ne (by decide)]; exact y4
      · simp [up2]
      · simp [up2]
      · have g68 : up2 (up2 (up2 (up2 (up2 (up2 v 68 z x0) 69 z x1) 67 2 (nI (z + 1))) 136 z x0) 116 34 (nI (z + 1))) 137 z (x1) 68 = upd (v 68) z (x0) := by funext i; simp [up2, upd]
        have g69 : up2 (up2 (up2 (up2 (up2 (up2 v 68 z x0) 69 z x1) 67 2 (nI (z + 1))) 136 z x0) 116 34 (nI (z + 1))) 137 z (x1) 69 = upd (v 69) z (x1) := by funext i; simp [up2, upd]
        have g136 : up2 (up2 (up2 (up2 (up2 (up2 v 68 z x0) 69 z x1) 67 2 (nI (z + 1))) 136 z x0) 116 34 (nI (z + 1))) 137 z (x1) 136 = upd (v 136) z (x0) := by funext i; simp [up2, upd]
        have g137 : up2 (up2 (up2 (up2 (up2 (up2 v 68 z x0) 69 z x1) 67 2 (nI (z + 1))) 136 z x0) 116 34 (nI (z + 1))) 137 z (x1) 137 = upd (v 137) z (x1) := by funext i; simp [up2, upd]
        rw [up2_ne (j := 62) (by decide), up2_ne (j := 62) (by decide), up2_ne (j := 62) (by decide), up2_ne (j := 62) (by decide), up2_ne (j := 62) (by decide), up2_ne (j := 62) (by decide), up2_ne (j := 63) (by decide), up2_ne (j := 63) (by decide), up2_ne (j := 63) (by decide), up2_ne (j := 63) (by decide), up2_ne (j := 63) (by decide), up2_ne (j := 63) (by decide), up2_ne (j := 65) (by decide), up2_ne (j := 65) (by decide), up2_ne (j := 65) (by decide), up2_ne (j := 65) (by decide), up2_ne (j := 65) (by decide), up2_ne (j := 65) (by decide), up2_ne (j := 66) (by decide), up2_ne (j := 66) (by decide), up2_ne (j := 66) (by decide), up2_ne (j := 66) (by decide), up2_ne (j := 66) (by decide), up2_ne (j := 66) (by decide), g68, g69, up2_ne (j := 132) (by decide), up2_ne (j := 132) (by decide), up2_ne (j := 132) (by decide), up2_ne (j := 132) (by decide), up2_ne (j := 132) (by decide), up2_ne (j := 132) (by decide), up2_ne (j := 133) (by decide), up2_ne (j := 133) (by decide), up2_ne (j := 133) (by decide), up2_ne (j := 133) (by decide), up2_ne (j := 133) (by decide), up2_ne (j := 133) (by decide), up2_ne (j := 134) (by decide), up2_ne (j := 134) (by decide), up2_ne (j := 134) (by decide), up2_ne (j := 134) (by decide), up2_ne (j := 134) (by decide), up2_ne (j := 134) (by decide), up2_ne (j := 135) (by decide), up2_ne (j := 135) (by decide), up2_ne (j := 135) (by decide), up2_ne (j := 135) (by decide), up2_ne (j := 135) (by decide), up2_ne (j := 135) (by decide), g136, g137]
        unfold okBook at q
        obtain ⟨q1, q2⟩ := Bool.and_eq_true_iff.mp q
        obtain ⟨q3, q4⟩ := Bool.and_eq_true_iff.mp q1
        obtain ⟨p, e1, e2, e3⟩ := isP_nat (by omega) q3
        exact IP_b1 y7 (of_decide_eq_true q2) e1 e2
    · simp only [if_neg q]
      refine ⟨⟨y6, hw.1.1⟩, fun r2 u2 c2 => ?_⟩
      obtain ⟨rfl, rfl⟩ := c2
      exact ⟨rfl, h⟩
