theorem sRead_eq {v : VV} {w : WV} (h : IF v w) (x y : Int32) : sRead (v 113) (v 114) (w 115) x y = sRead (v 142) (v 143) (w 144) x y := by
  obtain ⟨t1, t2, t3, t4⟩ := h
  rw [t1, t2]
  unfold sRead
  by_cases q : okRead (v 142) (v 143) x y = true
  · rw [if_pos q, if_pos q]
    unfold okRead at q
    obtain ⟨q1, q2⟩ := Bool.and_eq_true_iff.mp q
    obtain ⟨q3, q4⟩ := Bool.and_eq_true_iff.mp q1
    obtain ⟨t, b1, b2, b3, b4⟩ := inR_nat (a := 0) (b := 5) rfl rfl (by decide) q3
    rw [b4] at q2 ⊢
    obtain ⟨_, z, i, z1, z2, z3, z4, z5⟩ := TIv_place t3 (by omega) q2
    rw [z5]
    exact t4 t i z (by omega) z2 z4 z1
  · rw [if_neg q, if_neg q]
theorem sCount_eq {v : VV} {w : WV} {n k a cc : Nat} {Ls : Nat → LND} (h : INV v w n k a cc Ls) (x : Int32) : sCount (v 52 0) (v 0 6) (v 51 5) (v 61 2) (v 64 2) (v 67 2) (v 108 1) (v 110 1) x = sCount (v 116 0) (v 116 14) (v 116 9) (v 116 28) (v 116 31) (v 116 34) (v 116 12) (v 116 43) x := by
  obtain ⟨hak, hl, hw, hx, hc, hk, he, ht⟩ := h
  obtain ⟨zs, zw, zb, ⟨y1, y2⟩, ⟨y3, y4⟩, ⟨y5, y6⟩, y7⟩ := hc
  obtain ⟨hx1, z, z1, z2, z3, z4⟩ := hx
  obtain ⟨t, t1, t2, t3, t4⟩ := he
  rw [IW_n hw, hw.1.1, hl.1.1, hl.1.2.1, IW_pl hw, y1, y2, y3, y4, y5, y6, z1, z2, t1, t2]
