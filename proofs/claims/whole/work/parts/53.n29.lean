theorem st_image {v : VV} {w : WV} {n k a cc zs zw zb : Nat} {Ls : Nat → LND} (h : INV v w n k a cc Ls) (hzs : v 61 2 = nI zs ∧ v 116 28 = nI zs) (hzw : v 64 2 = nI zw ∧ v 116 31 = nI zw) (hzb : v 67 2 = nI zb ∧ v 116 34 = nI zb) (hip : IP n zs zw zb (v 62) (v 63) (v 65) (v 66) (v 68) (v 69) (v 132) (v 133) (v 134) (v 135) (v 136) (v 137)) {r1 : Int32} {u1 : VV × WV} (c1 : r1 = nI n ∧ (u1.1, w) = u1 ∧ (xC u1.1 89 n = xC v 51 n ∧ u1.1 89 6 = nI a ∧ stW u1.1 89 a) ∧ PQ u1.1 99 zs (v 62) (v 63) ∧ PQ u1.1 102 zw (v 65) (v 66) ∧ PQ u1.1 105 zb (v 68) (v 69) ∧ imF v u1.1 ∧ u1.1 0 4 = 1) : u1.1 116 0 = nI n ∧ ∀ (r2 : Int32) (u2 : VV × WV), (r2 = nI n ∧ (upc (upc (up2 u1.1 116 40 1) 139 (keepS u1.1 (u1.1 139))) 140 (otS u1.1 (u1.1 140)), u1.2) = u2) → r1 = r2 ∧ INV u2.1 u2.2 n k a cc Ls := by
  obtain ⟨v1, w1⟩ := u1
  obtain ⟨rfl, c2, ⟨c3, c4, c5⟩, ⟨q1, q2⟩, ⟨q3, q4⟩, ⟨q5, q6⟩, ⟨f1, f2⟩, c6⟩ := c1
  dsimp only at c2 c3 c4 c5 q1 q2 q3 q4 q5 q6 f1 f2 c6 ⊢
  obtain ⟨-, rfl⟩ := Prod.mk.inj c2
  obtain ⟨hak, hl, hw, hx, hc, hk, he, ht⟩ := id h
  have hk6 := hl.1.2.2
  have ev : ∀ i, 107 < i → v1 i = v i := fun i hi => f1 i (by omega) (Or.inr (Or.inr hi))
  refine ⟨by rw [ev 116 (by omega)]; exact hw.1.1, fun r2 u2 c7 => ?_⟩
  obtain ⟨rfl, rfl⟩ := c7
  refine ⟨rfl, ?_⟩
  dsimp only
  generalize hu : upc (upc (up2 v1 116 40 1) 139 (keepS v1 (v1 139))) 140 (otS v1 (v1 140)) = u
  have g0 : ∀ i, i ≠ 116 → i ≠ 139 → i ≠ 140 → u i = v1 i := fun i b1 b2 b3 => by rw [← hu, upc_ne b3, upc_ne b2, up2_ne b1]
  have g : ∀ i, i ≠ 0 → (i < 89 ∨ i = 91 ∨ 107 < i) → i ≠ 116 → i ≠ 139 → i ≠ 140 → u i = v i := fun i b0 b b1 b2 b3 => (g0 i b1 b2 b3).trans (f1 i b0 b)
  have g116 : ∀ i, i ≠ 40 → u 116 i = v 116 i := fun i b => by rw [← hu, upc_ne (by decide), upc_ne (by decide), up2_slot b, ev 116 (by omega)]
  have k40 : u 116 40 = 1 := by rw [← hu, upc_ne (by decide), upc_ne (by decide), up2_same]
  have k139 : u 139 = keepS v1 (v1 139) := by rw [← hu, upc_ne (by decide), upc_at]
  have k140 : u 140 = otS v1 (v1 140) := by rw [← hu, upc_at]
  have gl : ∀ i, laC i → u i = v i := fun i b => by
    obtain ⟨b1, b2, b3⟩ := b
    exact g i (by omega) (by omega) (by omega) (by omega) (by omega)
  have g04 : ∀ i, i ≠ 4 → u 0 i = v 0 i := fun i b => by rw [g0 0 (by decide) (by decide) (by decide)]; exact f2 i b
  have ex : xC u 89 n = xC v1 89 n := xC_fr (Or.inr rfl) (fun i b1 b2 => g0 i (by omega) (by omega) (by omega))
  have em : xM v1 n (LLs Ls a) = xM v n (LLs Ls a) := xM_cong (fun i b1 b2 => ev i (by omega))
  refine ⟨hak, IL_cong (g04 6 (by decide)) (g116 14 (by decide)) (g116 22 (by decide)) (g116 24 (by decide)) gl (fun i b1 b2 => g i (by omega) (by omega) (by omega) (by omega) (by omega)) hl, ?_, ?_, ?_, Or.inr ⟨?_, k40, n, a, zs, zw, zb, ⟨Nat.le_refl n, hak⟩, ?_, ?_, ?_, ?_, ?_, ?_⟩, ?_, ?_⟩
  · exact IW_cong (xC_fr (Or.inl rfl) (fun i b1 b2 => g i (by omega) (by omega) (by omega) (by omega) (by omega))) (xM_sl (fun i b1 b2 => g i (by omega) (by omega) (by omega) (by omega) (by omega)) (fun i b => g116 i (by omega))) (g116 0 (by decide)) (by rw [g 51 (by omega) (by omega) (by omega) (by omega) (by omega)]) (g116 15 (by decide)) (g116 37 (by decide)) (g116 38 (by decide)) (stW_cong (g 51 (by omega) (by omega) (by omega) (by omega) (by omega)) (gl _ (laC_at (j := a) (by omega) (by omega) (by omega))) hw.2.2.2.1.2.2) (g 53 (by omega) (by omega) (by omega) (by omega) (by omega)) (g 72 (by omega) (by omega) (by omega) (by omega) (by omega)) hw
  · exact IX_cong (g 108 (by omega) (by omega) (by omega) (by omega) (by omega)) (g 109 (by omega) (by omega) (by omega) (by omega) (by omega)) (g 124 (by omega) (by omega) (by omega) (by omega) (by omega)) (g116 12 (by decide)) hx
  · exact IC_cong (fun i b1 b2 => g i (by omega) (by omega) (by omega) (by omega) (by omega)) (g116 28 (by decide)) (g116 31 (by decide)) (g116 34 (by decide)) (fun i b1 b2 => g i (by omega) (by omega) (by omega) (by omega) (by omega)) hc
  · rw [g0 0 (by decide) (by decide) (by decide)]; exact c6
  · refine ⟨?_, ?_⟩
    · exact (congrFun (congrFun ex 0) 0).trans ((congrFun (congrFun c3 0) 0).trans (IW_n hw))
    · rw [k139]
      show keepS v1 (v1 139) 54 = nI n
      simp only [keepS]
      rw [if_neg (by decide), if_neg (by decide), if_neg (by decide), if_neg (by decide), if_neg (by decide), if_neg (by decide), if_pos trivial, ev 116 (by omega)]
      exact hw.1.1
  · rw [ex, c3, hw.2.1, k139, ← em, g0 117 (by decide) (by decide) (by decide)]
    exact xA_keep (by rw [ev 116 (by omega)]; exact hw.2.2.2.2.1.1) (by rw [ev 116 (by omega)]; exact hw.2.2.2.2.1.2)
  · rw [ex, c3, hw.2.1]; exact hw.2.2.1
  · refine ⟨by rw [g0 89 (by decide) (by decide) (by decide)]; exact c4, ?_, stW_cong (g0 89 (by decide) (by decide) (by decide)) (g0 _ (by omega) (by omega) (by omega)) c5⟩
    rw [k139]
    have e : keepS v1 (v1 139) 59 = v1 116 15 := by simp [keepS]
    rw [e, ev 116 (by omega)]
    exact hw.2.2.2.1.2.1
  · have e1 : keepS v1 (v1 139) 60 = v1 116 28 := by simp [keepS]
    have e2 : keepS v1 (v1 139) 61 = v1 116 31 := by simp [keepS]
    have e3 : keepS v1 (v1 139) 62 = v1 116 34 := by simp [keepS]
    rw [k139, e1, e2, e3, ev 116 (by omega), g0 99 (by decide) (by decide) (by decide), g0 102 (by decide) (by decide) (by decide), g0 105 (by decide) (by decide) (by decide)]
    exact ⟨⟨q1, hzs.2⟩, ⟨q3, hzw.2⟩, ⟨q5, hzb.2⟩⟩
  · rw [k140, g0 100 (by decide) (by decide) (by decide), g0 101 (by decide) (by decide) (by decide), g0 103 (by decide) (by decide) (by decide), g0 104 (by decide) (by decide) (by decide), g0 106 (by decide) (by decide) (by decide), g0 107 (by decide) (by decide) (by decide)]
    refine IP_map hip (fun i hi => q2 i hi) (fun i hi => q4 i hi) (fun i hi => q6 i hi) (fun i hi => ⟨?_, ?_⟩) (fun i hi => ⟨?_, ?_⟩) (fun i hi => ⟨?_, ?_⟩)
    · rw [otS, if_pos hi, ev 132 (by omega)]
    · show otS v1 (v1 140) (5 + i) = v 133 i
      rw [otS, if_neg (by omega), if_pos (by omega), Nat.add_sub_cancel_left, ev 133 (by omega)]
    · show otS v1 (v1 140) (10 + i) = v 134 i
      rw [otS, if_neg (by omega), if_neg (by omega), if_pos (by omega), Nat.add_sub_cancel_left, ev 134 (by omega)]
    · show otS v1 (v1 140) (20 + i) = v 135 i
      rw [otS, if_neg (by omega), if_neg (by omega), if_neg (by omega), if_pos (by omega), Nat.add_sub_cancel_left, ev 135 (by omega)]
    · show otS v1 (v1 140) (30 + i) = v 136 i
      rw [otS, if_neg (by omega), if_neg (by omega), if_neg (by omega), if_neg (by omega), if_pos (by omega), Nat.add_sub_cancel_left, ev 136 (by omega)]
    · show otS v1 (v1 140) (38 + i) = v 137 i
      rw [otS, if_neg (by omega), if_neg (by omega), if_neg (by omega), if_neg (by omega), if_neg (by omega), if_pos (by omega), Nat.add_sub_cancel_left, ev 137 (by omega)]
  · exact IE_cong (by rw [g 110 (by omega) (by omega) (by omega) (by omega) (by omega)]) (g 111 (by omega) (by omega) (by omega) (by omega) (by omega)) (g 141 (by omega) (by omega) (by omega) (by omega) (by omega)) (g116 43 (by decide)) he
  · exact IF_cong (fun i b1 b2 => g i (by omega) (by omega) (by omega) (by omega) (by omega)) (fun i b1 b2 => g i (by omega) (by omega) (by omega) (by omega) (by omega)) ht
