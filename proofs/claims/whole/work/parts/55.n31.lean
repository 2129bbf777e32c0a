theorem st_undo_y {v : VV} {w : WV} {n k a cc m b zs zw zb : Nat} {Ls : Nat → LND} (h : INV v w n k a cc Ls) (h40 : v 116 40 = 1) (hk1 : IK1 v n k Ls m b zs zw zb) {r1 : Int32} {u1 : VV × WV} (c1 : r1 = nI m ∧ (u1.1, w) = u1 ∧ (xC u1.1 51 m = xC v 89 m ∧ u1.1 51 6 = nI b ∧ stW u1.1 51 b) ∧ PQ u1.1 61 zs (v 100) (v 101) ∧ PQ u1.1 64 zw (v 103) (v 104) ∧ PQ u1.1 67 zb (v 106) (v 107) ∧ unF v u1.1) (r2 : Int32) (u2 : VV × WV) (c2 : r2 = (if u1.1 116 40 = 0 then -3 else u1.1 139 54) ∧ ((if u1.1 116 40 = 0 then u1.1 else un1 (againS u1.1 139) 5 10 8), u1.2) = u2) : r1 = r2 ∧ INV u2.1 u2.2 m k b cc Ls := by
  obtain ⟨v1, w1⟩ := u1
  obtain ⟨rfl, c3, ⟨c4, c5, c6⟩, ⟨q1, q2⟩, ⟨q3, q4⟩, ⟨q5, q6⟩, f⟩ := c1
  dsimp only at c2 c3 c4 c5 c6 q1 q2 q3 q4 q5 q6 f
  obtain ⟨-, rfl⟩ := Prod.mk.inj c3
  obtain ⟨rfl, rfl⟩ := c2
  obtain ⟨hak, hl, hw, hx, hc, hk, he, ht⟩ := id h
  have hk6 := hl.1.2.2
  obtain ⟨⟨m1, m2⟩, ⟨m3, m3'⟩, m4, m5, ⟨m6, m7, m8⟩, ⟨⟨z1, z2⟩, ⟨z3, z4⟩, ⟨z5, z6⟩⟩, m10⟩ := id hk1
  have ev : ∀ i, 69 < i → v1 i = v i := fun i hi => f i (Or.inr (Or.inr hi))
  have hne : ¬ v1 116 40 = 0 := by rw [ev 116 (by omega), h40]; decide
  rw [if_neg hne]
  dsimp only
  rw [if_neg hne]
  refine ⟨by rw [ev 139 (by omega)]; exact m3'.symm, ?_⟩
  show INV (unS v1) w m k b cc Ls
  have hX := unS_x (v := v1) (n := m) (L := LLs Ls b) (by rw [ev 116 (by omega)]; exact hw.2.2.2.2.1.1) (by rw [ev 116 (by omega)]; exact hw.2.2.2.2.1.2)
  have g5 : ∀ i, i < 116 → unS v1 i = v1 i := fun i hi => unS_n (by omega) (by omega) (by omega)
  have g : ∀ i, (i < 51 ∨ i = 53 ∨ 69 < i) → i ≠ 116 → (i < 118 ∨ 123 < i) → (i < 132 ∨ 137 < i) → unS v1 i = v i := fun i b1 b2 b3 b4 => (unS_n b2 b3 b4).trans (f i b1)
  have gs : ∀ i, (i ≠ 0 ∧ i ≠ 7 ∧ i ≠ 8 ∧ i ≠ 9 ∧ i ≠ 11 ∧ i ≠ 15 ∧ i ≠ 28 ∧ i ≠ 31 ∧ i ≠ 34) → unS v1 116 i = v 116 i := fun i hi => by rw [unS_116 hi, ev 116 (by omega)]
  have s15 : unS v1 116 15 = v1 139 59 := by simp [unS, un1, againS, up2, agA]
  have s28 : unS v1 116 28 = v1 139 60 := by simp [unS, un1, againS, up2, agA]
  have s31 : unS v1 116 31 = v1 139 61 := by simp [unS, un1, againS, up2, agA]
  have s34 : unS v1 116 34 = v1 139 62 := by simp [unS, un1, againS, up2, agA]
  have s0 : unS v1 116 0 = v1 139 54 := by simp [unS, un1, againS, up2, agA]
  have ex : xC (unS v1) 51 m = xC v 89 m := (xC_fr (Or.inl rfl) (fun i b1 b2 => g5 i (by omega))).trans c4
  have hm : xM (unS v1) m (LLs Ls b) = xC v 89 m := by rw [hX, ev 139 (by omega), ev 117 (by omega)]; exact m4.symm
  refine ⟨m2, IL_cong (by rw [g 0 (by omega) (by omega) (by omega) (by omega)]) (gs 14 (by decide)) (gs 22 (by decide)) (gs 24 (by decide)) (fun i b0 => g i (by have := b0.2.1; omega) (by have := b0.2.1; omega) (by have := b0.2.1; omega) (by have := b0.2.1; omega)) (fun i b1 b2 => g i (by omega) (by omega) (by omega) (by omega)) hl, ?_, ?_, ⟨zs, zw, zb, ?_, ?_, ?_, ?_⟩, ?_, ?_, ?_⟩
  · exact ⟨⟨by rw [s0, ev 139 (by omega)]; exact m3', Nat.le_trans m1 hw.1.2⟩, ex.trans hm.symm, by rw [hm]; exact m5, ⟨by rw [g5 51 (by omega)]; exact c5, by rw [s15, ev 139 (by omega)]; exact m7, stW_cong (g5 51 (by omega)) (g5 _ (by omega)) c6⟩, ⟨(gs 37 (by decide)).trans hw.2.2.2.2.1.1, (gs 38 (by decide)).trans hw.2.2.2.2.1.2⟩, by rw [g 53 (by omega) (by omega) (by omega) (by omega)]; exact hw.2.2.2.2.2.1, by rw [g 72 (by omega) (by omega) (by omega) (by omega)]; exact hw.2.2.2.2.2.2⟩
  · exact IX_cong (g 108 (by omega) (by omega) (by omega) (by omega)) (g 109 (by omega) (by omega) (by omega) (by omega)) (g 124 (by omega) (by omega) (by omega) (by omega)) (gs 12 (by decide)) hx
  · exact ⟨by rw [g5 61 (by omega)]; exact q1, by rw [s28, ev 139 (by omega)]; exact z2⟩
  · exact ⟨by rw [g5 64 (by omega)]; exact q3, by rw [s31, ev 139 (by omega)]; exact z4⟩
  · exact ⟨by rw [g5 67 (by omega)]; exact q5, by rw [s34, ev 139 (by omega)]; exact z6⟩
  · rw [g5 62 (by omega), g5 63 (by omega), g5 65 (by omega), g5 66 (by omega), g5 68 (by omega), g5 69 (by omega)]
    have e140 : v1 140 = v 140 := ev 140 (by omega)
    refine IP_map m10 (fun i hi => q2 i hi) (fun i hi => q4 i hi) (fun i hi => q6 i hi) (fun i hi => ⟨?_, ?_⟩) (fun i hi => ⟨?_, ?_⟩) (fun i hi => ⟨?_, ?_⟩)
    all_goals (rw [← e140]; simp [unS, un1, againS, up2, agA, hi])
  · have hk2 : IK1 v m k Ls m b zs zw zb := ⟨⟨Nat.le_refl m, m2⟩, hk1.2⟩
    refine IK_cong hk6 (by rw [g 0 (by omega) (by omega) (by omega) (by omega)]) (gs 40 (by decide)) (fun i b0 b1 => g i (by omega) (by omega) (by omega) (by omega)) (fun i b0 b1 b2 => g i (by omega) (by omega) (by omega) (by omega)) (g 117 (by omega) (by omega) (by omega) (by omega)) (g 139 (by omega) (by omega) (by omega) (by omega)) (g 140 (by omega) (by omega) (by omega) (by omega)) ?_
    rcases hk with ⟨_, q⟩ | ⟨y1, y2, _⟩
    · rw [h40] at q; exact absurd q (by decide)
    · exact Or.inr ⟨y1, y2, m, b, zs, zw, zb, hk2⟩
  · exact IE_cong (by rw [g 110 (by omega) (by omega) (by omega) (by omega)]) (g 111 (by omega) (by omega) (by omega) (by omega)) (g 141 (by omega) (by omega) (by omega) (by omega)) (gs 43 (by decide)) he
  · exact IF_cong (fun i b1 b2 => g i (by omega) (by omega) (by omega) (by omega)) (fun i b1 b2 => g i (by omega) (by omega) (by omega) (by omega)) ht
