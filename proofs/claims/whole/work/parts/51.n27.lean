theorem any_nI (x : Int32) : ∃ o : Nat, x = nI o := by
  refine ⟨x.toBitVec.toNat, ?_⟩
  apply Int32.toBitVec_inj.mp
  unfold nI
  show x.toBitVec = BitVec.ofNat 32 x.toBitVec.toNat
  simp
theorem lastN_rng {wd q : Nat} {L : LND} (h : wfL L) (hq : q ≤ 99) : ∀ m, m ≤ L.length → ∃ g : Nat, g ≤ 99 ∧ lastN wd (nI q) L m = nI g
  | 0, _ => ⟨q, hq, rfl⟩
  | m + 1, hm => by
    rw [lastN]
    by_cases e : (L.getD m dC).1 = wd
    · rw [if_pos e]; exact ⟨_, (h.2 m (by omega)).2.1, rfl⟩
    · rw [if_neg e]; exact lastN_rng h hq m (by omega)
theorem lastS_rng {wd q : Nat} {L : LND} (h : wfL L) (hq : q ≤ 99) : 0 ≤ (lastS wd (nI q) L).toInt ∧ (lastS wd (nI q) L).toInt ≤ 99 := by
  obtain ⟨g, g1, g2⟩ := lastN_rng (wd := wd) h hq L.length (Nat.le_refl _)
  unfold lastS
  rw [g2, nI_toInt (by omega)]
  omega
theorem gd_l {L : LND} {x : CLA} {i : Nat} (hi : i < L.length) : (L ++ [x]).getD i dC = L.getD i dC := by simp [List.getD, List.getElem?_append_left hi]
theorem gd_r {L : LND} {x : CLA} : (L ++ [x]).getD L.length dC = x := by simp [List.getD]
theorem wf_snoc {L : LND} {x : CLA} (h : wfL L) (hl : L.length < 10) (hx : x.1 < 5 ∧ x.2.1 ≤ 99 ∧ (x.1 < 2 → wft x.2.2)) : wfL (L ++ [x]) := by
  refine ⟨by rw [List.length_append]; show L.length + 1 ≤ 10; omega, fun i hi => ?_⟩
  rw [List.length_append] at hi
  replace hi : i < L.length + 1 := hi
  by_cases e : i < L.length
  · rw [gd_l e]; exact h.2 i e
  · have e2 : i = L.length := by omega
    subst e2
    rw [gd_r]
    exact hx
theorem ldL_wf {t : Nat → Int32} {z : Nat} : ∀ (m a : Nat) (L : LND), a ≤ z → wfL L → m + L.length = 10 → (ldL t z m a L).1 = true → wfL (ldL t z m a L).2.2
  | 0, a, L, ha, hw, hl, ht => by cases ht
  | m + 1, a, L, ha, hw, hl, ht => by
    have hu := ldL_u (t := t) (z := z) (a := a) (L := L) (by omega)
    rw [show 10 - L.length = m + 1 by omega, show 9 - L.length = m by omega] at hu
    obtain ⟨g1, g2, g3⟩ := clR_G (t := t) (z := z) ha
    by_cases c1 : (clR t z a).1 = true
    · rw [if_pos c1] at hu
      have hs := wf_snoc hw (by omega) (g3 c1).2
      by_cases c2 : (clR t z a).2.1 = z
      · rw [if_pos c2] at hu
        rw [hu]; exact hs
      · rw [if_neg c2] at hu
        by_cases c3 : m = 0
        · rw [if_pos c3] at hu
          rw [hu] at ht; cases ht
        · rw [if_neg c3] at hu
          by_cases c4 : isAt t z (clR t z a).2.1 59 = true
          · rw [if_pos c4] at hu
            rw [hu] at ht ⊢
            exact ldL_wf m _ _ (by have := isAt_lt c4; omega) hs (by rw [List.length_append]; show m + (L.length + 1) = 10; omega) ht
          · rw [if_neg c4] at hu
            rw [hu] at ht; cases ht
    · rw [if_neg c1] at hu
      rw [hu] at ht; cases ht
theorem ldR_wf {t : Nat → Int32} {z : Nat} (ht : (ldR t z).1 = true) : wfL (ldR t z).2.2 := ldL_wf 10 0 [] (by omega) wf_nil rfl ht
theorem RLn_fr {c k i cc : Nat} {v x : VV} {L : LND} (hf : LFr c k v x) (hi : i < k) (hw : wfL L) (hcc : cc ≤ c) (h : RLn v i L cc) : RLn x i L cc := by
  intro j hj
  have hl := hw.1
  obtain ⟨e1, e2, e3, q, e4, e5, e6⟩ := h j hj
  obtain ⟨f1, f2, f3, f4⟩ := hf
  refine ⟨by rw [f4 126 _ (by omega) (by omega) (by omega)]; exact e1, by rw [f4 127 _ (by omega) (by omega) (by omega)]; exact e2, by rw [f4 129 _ (by omega) (by omega) (by omega)]; exact e3, q, by rw [f4 128 _ (by omega) (by omega) (by omega)]; exact e4, e5, fun y hy => by rw [f3 _ (by omega)]; exact e6 y hy⟩
theorem RLn_le {v : VV} {i c cc : Nat} {L : LND} (h : RLn v i L c) (hc : c ≤ cc) : RLn v i L cc := by
  intro j hj
  obtain ⟨e1, e2, e3, q, e4, e5, e6⟩ := h j hj
  exact ⟨e1, e2, e3, q, e4, by omega, e6⟩
theorem st_land {v : VV} {w : WV} {n k a cc z : Nat} {Ls : Nat → LND} (h : INV v w n k a cc Ls) (hz : v 108 1 = nI z) (hz1 : z ≤ 100) {r1 : Int32} {u1 : VV × WV} (c1 : r1 = sLand k (ldR (v 109) z) ∧ (u1.1, w) = u1 ∧ (k = 6 → u1.1 = v) ∧ (k < 6 → LF v u1.1 k (ldR (v 109) z))) : (u1.1 116 14 = nI k ∧ k ≤ 6 ∧ u1.1 116 12 = nI z ∧ u1.1 116 22 = nI cc ∧ cc ≤ 100 * k ∧ ∃ o : Nat, u1.1 116 24 = nI o) ∧ ∀ (r2 : Int32) (u2 : VV × WV), (r2 = sLand k (ldR (u1.1 124) z) ∧ (u2.1, u1.2) = u2 ∧ LDp u1.1 u2.1 k z cc (ldR (u1.1 124) z)) → r1 = r2 ∧ ∃ (k' a' cc' : Nat) (Ls' : Nat → LND), INV u2.1 u2.2 n k' a' cc' Ls' := by
  obtain ⟨v1, w1⟩ := u1
  obtain ⟨rfl, c2, c3, c4⟩ := c1
  dsimp only at c2 c3 c4 ⊢
  obtain ⟨-, rfl⟩ := Prod.mk.inj c2
  obtain ⟨hak, hl, hw, hx, hc, hk, he, ht⟩ := id h
  obtain ⟨⟨l1, l2, hk6⟩, l3, l4, ⟨l5, l6⟩, l7⟩ := id hl
  obtain ⟨hx1, z', z1, z2, z3, z4⟩ := id hx
  have e : z = z' := nI_inj (by omega) (by omega) (hz.symm.trans z1)
  subst e
  have ev : ∀ i, 116 ≤ i → v1 i = v i := fun i hi => by
    by_cases q : k = 6
    · rw [c3 q]
    · exact (c4 (by omega)).1 i (by omega) (by omega) (by omega) (Or.inr (by omega))
  rw [ev 116 (by omega), ev 124 (by omega), hx1]
  refine ⟨⟨l2, hk6, z2, l5, l6, l7⟩, fun r2 u2 c5 => ?_⟩
  obtain ⟨v2, w2⟩ := u2
  obtain ⟨rfl, c6, c7, c8, c9⟩ := c5
  dsimp only at c6 c7 c8 c9 ⊢
  obtain ⟨-, rfl⟩ := Prod.mk.inj c6
  refine ⟨rfl, ?_⟩
  by_cases q : k = 6
  · rw [c7 q, c3 q]; exact ⟨k, a, cc, Ls, h⟩
  have q6 : k < 6 := by omega
  have c10 := c4 q6
  rw [hx1] at c10
  obtain ⟨d1, d2, d3, d4, d5⟩ := c10
  generalize hR : ldR (v 124) z = R at c8 c9 d4 d5
  by_cases y : R.1 = true
  · obtain ⟨x, c', f, g1, g2, g3, rfl⟩ := c9 q6 y
    obtain ⟨p1, p2, p3, p4, p5⟩ := d5 y
    have hwf : wfL R.2.2 := by rw [← hR]; exact ldR_wf (by rw [hR]; exact y)
    generalize hu : up2 (up2 (up2 (up2 x 116 12 0) 125 k (nI R.2.2.length)) 116 15 (nI k)) 116 14 (nI (k + 1)) = u
    have g0 : ∀ i, i ≠ 116 → (i < 125 ∨ 130 < i) → u i = v1 i := fun i b1 b2 => by
      rw [← hu, up2_ne b1, up2_ne b1, up2_ne (by omega), up2_ne b1]; exact f.1 i b1 (by omega)
    have g116 : ∀ i, i ≠ 12 → i ≠ 14 → i ≠ 15 → (i < 22 ∨ 26 < i) → u 116 i = v 116 i := fun i b1 b2 b3 b4 => by
      rw [← hu, up2_slot b2, up2_slot b3, up2_ne (by decide), up2_slot b1, f.2.1 i b4, ev 116 (by omega)]
    have k14 : u 116 14 = nI (k + 1) := by rw [← hu, up2_same]
    have k15 : u 116 15 = nI k := by rw [← hu, up2_slot (by decide), up2_same]
    have k12 : u 116 12 = 0 := by rw [← hu, up2_slot (by decide), up2_slot (by decide), up2_ne (by decide), up2_same]
    have k22 : u 116 22 = nI c' := by rw [← hu, up2_slot (by decide), up2_slot (by decide), up2_ne (by decide), up2_slot (by decide)]; exact g3
    have gx : ∀ i, i ≠ 116 → i ≠ 125 → u i = x i := fun i b1 b2 => by rw [← hu, up2_ne b1, up2_ne b1, up2_ne b2, up2_ne b1]
    have k125 : ∀ i, u 125 i = if i = k then nI R.2.2.length else v 125 i := fun i => by
      rw [← hu, up2_ne (by decide), up2_ne (by decide), up2_at, up2_ne (by decide), f.1 125 (by decide) (by decide), ev 125 (by omega)]
    have gla : ∀ i, laC i → (i < 9 + 7 * k ∨ 14 + 7 * k < i) → u i = v i := fun i b1 b2 => by
      obtain ⟨b3, b4, b5⟩ := b1
      rw [g0 i (by omega) (by omega)]; exact d1 i (by omega) (by omega) (by omega) b2
    have gh : ∀ i, 51 < i → i ≠ 108 → i ≠ 116 → (i < 125 ∨ 130 < i) → u i = v i := fun i b1 b2 b3 b4 => by
      rw [g0 i b3 b4]; exact d1 i (by omega) (by omega) b2 (Or.inr (by omega))
    have rx : ∀ i, i ≤ 5 → repC u (9 + 7 * k) R.2.2 := fun _ _ => repC_cong (fun i b1 b2 => g0 i (by omega) (by omega)) p1
    have rp : repC u (9 + 7 * k) R.2.2 := rx 0 (by omega)
    have cl : v1 116 22 = nI cc := by rw [ev 116 (by omega)]; exact l5
    refine ⟨k + 1, k + 1, c', fun i => if i = k then R.2.2 else Ls i, by omega, ⟨⟨by rw [g0 0 (by omega) (by omega)]; exact p5, k14, by omega⟩, fun i hi => ?_, ?_, ⟨k22, by omega⟩, any_nI _⟩, ?_, ?_, ?_, ?_, ?_, ?_⟩
    · dsimp only
      by_cases e : i = k
      · subst e
        rw [if_pos rfl]
        exact ⟨hwf, RLn_cong5 (v := x) (fun j b1 b2 => gx j (by omega) (by omega)) g1, by rw [k125, if_pos rfl], rp⟩
      · rw [if_neg e]
        obtain ⟨m1, m2, m3, m4⟩ := l3 i (by omega)
        have m5 : RLn v1 i (Ls i) cc := RLn_cong5 (fun j b1 b2 => ev j (by omega)) m2
        have hcc : cc ≤ c' := g2.1
        exact ⟨m1, RLn_cong5 (v := x) (fun j b1 b2 => gx j (by omega) (by omega)) (RLn_le (RLn_fr f (by omega) m1 (Nat.le_refl _) m5) hcc), by rw [k125, if_neg e]; exact m3, repC_cong (fun j b1 b2 => gla j (laC_at (j := i + 1) (by omega) (by omega) (by omega)) (Or.inl (by omega))) m4⟩
    · exact repC_cong (fun j b1 b2 => gla j (laC_at (j := 0) (by omega) (by omega) (by omega)) (Or.inl (by omega))) l4
    · sorry
    · sorry
    · sorry
    · sorry
    · sorry
    · sorry
  · sorry
