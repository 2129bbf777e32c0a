theorem any_nI (x : Int32) : ∃ o : Nat, x = nI o := by
  refine ⟨x.toBitVec.toNat, ?_⟩
  apply Int32.toBitVec_inj.mp
  unfold nI
  show x.toBitVec = BitVec.ofNat 32 x.toBitVec.toNat
  simp
theorem lastN_rng {wd q : Nat} {L : LND} (h : wfL L) (hq : q ≤ 99) : ∀ m, m ≤ L.length → ∃ g : Nat, g ≤ 99 ∧ lastN wd (nI q) L m = nI g
  | 0, _ => ⟨q, hq, rfl⟩
  | m + 1, hm => by
    rw [lastN]
    by_cases e : (L.getD m dC).1 = wd
    · rw [if_pos e]; exact ⟨_, (h.2 m (by omega)).2.1, rfl⟩
    · rw [if_neg e]; exact lastN_rng h hq m (by omega)
theorem lastS_rng {wd q : Nat} {L : LND} (h : wfL L) (hq : q ≤ 99) : 0 ≤ (lastS wd (nI q) L).toInt ∧ (lastS wd (nI q) L).toInt ≤ 99 := by
  obtain ⟨g, g1, g2⟩ := lastN_rng (wd := wd) h hq L.length (Nat.le_refl _)
  unfold lastS
  rw [g2, nI_toInt (by omega)]
  omega
theorem gd_l {L : LND} {x : CLA} {i : Nat} (hi : i < L.length) : (L ++ [x]).getD i dC = L.getD i dC := by simp [List.getD, List.getElem?_append_left hi]
theorem gd_r {L : LND} {x : CLA} : (L ++ [x]).getD L.length dC = x := by simp [List.getD]
theorem wf_snoc {L : LND} {x : CLA} (h : wfL L) (hl : L.length < 10) (hx : x.1 < 5 ∧ x.2.1 ≤ 99 ∧ (x.1 < 2 → wft x.2.2)) : wfL (L ++ [x]) := by
  refine ⟨by rw [List.length_append]; show L.length + 1 ≤ 10; omega, fun i hi => ?_⟩
  rw [List.length_append] at hi
  replace hi : i < L.length + 1 := hi
  by_cases e : i < L.length
  · rw [gd_l e]; exact h.2 i e
  · have e2 : i = L.length := by omega
    subst e2
    rw [gd_r]
    exact hx
theorem ldL_wf {t : Nat → Int32} {z : Nat} : ∀ (m a : Nat) (L : LND), a ≤ z → wfL L → m + L.length = 10 → (ldL t z m a L).1 = true → wfL (ldL t z m a L).2.2
  | 0, a, L, ha, hw, hl, ht => by cases ht
  | m + 1, a, L, ha, hw, hl, ht => by
    have hu := ldL_u (t := t) (z := z) (a := a) (L := L) (by omega)
    rw [show 10 - L.length = m + 1 by omega, show 9 - L.length = m by omega] at hu
    obtain ⟨g1, g2, g3⟩ := clR_G (t := t) (z := z) ha
    by_cases c1 : (clR t z a).1 = true
    · rw [if_pos c1] at hu
      have hs := wf_snoc hw (by omega) (g3 c1).2
      by_cases c2 : (clR t z a).2.1 = z
      · rw [if_pos c2] at hu
        rw [hu]; exact hs
      · rw [if_neg c2] at hu
        by_cases c3 : m = 0
        · rw [if_pos c3] at hu
          rw [hu] at ht; cases ht
        · rw [if_neg c3] at hu
          by_cases c4 : isAt t z (clR t z a).2.1 59 = true
          · rw [if_pos c4] at hu
            rw [hu] at ht ⊢
            exact ldL_wf m _ _ (by have := isAt_lt c4; omega) hs (by rw [List.length_append]; show m + (L.length + 1) = 10; omega) ht
          · rw [if_neg c4] at hu
            rw [hu] at ht; cases ht
    · rw [if_neg c1] at hu
      rw [hu] at ht; cases ht
theorem ldR_wf {t : Nat → Int32} {z : Nat} (ht : (ldR t z).1 = true) : wfL (ldR t z).2.2 := ldL_wf 10 0 [] (by omega) wf_nil rfl ht
theorem RLn_fr {c k i cc : Nat} {v x : VV} {L : LND} (hf : LFr c k v x) (hi : i < k) (hw : wfL L) (hcc : cc ≤ c) (h : RLn v i L cc) : RLn x i L cc := by
  intro j hj
  have hl := hw.1
  obtain ⟨e1, e2, e3, q, e4, e5, e6⟩ := h j hj
  obtain ⟨f1, f2, f3, f4⟩ := hf
  refine ⟨by rw [f4 126 _ (by omega) (by omega) (by omega)]; exact e1, by rw [f4 127 _ (by omega) (by omega) (by omega)]; exact e2, by rw [f4 129 _ (by omega) (by omega) (by omega)]; exact e3, q, by rw [f4 128 _ (by omega) (by omega) (by omega)]; exact e4, e5, fun y hy => by rw [f3 _ (by omega)]; exact e6 y hy⟩
theorem RLn_le {v : VV} {i c cc : Nat} {L : LND} (h : RLn v i L c) (hc : c ≤ cc) : RLn v i L cc := by
  intro j hj
  obtain ⟨e1, e2, e3, q, e4, e5, e6⟩ := h j hj
  exact ⟨e1, e2, e3, q, e4, by omega, e6⟩
theorem xM_sl {v u : VV} {n : Nat} {L : LND} (h1 : ∀ i, 117 ≤ i → i ≤ 123 → u i = v i) (h2 : ∀ i, i = 0 ∨ i = 7 ∨ i = 8 ∨ i = 9 ∨ i = 11 ∨ i = 37 ∨ i = 38 → u 116 i = v 116 i) : xM u n L = xM v n L := by
  funext i j
  unfold xM
  rw [h1 117 (by omega) (by omega), h1 118 (by omega) (by omega), h1 119 (by omega) (by omega), h1 120 (by omega) (by omega), h1 121 (by omega) (by omega), h1 122 (by omega) (by omega), h1 123 (by omega) (by omega), h2 0 (by omega), h2 7 (by omega), h2 8 (by omega), h2 9 (by omega), h2 11 (by omega), h2 37 (by omega), h2 38 (by omega)]
theorem IK1_land {v u : VV} {n k k' m a zs zw zb : Nat} {Ls Ls' : Nat → LND} (hk : k ≤ k') (hL : a ≤ k → LLs Ls' a = LLs Ls a) (h1 : a ≤ k → u (2 + 7 * a) = v (2 + 7 * a)) (h2 : ∀ i, 89 ≤ i → i ≤ 107 → u i = v i) (h3 : u 117 = v 117) (h4 : u 139 = v 139) (h5 : u 140 = v 140) (h : IK1 v n k Ls m a zs zw zb) : IK1 u n k' Ls' m a zs zw zb := by
  obtain ⟨⟨m1, m2⟩, m3, m4, m5, ⟨m6, m7, m8⟩, m9, m10⟩ := h
  have ex : xC u 89 m = xC v 89 m := xC_fr (Or.inr rfl) (fun i x y => h2 i (by omega) (by omega))
  refine ⟨⟨m1, by omega⟩, by rw [h2 90 (by omega) (by omega), h4]; exact m3, by rw [ex, h4, h3, hL m2]; exact m4, by rw [ex]; exact m5, ⟨by rw [h2 89 (by omega) (by omega)]; exact m6, by rw [h4]; exact m7, stW_cong (h2 89 (by omega) (by omega)) (h1 m2) m8⟩, ?_, ?_⟩
  · rw [h2 99 (by omega) (by omega), h2 102 (by omega) (by omega), h2 105 (by omega) (by omega), h4]; exact m9
  · rw [h2 100 (by omega) (by omega), h2 101 (by omega) (by omega), h2 103 (by omega) (by omega), h2 104 (by omega) (by omega), h2 106 (by omega) (by omega), h2 107 (by omega) (by omega), h5]; exact m10
theorem IK_land {v u : VV} {n k k' : Nat} {Ls Ls' : Nat → LND} (hk : k ≤ k') (h0 : u 0 4 = v 0 4) (h40 : u 116 40 = v 116 40) (hL : ∀ a, a ≤ k → LLs Ls' a = LLs Ls a) (h1 : ∀ a, a ≤ k → u (2 + 7 * a) = v (2 + 7 * a)) (h2 : ∀ i, 89 ≤ i → i ≤ 107 → u i = v i) (h3 : u 117 = v 117) (h4 : u 139 = v 139) (h5 : u 140 = v 140) (h : IK v n k Ls) : IK u n k' Ls' := by
  unfold IK at h ⊢
  rw [h0, h40]
  rcases h with h | ⟨k1, k2, m, a', zs, zw, zb, q⟩
  · exact Or.inl h
  · exact Or.inr ⟨k1, k2, m, a', zs, zw, zb, IK1_land hk (hL a') (h1 a') h2 h3 h4 h5 q⟩
theorem st_land {v : VV} {w : WV} {n k a cc z : Nat} {Ls : Nat → LND} (h : INV v w n k a cc Ls) (hz : v 108 1 = nI z) (hz1 : z ≤ 100) {r1 : Int32} {u1 : VV × WV} (c1 : r1 = sLand k (ldR (v 109) z) ∧ (u1.1, w) = u1 ∧ (k = 6 → u1.1 = v) ∧ (k < 6 → LF v u1.1 k (ldR (v 109) z))) : (u1.1 116 14 = nI k ∧ k ≤ 6 ∧ u1.1 116 12 = nI z ∧ u1.1 116 22 = nI cc ∧ cc ≤ 100 * k ∧ ∃ o : Nat, u1.1 116 24 = nI o) ∧ ∀ (r2 : Int32) (u2 : VV × WV), (r2 = sLand k (ldR (u1.1 124) z) ∧ (u2.1, u1.2) = u2 ∧ LDp u1.1 u2.1 k z cc (ldR (u1.1 124) z)) → r1 = r2 ∧ ∃ (k' a' cc' : Nat) (Ls' : Nat → LND), INV u2.1 u2.2 n k' a' cc' Ls' := by
  obtain ⟨v1, w1⟩ := u1
  obtain ⟨rfl, c2, c3, c4⟩ := c1
  dsimp only at c2 c3 c4 ⊢
  obtain ⟨-, rfl⟩ := Prod.mk.inj c2
  obtain ⟨hak, hl, hw, hx, hc, hk, he, ht⟩ := id h
  obtain ⟨⟨l1, l2, hk6⟩, l3, l4, ⟨l5, l6⟩, l7⟩ := id hl
  obtain ⟨hx1, z', z1, z2, z3, z4⟩ := id hx
  have e : z = z' := nI_inj (by omega) (by omega) (hz.symm.trans z1)
  subst e
  have ev : ∀ i, 116 ≤ i → v1 i = v i := fun i hi => by
    by_cases q : k = 6
    · rw [c3 q]
    · exact (c4 (by omega)).1 i (by omega) (by omega) (by omega) (Or.inr (by omega))
  rw [ev 116 (by omega), ev 124 (by omega), hx1]
  refine ⟨⟨l2, hk6, z2, l5, l6, l7⟩, fun r2 u2 c5 => ?_⟩
  obtain ⟨v2, w2⟩ := u2
  obtain ⟨rfl, c6, c7, c8, c9⟩ := c5
  dsimp only at c6 c7 c8 c9 ⊢
  obtain ⟨-, rfl⟩ := Prod.mk.inj c6
  refine ⟨rfl, ?_⟩
  by_cases q : k = 6
  · rw [c7 q, c3 q]; exact ⟨k, a, cc, Ls, h⟩
  have q6 : k < 6 := by omega
  have c10 := c4 q6
  rw [hx1] at c10
  obtain ⟨d1, d2, d3, d4, d5⟩ := c10
  generalize hR : ldR (v 124) z = R at c8 c9 d4 d5
  by_cases y : R.1 = true
  · obtain ⟨x, c', f, g1, g2, g3, rfl⟩ := c9 q6 y
    obtain ⟨p1, p2, p3, p4, p5⟩ := d5 y
    have hwf : wfL R.2.2 := by rw [← hR]; exact ldR_wf (by rw [hR]; exact y)
    generalize hu : up2 (up2 (up2 (up2 x 116 12 0) 125 k (nI R.2.2.length)) 116 15 (nI k)) 116 14 (nI (k + 1)) = u
    have g0 : ∀ i, i ≠ 116 → (i < 125 ∨ 130 < i) → u i = v1 i := fun i b1 b2 => by
      rw [← hu, up2_ne b1, up2_ne b1, up2_ne (by omega), up2_ne b1]; exact f.1 i b1 (by omega)
    have g116 : ∀ i, i ≠ 12 → i ≠ 14 → i ≠ 15 → (i < 22 ∨ 26 < i) → u 116 i = v 116 i := fun i b1 b2 b3 b4 => by
      rw [← hu, up2_slot b2, up2_slot b3, up2_ne (by decide), up2_slot b1, f.2.1 i b4, ev 116 (by omega)]
    have k14 : u 116 14 = nI (k + 1) := by rw [← hu, up2_same]
    have k15 : u 116 15 = nI k := by rw [← hu, up2_slot (by decide), up2_same]
    have k12 : u 116 12 = 0 := by rw [← hu, up2_slot (by decide), up2_slot (by decide), up2_ne (by decide), up2_same]
    have k22 : u 116 22 = nI c' := by rw [← hu, up2_slot (by decide), up2_slot (by decide), up2_ne (by decide), up2_slot (by decide)]; exact g3
    have gx : ∀ i, i ≠ 116 → i ≠ 125 → u i = x i := fun i b1 b2 => by rw [← hu, up2_ne b1, up2_ne b1, up2_ne b2, up2_ne b1]
    have k125 : ∀ i, u 125 i = if i = k then nI R.2.2.length else v 125 i := fun i => by
      rw [← hu, up2_ne (by decide), up2_ne (by decide), up2_at, up2_ne (by decide), f.1 125 (by decide) (by decide), ev 125 (by omega)]
    have gla : ∀ i, laC i → (i < 9 + 7 * k ∨ 14 + 7 * k < i) → u i = v i := fun i b1 b2 => by
      obtain ⟨b3, b4, b5⟩ := b1
      rw [g0 i (by omega) (by omega)]; exact d1 i (by omega) (by omega) (by omega) b2
    have gh : ∀ i, 51 < i → i ≠ 108 → i ≠ 116 → (i < 125 ∨ 130 < i) → u i = v i := fun i b1 b2 b3 b4 => by
      rw [g0 i b3 b4]; exact d1 i (by omega) (by omega) b2 (Or.inr (by omega))
    have rx : ∀ i, i ≤ 5 → repC u (9 + 7 * k) R.2.2 := fun _ _ => repC_cong (fun i b1 b2 => g0 i (by omega) (by omega)) p1
    have rp : repC u (9 + 7 * k) R.2.2 := rx 0 (by omega)
    have cl : v1 116 22 = nI cc := by rw [ev 116 (by omega)]; exact l5
    refine ⟨k + 1, k + 1, c', fun i => if i = k then R.2.2 else Ls i, by omega, ⟨⟨by rw [g0 0 (by omega) (by omega)]; exact p5, k14, by omega⟩, fun i hi => ?_, ?_, ⟨k22, by omega⟩, any_nI _⟩, ?_, ?_, ?_, ?_, ?_, ?_⟩
    · dsimp only
      by_cases e : i = k
      · subst e
        rw [if_pos rfl]
        exact ⟨hwf, RLn_cong5 (v := x) (fun j b1 b2 => gx j (by omega) (by omega)) g1, by rw [k125, if_pos rfl], rp⟩
      · rw [if_neg e]
        obtain ⟨m1, m2, m3, m4⟩ := l3 i (by omega)
        have m5 : RLn v1 i (Ls i) cc := RLn_cong5 (fun j b1 b2 => ev j (by omega)) m2
        have hcc : cc ≤ c' := g2.1
        exact ⟨m1, RLn_cong5 (v := x) (fun j b1 b2 => gx j (by omega) (by omega)) (RLn_le (RLn_fr f (by omega) m1 (Nat.le_refl _) m5) hcc), by rw [k125, if_neg e]; exact m3, repC_cong (fun j b1 b2 => gla j (laC_at (j := i + 1) (by omega) (by omega) (by omega)) (Or.inl (by omega))) m4⟩
    · exact repC_cong (fun j b1 b2 => gla j (laC_at (j := 0) (by omega) (by omega) (by omega)) (Or.inl (by omega))) l4
    · have hLL : LLs (fun i => if i = k then R.2.2 else Ls i) (k + 1) = R.2.2 := if_pos rfl
      rw [hLL]
      have yy := fun i j => congrFun (congrFun hw.2.1 i) j
      have e51 : u 51 = v1 51 := g0 51 (by omega) (by omega)
      have h37 : u 116 37 = -1 := (g116 37 (by decide) (by decide) (by decide) (by decide)).trans hw.2.2.2.2.1.1
      have h38 : u 116 38 = -1 := (g116 38 (by decide) (by decide) (by decide) (by decide)).trans hw.2.2.2.2.1.2
      have e9 : 2 + 7 * (k + 1) = 9 + 7 * k := by omega
      obtain ⟨s1, s2, s3⟩ := id p4
      rw [e9] at s1 s2 s3
      obtain ⟨⟨o1, o2, o3⟩, _⟩ := id p1
      have exr : ∀ i, i ≠ 0 → xM u n R.2.2 i = xM v n (LLs Ls a) i := by
        intro i hi
        match i, hi with
        | 0, hi => exact absurd rfl hi
        | 1, _ => funext j; show (if j < n then u 117 j else 0) = if j < n then v 117 j else 0; rw [gh 117 (by omega) (by omega) (by omega) (by omega)]
        | 2, _ => funext j; show (if j < 6 then u 118 j else 0) = if j < 6 then v 118 j else 0; rw [gh 118 (by omega) (by omega) (by omega) (by omega)]
        | 3, _ => funext j; show (if j < 6 then u 119 j else 0) = if j < 6 then v 119 j else 0; rw [gh 119 (by omega) (by omega) (by omega) (by omega)]
        | 4, _ => funext j; show (if j < 6 then u 120 j else 0) = if j < 6 then v 120 j else 0; rw [gh 120 (by omega) (by omega) (by omega) (by omega)]
        | 5, _ => funext j; show (if j < 6 then u 121 j else 0) = if j < 6 then v 121 j else 0; rw [gh 121 (by omega) (by omega) (by omega) (by omega)]
        | 6, _ => funext j; show (if j < 24 then u 122 j else 0) = if j < 24 then v 122 j else 0; rw [gh 122 (by omega) (by omega) (by omega) (by omega)]
        | 7, _ => funext j; show (if j < 6 then u 123 j else 0) = if j < 6 then v 123 j else 0; rw [gh 123 (by omega) (by omega) (by omega) (by omega)]
        | _ + 8, _ => rfl
      refine ⟨⟨(g116 0 (by decide) (by decide) (by decide) (by decide)).trans hw.1.1, hw.1.2⟩, ?_, ?_, ⟨by rw [e51]; exact p3, k15, stW_cong e51 (g0 _ (by omega) (by omega)) p4⟩, ⟨h37, h38⟩, by rw [gh 53 (by omega) (by omega) (by omega) (by omega)]; exact hw.2.2.2.2.2.1, by rw [gh 72 (by omega) (by omega) (by omega) (by omega)]; exact hw.2.2.2.2.2.2⟩
      · funext i j
        match i with
        | 0 => match j with
          | 0 => show u 52 0 = u 116 0; rw [gh 52 (by omega) (by omega) (by omega) (by omega), g116 0 (by decide) (by decide) (by decide) (by decide)]; exact yy 0 0
          | 1 => show u 51 1 = u 116 7; rw [e51, p2 1 (by omega), g116 7 (by decide) (by decide) (by decide) (by decide)]; exact yy 0 1
          | 2 => show u 51 2 = u 116 8; rw [e51, p2 2 (by omega), g116 8 (by decide) (by decide) (by decide) (by decide)]; exact yy 0 2
          | 3 => show u 51 3 = u 116 11; rw [e51, p2 3 (by omega), g116 11 (by decide) (by decide) (by decide) (by decide)]; exact yy 0 3
          | 4 => show u 51 5 = u 116 9; rw [e51, p2 5 (by omega), g116 9 (by decide) (by decide) (by decide) (by decide)]; exact yy 0 4
          | 5 => show u 51 7 = if u 116 37 = -1 then lastS 2 5 R.2.2 else u 116 37; rw [if_pos h37, e51, s1]; exact o1
          | 6 => show u 51 8 = if u 116 38 = -1 then lastS 3 10 R.2.2 else u 116 38; rw [if_pos h38, e51, s2]; exact o2
          | 7 => show u 51 9 = lastS 4 1 R.2.2; rw [e51, s3]; exact o3
          | _ + 8 => rfl
        | i + 1 =>
          rw [exr (i + 1) (by omega), ← yy (i + 1) j]
          match i with
          | 0 => show (if j < n then u 54 j else 0) = if j < n then v 54 j else 0; rw [gh 54 (by omega) (by omega) (by omega) (by omega)]
          | 1 => show (if j < 6 then u 55 j else 0) = if j < 6 then v 55 j else 0; rw [gh 55 (by omega) (by omega) (by omega) (by omega)]
          | 2 => show (if j < 6 then u 56 j else 0) = if j < 6 then v 56 j else 0; rw [gh 56 (by omega) (by omega) (by omega) (by omega)]
          | 3 => show (if j < 6 then u 57 j else 0) = if j < 6 then v 57 j else 0; rw [gh 57 (by omega) (by omega) (by omega) (by omega)]
          | 4 => show (if j < 6 then dB (u 52 7) j else 0) = if j < 6 then dB (v 52 7) j else 0; rw [gh 52 (by omega) (by omega) (by omega) (by omega)]
          | 5 => show (if j < 24 then u 58 j else 0) = if j < 24 then v 58 j else 0; rw [gh 58 (by omega) (by omega) (by omega) (by omega)]
          | 6 => show (if j < 6 then u 59 j else 0) = if j < 6 then v 59 j else 0; rw [gh 59 (by omega) (by omega) (by omega) (by omega)]
          | _ + 7 => rfl
      · obtain ⟨r1, r2, r3, r4, r5, r6, r7⟩ := hw.2.2.1
        refine ⟨fun p hp => ?_, ?_, ?_, ?_, ?_, ?_, ?_⟩
        · rw [exr 1 (by decide), exr 2 (by decide), exr 3 (by decide), exr 5 (by decide)]; exact r1 p hp
        · rw [xM_01, g116 7 (by decide) (by decide) (by decide) (by decide)]; exact r2
        · rw [xM_02, g116 8 (by decide) (by decide) (by decide) (by decide)]; exact r3
        · rw [xM_03, g116 11 (by decide) (by decide) (by decide) (by decide)]; exact r4
        · rw [xM_04, g116 9 (by decide) (by decide) (by decide) (by decide), exr 7 (by decide)]; exact r5
        · show 0 ≤ (if u 116 38 = -1 then lastS 3 10 R.2.2 else u 116 38).toInt ∧ (if u 116 38 = -1 then lastS 3 10 R.2.2 else u 116 38).toInt ≤ 99
          rw [if_pos h38]
          exact lastS_rng (q := 10) hwf (by omega)
        · rw [xM_07]
          exact lastS_rng (q := 1) hwf (by omega)
    · exact ⟨by rw [gh 109 (by omega) (by omega) (by omega) (by omega), gh 124 (by omega) (by omega) (by omega) (by omega)]; exact hx1, 0, by rw [g0 108 (by omega) (by omega)]; exact d2, k12, by omega, fun i hi => absurd hi (Nat.not_lt_zero i)⟩
    · exact IC_cong (fun i b1 b2 => gh i (by omega) (by omega) (by omega) (by omega)) (g116 28 (by decide) (by decide) (by decide) (by decide)) (g116 31 (by decide) (by decide) (by decide) (by decide)) (g116 34 (by decide) (by decide) (by decide) (by decide)) (fun i b1 b2 => gh i (by omega) (by omega) (by omega) (by omega)) hc
    · exact IK_land (by omega) (by rw [g0 0 (by omega) (by omega)]; exact d3 4 (by decide)) (g116 40 (by decide) (by decide) (by decide) (by decide)) (fun b hb => by
        cases b with
        | zero => rfl
        | succ b => exact if_neg (by omega)) (fun b hb => gla _ (laC_at (j := b) (by omega) (by omega) (by omega)) (Or.inl (by omega))) (fun i b1 b2 => gh i (by omega) (by omega) (by omega) (by omega)) (gh 117 (by omega) (by omega) (by omega) (by omega)) (gh 139 (by omega) (by omega) (by omega) (by omega)) (gh 140 (by omega) (by omega) (by omega) (by omega)) hk
    · exact IE_cong (by rw [gh 110 (by omega) (by omega) (by omega) (by omega)]) (gh 111 (by omega) (by omega) (by omega) (by omega)) (gh 141 (by omega) (by omega) (by omega) (by omega)) (g116 43 (by decide) (by decide) (by decide) (by decide)) he
    · exact IF_cong (fun i b1 b2 => gh i (by omega) (by omega) (by omega) (by omega)) (fun i b1 b2 => gh i (by omega) (by omega) (by omega) (by omega)) ht
  · have y0 : R.1 = false := by simpa using y
    obtain ⟨x, f, rfl⟩ := c8 q6 y0
    obtain ⟨p1, p2⟩ := d4 y0
    generalize hu : up2 (up2 x 116 12 0) 116 22 (nI cc) = u
    have gx : ∀ i, i ≠ 116 → u i = x i := fun i b1 => by rw [← hu, up2_ne b1, up2_ne b1]
    have g0 : ∀ i, i ≠ 116 → (i < 126 ∨ 130 < i) → u i = v1 i := fun i b1 b2 => (gx i b1).trans (f.1 i b1 b2)
    have g116 : ∀ i, i ≠ 12 → (i < 22 ∨ 26 < i) → u 116 i = v 116 i := fun i b1 b4 => by
      rw [← hu, up2_slot (by omega), up2_slot b1, f.2.1 i b4, ev 116 (by omega)]
    have k12 : u 116 12 = 0 := by rw [← hu, up2_slot (by decide), up2_same]
    have k22 : u 116 22 = nI cc := by rw [← hu, up2_same]
    have gla : ∀ i, laC i → (i < 9 + 7 * k ∨ 14 + 7 * k < i) → u i = v i := fun i b1 b2 => by
      obtain ⟨b3, b4, b5⟩ := b1
      rw [g0 i (by omega) (by omega)]; exact d1 i (by omega) (by omega) (by omega) b2
    have gh : ∀ i, 51 < i → i ≠ 108 → i ≠ 116 → (i < 126 ∨ 130 < i) → u i = v i := fun i b1 b2 b3 b4 => by
      rw [g0 i b3 b4]; exact d1 i (by omega) (by omega) b2 (Or.inr (by omega))
    have e51 : u 51 = v 51 := (g0 51 (by omega) (by omega)).trans p1
    refine ⟨k, a, cc, Ls, hak, ⟨⟨by rw [g0 0 (by omega) (by omega), p2]; exact l1, by rw [g116 14 (by decide) (by decide)]; exact l2, hk6⟩, fun i hi => ?_, ?_, ⟨k22, l6⟩, any_nI _⟩, ?_, ?_, ?_, ?_, ?_, ?_⟩
    · obtain ⟨m1, m2, m3, m4⟩ := l3 i (by omega)
      have m5 : RLn v1 i (Ls i) cc := RLn_cong5 (fun j b1 b2 => ev j (by omega)) m2
      exact ⟨m1, RLn_cong5 (v := x) (fun j b1 b2 => gx j (by omega)) (RLn_fr f hi m1 (Nat.le_refl _) m5), by rw [gh 125 (by omega) (by omega) (by omega) (by omega)]; exact m3, repC_cong (fun j b1 b2 => gla j (laC_at (j := i + 1) (by omega) (by omega) (by omega)) (Or.inl (by omega))) m4⟩
    · exact repC_cong (fun j b1 b2 => gla j (laC_at (j := 0) (by omega) (by omega) (by omega)) (Or.inl (by omega))) l4
    · exact IW_cong (xC_cong (fun i _ => by rw [e51]) (fun i b1 b2 b3 => gh i (by omega) (by omega) (by omega) (by omega))) (xM_sl (fun i b1 b2 => gh i (by omega) (by omega) (by omega) (by omega)) (fun i b => g116 i (by omega) (by omega))) (g116 0 (by decide) (by decide)) (by rw [e51]) (g116 15 (by decide) (by decide)) (g116 37 (by decide) (by decide)) (g116 38 (by decide) (by decide)) (stW_cong e51 (gla _ (laC_at (j := a) (by omega) (by omega) (by omega)) (Or.inl (by omega))) hw.2.2.2.1.2.2) (gh 53 (by omega) (by omega) (by omega) (by omega)) (gh 72 (by omega) (by omega) (by omega) (by omega)) hw
    · exact ⟨by rw [gh 109 (by omega) (by omega) (by omega) (by omega), gh 124 (by omega) (by omega) (by omega) (by omega)]; exact hx1, 0, by rw [g0 108 (by omega) (by omega)]; exact d2, k12, by omega, fun i hi => absurd hi (Nat.not_lt_zero i)⟩
    · exact IC_cong (fun i b1 b2 => gh i (by omega) (by omega) (by omega) (by omega)) (g116 28 (by decide) (by decide)) (g116 31 (by decide) (by decide)) (g116 34 (by decide) (by decide)) (fun i b1 b2 => gh i (by omega) (by omega) (by omega) (by omega)) hc
    · exact IK_land (Nat.le_refl k) (by rw [g0 0 (by omega) (by omega)]; exact d3 4 (by decide)) (g116 40 (by decide) (by decide)) (fun _ _ => rfl) (fun b hb => gla _ (laC_at (j := b) (by omega) (by omega) (by omega)) (Or.inl (by omega))) (fun i b1 b2 => gh i (by omega) (by omega) (by omega) (by omega)) (gh 117 (by omega) (by omega) (by omega) (by omega)) (gh 139 (by omega) (by omega) (by omega) (by omega)) (gh 140 (by omega) (by omega) (by omega) (by omega)) hk
    · exact IE_cong (by rw [gh 110 (by omega) (by omega) (by omega) (by omega)]) (gh 111 (by omega) (by omega) (by omega) (by omega)) (gh 141 (by omega) (by omega) (by omega) (by omega)) (g116 43 (by decide) (by decide)) he
    · exact IF_cong (fun i b1 b2 => gh i (by omega) (by omega) (by omega) (by omega)) (fun i b1 b2 => gh i (by omega) (by omega) (by omega) (by omega)) ht
