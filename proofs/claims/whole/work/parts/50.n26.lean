theorem ranV_k {v : VV} {t : Nat} {b : Int32} {q : Nat} (hq : q ≠ 43) : ranV v t b 116 q = v 116 q := by
  unfold ranV
  rw [up2_slot hq]
  split
  · rw [up2_ne (by decide)]
  · rfl
theorem ranL_k {q : Nat} (hq : q ≠ 43) : ∀ (l : List Int32) (v : VV) (t : Nat), ranL v t l 116 q = v 116 q
  | [], _, _ => rfl
  | b :: l, v, t => by rw [ranL, ranL_k hq l]; exact ranV_k hq
theorem ran_rel : ∀ (l : List Int32) (v u : VV) (t : Nat), (∀ i, i < min t 20 → v 111 i = u 141 i) → ∀ i, i < min (t + l.length) 20 → ranCL v t l 111 i = ranL u t l 141 i
  | [], v, u, t, hy, i, hi => hy i hi
  | b :: l, v, u, t, hy, i, hi => by
    rw [ranCL, ranL]
    refine ran_rel l _ _ (t + 1) (fun q hq => ?_) i (by rw [List.length_cons] at hi; omega)
    unfold ranC ranV
    rw [up2_ne (by decide), up2_ne (by decide)]
    by_cases e : t < 20
    · rw [if_pos e, if_pos e]
      by_cases f : q = t
      · subst f; rw [up2_same, up2_same]
      · rw [up2_slot f, up2_slot f]; exact hy q (by omega)
    · rw [if_neg e, if_neg e]; exact hy q (by omega)
theorem actL_len {own : Nat} {x : Int32} (ho : own ≤ 6) : (actL own x).length < 1000 := by
  unfold actL
  rcases (show own = 0 ∨ own = 1 ∨ own = 2 ∨ own = 3 ∨ own = 4 ∨ own = 5 ∨ own = 6 by omega) with rfl | rfl | rfl | rfl | rfl | rfl | rfl <;> (split; · decide) <;> (split <;> decide)
theorem lAct_eq {n : Nat} {f g : Nat → Int32} (hn : n ≤ 6) (hy : ∀ q, q < n → f q = g q) (x y : Int32) : lAct n f x y = lAct n g x y := by
  unfold lAct
  by_cases q : isP (nI n) x = true
  · obtain ⟨p, e1, e2, e3⟩ := isP_nat (by omega) q
    rw [e3, hy p e2]
  · simp [q]
theorem sAct_eq {n : Nat} {f g f' g' : Nat → Int32} (hn : n ≤ 6) (hy : ∀ q, q < n → f q = f' q ∧ g q = g' q) (x y z : Int32) : sAct n f g x y z = sAct n f' g' x y z := by
  unfold sAct
  by_cases q : isP (nI n) x = true
  · obtain ⟨p, e1, e2, e3⟩ := isP_nat (by omega) q
    rw [e3, (hy p e2).1, (hy p e2).2]
  · simp [q]
theorem lAct_len {n : Nat} {f : Nat → Int32} (hn : n ≤ 6) (hk : ∀ q, q < n → ∃ o : Nat, o ≤ 6 ∧ f q = nI o) (x y : Int32) : (lAct n f x y).length < 1000 := by
  unfold lAct
  by_cases q : (isP (nI n) x && inR y 0 2) = true
  · rw [if_pos q]
    obtain ⟨p, e1, e2, e3⟩ := isP_nat (by omega) (Bool.and_eq_true_iff.mp q).1
    obtain ⟨o, o1, o2⟩ := hk p e2
    rw [e3, o2, nI_clamp (by omega)]
    exact actL_len o1
  · rw [if_neg q]; decide
theorem st_act {v : VV} {w : WV} {n k a cc : Nat} {Ls : Nat → LND} (h : INV v w n k a cc Ls) {x0 x1 x2 r1 : Int32} {u1 : VV × WV} (c1 : r1 = sAct n (v 54) (v 55) x0 x1 x2 ∧ (u1.1, w) = u1 ∧ ∃ v1 : VV, v1 110 1 = 0 ∧ (∀ i, i ≠ 110 → v1 i = v i) ∧ u1.1 = ranCL v1 0 (lAct n (v 54) x0 x1)) : (u1.1 116 0 = nI n ∧ ∀ q, q < n → ∃ o : Nat, o ≤ 6 ∧ u1.1 117 q = nI o) ∧ ∀ (r2 : Int32) (u2 : VV × WV), (r2 = sAct n (u1.1 117) (u1.1 118) x0 x1 x2 ∧ (ranL (up2 u1.1 116 43 0) 0 (lAct n (u1.1 117) x0 x1), u1.2) = u2) → r1 = r2 ∧ INV u2.1 u2.2 n k a cc Ls := by
  obtain ⟨v2, w2⟩ := u1
  obtain ⟨rfl, c2, v1, c3, c4, c5⟩ := c1
  dsimp only at c2 c5 ⊢
  obtain ⟨-, rfl⟩ := Prod.mk.inj c2
  obtain ⟨hak, hl, hw, hx, hc, hk, he, ht⟩ := id h
  have hk6 := hl.1.2.2
  have h6 := hw.1.2
  have e2 : ∀ i, i ≠ 110 → i ≠ 111 → v2 i = v i := fun i b1 b2 => by rw [c5, ranCL_ne b2 b1, c4 i b1]
  rw [e2 116 (by decide) (by decide), e2 117 (by decide) (by decide), e2 118 (by decide) (by decide)]
  refine ⟨⟨hw.1.1, fun q hq => IW_k6 hw hq⟩, fun r2 u2 c6 => ?_⟩
  obtain ⟨rfl, rfl⟩ := c6
  refine ⟨sAct_eq h6 (fun q hq => ⟨IW_kd hw hq, IW_v hw (by omega)⟩) _ _ _, ?_⟩
  dsimp only
  rw [lAct_eq h6 (fun q hq => IW_kd hw hq)] at c5
  generalize hl0 : lAct n (v 117) x0 x1 = l at c5 ⊢
  have hlen : l.length < 1000 := by rw [← hl0]; exact lAct_len h6 (fun q hq => IW_k6 hw hq) _ _
  have e3 : ∀ i, i ≠ 110 → i ≠ 111 → i ≠ 116 → i ≠ 141 → ranL (up2 v2 116 43 0) 0 l i = v i := fun i b1 b2 b3 b4 => by rw [ranL_ne b4 b3, up2_ne b3, e2 i b1 b2]
  have e4 : ∀ i, i ≠ 43 → ranL (up2 v2 116 43 0) 0 l 116 i = v 116 i := fun i b => by rw [ranL_k b, up2_slot b, e2 116 (by decide) (by decide)]
  have e5 : ranL (up2 v2 116 43 0) 0 l 110 = v2 110 := by rw [ranL_ne (by decide) (by decide), up2_ne (by decide)]
  have e6 : ranL (up2 v2 116 43 0) 0 l 111 = v2 111 := by rw [ranL_ne (by decide) (by decide), up2_ne (by decide)]
  refine INV_S h ⟨fun i b => e3 i (by omega) (by omega) (by omega) (by omega), fun i _ _ _ _ _ b => e4 i b, fun i b1 b2 b3 => e3 i (by omega) (by omega) (by omega) (by omega)⟩ (IX_cong (e3 108 (by decide) (by decide) (by decide) (by decide)) (e3 109 (by decide) (by decide) (by decide) (by decide)) (e3 124 (by decide) (by decide) (by decide) (by decide)) (e4 12 (by decide)) hx) (IC_cong (fun i b1 b2 => e3 i (by omega) (by omega) (by omega) (by omega)) (e4 28 (by decide)) (e4 31 (by decide)) (e4 34 (by decide)) (fun i b1 b2 => e3 i (by omega) (by omega) (by omega) (by omega)) hc) (IK_cong hk6 (by rw [e3 0 (by decide) (by decide) (by decide) (by decide)]) (e4 40 (by decide)) (fun i b0 b1 => e3 i (by omega) (by omega) (by omega) (by omega)) (fun i b0 b1 b2 => e3 i (by omega) (by omega) (by omega) (by omega)) (e3 117 (by decide) (by decide) (by decide) (by decide)) (e3 139 (by decide) (by decide) (by decide) (by decide)) (e3 140 (by decide) (by decide) (by decide) (by decide)) hk) ⟨l.length, ?_, ?_, hlen, fun i hi => ?_⟩ (IF_cong (fun i b1 b2 => e3 i (by omega) (by omega) (by omega) (by omega)) (fun i b1 b2 => e3 i (by omega) (by omega) (by omega) (by omega)) ht)
  · rw [e5, c5, ranCL_1 l v1 0 c3, Nat.zero_add]
  · exact (ranL_43 l _ 0 up43).trans (by rw [Nat.zero_add])
  · rw [e6]
    exact (congrFun (congrFun c5 111) i).trans (ran_rel l v1 (up2 v2 116 43 0) 0 (fun q hq => absurd hq (by omega)) i (by omega))
/-- one more -/
theorem st_person {v : VV} {w : WV} {n k a cc : Nat} {Ls : Nat → LND} (h : INV v w n k a cc Ls) {x0 x1 x2 r1 : Int32} {u1 : VV × WV} (c1 : r1 = sPerson n x0 x1 x2 ∧ (if okPerson n x0 x1 x2 then joS v 52 n x0 x1 x2 else v, w) = u1) : u1.1 116 0 = nI n ∧ ∀ (r2 : Int32) (u2 : VV × WV), (r2 = sPerson n x0 x1 x2 ∧ (if okPerson n x0 x1 x2 then up2 (upc (up2 (up2 (up2 (up2 (up2 u1.1 117 n x0) 118 n x1) 119 n x2) 120 n 0) 121 n 0) 122 (zr (u1.1 122) (4 * n) 4)) 116 0 (nI (n + 1)) else u1.1, u1.2) = u2) → r1 = r2 ∧ ∃ n', INV u2.1 u2.2 n' k a cc Ls := by
  obtain ⟨rfl, rfl⟩ := c1
  have hw := h.2.2.1
  have hk6 := h.2.1.1.2.2
  have hak := h.1
  by_cases q : okPerson n x0 x1 x2 = true
  · simp only [if_pos q]
    have j0 : ∀ i, i < 52 ∨ i = 53 ∨ 58 < i → joS v 52 n x0 x1 x2 i = v i := fun i hi => by
      unfold joS
      rw [up2_ne (by omega), up2_ne (by omega), upc_ne (by omega), up2_ne (by omega), up2_ne (by omega), up2_ne (by omega), up2_ne (by omega)]
    refine ⟨by rw [j0 116 (by omega)]; exact hw.1.1, fun r2 u2 c2 => ?_⟩
    obtain ⟨rfl, rfl⟩ := c2
    refine ⟨rfl, n + 1, ?_⟩
    dsimp only
    unfold okPerson at q
    obtain ⟨q1, q2⟩ := Bool.and_eq_true_iff.mp q
    obtain ⟨q3, q4⟩ := Bool.and_eq_true_iff.mp q1
    obtain ⟨q5, q6⟩ := Bool.and_eq_true_iff.mp q3
    have hn : n < 6 := of_decide_eq_true q2
    obtain ⟨p0, a1, _, a2, _⟩ := inR_nat (a := 0) (b := 6) rfl rfl (by decide) q5
    obtain ⟨p1, b1, _, b2, _⟩ := inR_nat (a := 0) (b := 9) rfl rfl (by decide) q6
    obtain ⟨p2, d1, _, d2, _⟩ := inR_nat (a := 0) (b := 999) rfl rfl (by decide) q4
    rw [j0 122 (by omega)]
    generalize hu : up2 (upc (up2 (up2 (up2 (up2 (up2 (joS v 52 n x0 x1 x2) 117 n x0) 118 n x1) 119 n x2) 120 n 0) 121 n 0) 122 (zr (v 122) (4 * n) 4)) 116 0 (nI (n + 1)) = u
    have g0 : ∀ i, (i < 52 ∨ i = 53 ∨ 58 < i) → i ≠ 116 → (i < 117 ∨ 122 < i) → u i = v i := fun i e1 e2 e3 => by
      rw [← hu, up2_ne (by omega), upc_ne (by omega), up2_ne (by omega), up2_ne (by omega), up2_ne (by omega), up2_ne (by omega), up2_ne (by omega), j0 i e1]
    have g116 : ∀ i, i ≠ 0 → u 116 i = v 116 i := fun i e => by
      rw [← hu, up2_slot e, upc_ne (by decide), up2_ne (by decide), up2_ne (by decide), up2_ne (by decide), up2_ne (by decide), up2_ne (by decide), j0 116 (by omega)]
    have g1160 : u 116 0 = nI (n + 1) := by rw [← hu, up2_same]
    have k54 : u 54 = upd (v 54) n x0 := by rw [← hu]; funext i; simp [up2, upc, upd, joS]
    have k55 : u 55 = upd (v 55) n x1 := by rw [← hu]; funext i; simp [up2, upc, upd, joS]
    have k56 : u 56 = upd (v 56) n x2 := by rw [← hu]; funext i; simp [up2, upc, upd, joS]
    have k57 : u 57 = upd (v 57) n 0 := by rw [← hu]; funext i; simp [up2, upc, upd, joS]
    have k58 : u 58 = zr (v 58) (4 * n) 4 := by rw [← hu]; funext i; simp [up2, upc, joS]
    have k527 : u 52 7 = sdB (v 52 7) n 0 := by rw [← hu]; simp [up2, upc, joS]
    have k520 : u 52 0 = nI (n + 1) := by rw [← hu]; simp [up2, upc, joS]
    have k117 : u 117 = upd (v 117) n x0 := by rw [← hu]; funext i; simp [up2, upc, upd]; rw [j0 117 (by omega)]
    have k118 : u 118 = upd (v 118) n x1 := by rw [← hu]; funext i; simp [up2, upc, upd]; rw [j0 118 (by omega)]
    have k119 : u 119 = upd (v 119) n x2 := by rw [← hu]; funext i; simp [up2, upc, upd]; rw [j0 119 (by omega)]
    have k120 : u 120 = upd (v 120) n 0 := by rw [← hu]; funext i; simp [up2, upc, upd]; rw [j0 120 (by omega)]
    have k121 : u 121 = upd (v 121) n 0 := by rw [← hu]; funext i; simp [up2, upc, upd]; rw [j0 121 (by omega)]
    have k122 : u 122 = zr (v 122) (4 * n) 4 := by rw [← hu]; funext i; simp [up2, upc]
    have hx0 : xC u 51 (n + 1) = xM u (n + 1) (LLs Ls a) := by
      have y := fun i j => congrFun (congrFun hw.2.1 i) j
      funext i j
      match i with
      | 0 => match j with
        | 0 => show u 52 0 = u 116 0; rw [k520, g1160]
        | 1 => show u 51 1 = u 116 7; rw [g0 51 (by omega) (by omega) (by omega), g116 7 (by decide)]; exact y 0 1
        | 2 => show u 51 2 = u 116 8; rw [g0 51 (by omega) (by omega) (by omega), g116 8 (by decide)]; exact y 0 2
        | 3 => show u 51 3 = u 116 11; rw [g0 51 (by omega) (by omega) (by omega), g116 11 (by decide)]; exact y 0 3
        | 4 => show u 51 5 = u 116 9; rw [g0 51 (by omega) (by omega) (by omega), g116 9 (by decide)]; exact y 0 4
        | 5 => show u 51 7 = if u 116 37 = -1 then lastS 2 5 (LLs Ls a) else u 116 37; rw [g0 51 (by omega) (by omega) (by omega), g116 37 (by decide)]; exact y 0 5
        | 6 => show u 51 8 = if u 116 38 = -1 then lastS 3 10 (LLs Ls a) else u 116 38; rw [g0 51 (by omega) (by omega) (by omega), g116 38 (by decide)]; exact y 0 6
        | 7 => show u 51 9 = lastS 4 1 (LLs Ls a); rw [g0 51 (by omega) (by omega) (by omega)]; exact y 0 7
        | _ + 8 => rfl
      | 1 =>
        show (if j < n + 1 then u 54 j else 0) = if j < n + 1 then u 117 j else 0
        by_cases e : j < n + 1
        · rw [if_pos e, if_pos e, k54, k117]
          by_cases f : j = n
          · simp only [upd, if_pos f]
          · simp only [upd, if_neg f]; exact IW_kd hw (by omega)
        · rw [if_neg e, if_neg e]
      | 2 =>
        show (if j < 6 then u 55 j else 0) = if j < 6 then u 118 j else 0
        by_cases e : j < 6
        · rw [if_pos e, if_pos e, k55, k118]
          by_cases f : j = n
          · simp only [upd, if_pos f]
          · simp only [upd, if_neg f]; exact IW_v hw e
        · rw [if_neg e, if_neg e]
      | 3 =>
        show (if j < 6 then u 56 j else 0) = if j < 6 then u 119 j else 0
        by_cases e : j < 6
        · rw [if_pos e, if_pos e, k56, k119]
          by_cases f : j = n
          · simp only [upd, if_pos f]
          · simp only [upd, if_neg f]; exact IW_th hw e
        · rw [if_neg e, if_neg e]
      | 4 =>
        show (if j < 6 then u 57 j else 0) = if j < 6 then u 120 j else 0
        by_cases e : j < 6
        · rw [if_pos e, if_pos e, k57, k120]
          by_cases f : j = n
          · simp only [upd, if_pos f]
          · simp only [upd, if_neg f]
            have z := y 4 j
            rw [xC_got e, xM_got e] at z
            exact z
        · rw [if_neg e, if_neg e]
      | 5 =>
        show (if j < 6 then dB (u 52 7) j else 0) = if j < 6 then u 121 j else 0
        by_cases e : j < 6
        · rw [if_pos e, if_pos e, k527, k121]
          unfold dB
          rw [sdB_b (by omega) (by omega)]
          by_cases f : j = n
          · simp only [upd, if_pos f]; rfl
          · simp only [upd, if_neg f]; exact IW_dead hw e
        · rw [if_neg e, if_neg e]
      | 6 =>
        show (if j < 24 then u 58 j else 0) = if j < 24 then u 122 j else 0
        by_cases e : j < 24
        · rw [if_pos e, if_pos e, k58, k122]
          unfold zr
          split
          · rfl
          · exact IW_row hw e
        · rw [if_neg e, if_neg e]
      | 7 =>
        show (if j < 6 then u 59 j else 0) = if j < 6 then u 123 j else 0
        rw [g0 59 (by omega) (by omega) (by omega), g0 123 (by omega) (by omega) (by omega)]
        exact y 7 j
      | _ + 8 => rfl
    have hr : RX (n + 1) 9999 (xM u (n + 1) (LLs Ls a)) := by
      obtain ⟨r1, r2, r3, r4, r5, r6, r7⟩ := hw.2.2.1
      refine ⟨fun p hp => ?_, ?_, ?_, ?_, ?_, ?_, r7⟩
      · rw [xM_kd hp, xM_v (by omega), xM_th (by omega), xM_dead (by omega), k117, k118, k119, k121]
        by_cases f : p = n
        · simp only [upd, if_pos f]
          rw [a1, b1, d1, nI_toInt (by omega), nI_toInt (by omega), nI_toInt (by omega)]
          exact ⟨by omega, by omega, by omega, Or.inl trivial⟩
        · simp only [upd, if_neg f]
          have z := r1 p (by omega)
          rw [xM_kd (by omega), xM_v (by omega), xM_th (by omega), xM_dead (by omega)] at z
          exact z
      · rw [xM_01, g116 7 (by decide)]; exact r2
      · rw [xM_02, g116 8 (by decide)]; exact r3
      · rw [xM_03, g116 11 (by decide)]; exact r4
      · obtain ⟨m, m1, m2, m3⟩ := r5
        refine ⟨m, m1, by rw [xM_04, g116 9 (by decide)]; exact m2, fun i hi => ?_⟩
        obtain ⟨p, p1, p2⟩ := m3 i hi
        refine ⟨p, by omega, ?_⟩
        rw [xM_rnd (by omega), g0 123 (by omega) (by omega) (by omega)]
        rw [xM_rnd (by omega)] at p2
        exact p2
      · show 0 ≤ (if u 116 38 = -1 then lastS 3 10 (LLs Ls a) else u 116 38).toInt ∧ (if u 116 38 = -1 then lastS 3 10 (LLs Ls a) else u 116 38).toInt ≤ 99
        rw [g116 38 (by decide)]; exact r6
    refine INV_W (v := v) ⟨fun i e1 e2 e3 e4 e5 e6 => ?_, fun i e1 _ _ _ _ => g116 i e1, fun i hi => by rw [k117]; simp only [upd, if_neg (show ¬ i = n by omega)]⟩ (by omega) h ⟨⟨g1160, by omega⟩, hx0, hr, ⟨by rw [g0 51 (by omega) (by omega) (by omega)]; exact hw.2.2.2.1.1, by rw [g116 15 (by decide)]; exact hw.2.2.2.1.2.1, stW_cong (g0 51 (by omega) (by omega) (by omega)) (g0 _ (by omega) (by omega) (by omega)) hw.2.2.2.1.2.2⟩, by rw [g116 37 (by decide), g116 38 (by decide)]; exact hw.2.2.2.2.1, by rw [g0 53 (by omega) (by omega) (by omega)]; exact hw.2.2.2.2.2.1, by rw [g0 72 (by omega) (by omega) (by omega)]; exact hw.2.2.2.2.2.2⟩
    exact g0 i (by omega) (by omega) (by omega)
  · simp only [if_neg q]
    refine ⟨hw.1.1, fun r2 u2 c2 => ?_⟩
    obtain ⟨rfl, rfl⟩ := c2
    exact ⟨rfl, n, h⟩
