/-! calls that change: the class, then the reference; what holds goes on to hold -/
theorem INV_2 {v u X : VV} {w : WV} {n k a cc : Nat} {Ls : Nat → LND} (h : INV v w n k a cc Ls) (hf : frW v u n) (hx : xC u 51 n = X) (hm : xM u n (LLs Ls a) = X) (hr : RX n 9999 X) (h0 : u 116 0 = v 116 0) (h6 : ∀ q, 5 < q → u 51 q = v 51 q) : INV u w n k a cc Ls := by
  obtain ⟨hak, hl, hw, _⟩ := id h
  have hk6 := hl.1.2.2
  obtain ⟨s1, s2, s3⟩ := hw.2.2.2.1.2.2
  have e2 : u (2 + 7 * a) = v (2 + 7 * a) := hf.1 _ (by omega) (by omega) (fun q hq => by omega) (by omega) (by omega) (by omega)
  exact INV_W hf (Nat.le_refl n) h (IW_up hx hm hr h0 (h6 6 (by omega)) (hf.2.1 15 (by omega) (by omega) (by omega) (by omega) (by omega)) (hf.2.1 37 (by omega) (by omega) (by omega) (by omega) (by omega)) (hf.2.1 38 (by omega) (by omega) (by omega) (by omega) (by omega)) ⟨by rw [h6 7 (by omega), e2]; exact s1, by rw [h6 8 (by omega), e2]; exact s2, by rw [h6 9 (by omega), e2]; exact s3⟩ (hf.1 53 (by omega) (by omega) (fun q hq => by omega) (by omega) (by omega) (by omega)) (hf.1 72 (by omega) (by omega) (fun q hq => by omega) (by omega) (by omega) (by omega)) hw)
theorem RX_d01 {n B p : Nat} {X : VV} {x : Int32} (h : RX n B X) : RX n B (up2 X 5 p (if x = 0 then 0 else 1)) := by
  refine ⟨fun a ha => ?_, by simpa [up2] using h.2⟩
  obtain ⟨h1, h2, h3, h4⟩ := h.1 a ha
  refine ⟨by simpa [up2] using h1, by simpa [up2] using h2, by simpa [up2] using h3, ?_⟩
  by_cases e : a = p
  · subst e
    rw [up2_same]
    split
    · exact Or.inl rfl
    · exact Or.inr rfl
  · rw [up2_slot e]; exact h4
theorem RX_rw {n B p : Nat} {X : VV} {x : Int32} (h : RX n B X) : RX n B (up2 X 6 p x) := ⟨fun a ha => by simpa [up2] using h.1 a ha, by simpa [up2] using h.2⟩
theorem RX_he {n B g : Nat} {X : VV} (hg : g ≤ 999) (h : RX n B X) : RX n B (up2 X 0 1 (nI g)) := by
  refine ⟨fun a ha => by simpa [up2] using h.1 a ha, ?_, by simpa [up2] using h.2.2⟩
  simp only [up2, and_self, if_true]; rw [nI_toInt (by omega)]; omega
theorem RX_sm {n B g : Nat} {X : VV} (hg : g ≤ 999) (h : RX n B X) : RX n B (up2 X 0 2 (nI g)) := by
  refine ⟨fun a ha => by simpa [up2] using h.1 a ha, by simpa [up2] using h.2.1, ?_, by simpa [up2] using h.2.2.2⟩
  simp only [up2, and_self, if_true]; rw [nI_toInt (by omega)]; omega
theorem RX_r0 {n B : Nat} {X : VV} (h : RX n B X) : RX n B (up2 X 0 4 0) := by
  refine ⟨fun a ha => by simpa [up2] using h.1 a ha, by simpa [up2] using h.2.1, by simpa [up2] using h.2.2.1, by simpa [up2] using h.2.2.2.1, ⟨0, by omega, by simp [up2]; rfl, fun i hi => absurd hi (Nat.not_lt_zero i)⟩, by simpa [up2] using h.2.2.2.2.2.1, by simpa [up2] using h.2.2.2.2.2.2⟩
theorem RX_r1 {n B q p : Nat} {X : VV} (hq : X 0 4 = nI q) (hq6 : q < 6) (hp : p < n) (h : RX n B X) : RX n B (up2 (up2 X 7 q (nI p)) 0 4 (nI (q + 1))) := by
  obtain ⟨q', h6, e1, e2⟩ := h.2.2.2.2.1
  have e : q = q' := nI_inj (by omega) (by omega) (hq.symm.trans e1)
  subst e
  refine ⟨fun a ha => by simpa [up2] using h.1 a ha, by simpa [up2] using h.2.1, by simpa [up2] using h.2.2.1, by simpa [up2] using h.2.2.2.1, ⟨q + 1, by omega, by simp [up2], fun i hi => ?_⟩, by simpa [up2] using h.2.2.2.2.2.1, by simpa [up2] using h.2.2.2.2.2.2⟩
  rw [up2_ne (by decide)]
  by_cases c : i = q
  · subst c; exact ⟨p, hp, up2_same _ _ _ _⟩
  · rw [up2_slot c]; exact e2 i (by omega)
theorem st_thanks {v : VV} {w : WV} {n k a cc : Nat} {Ls : Nat → LND} (h : INV v w n k a cc Ls) {x0 x1 r1 : Int32} {u1 : VV × WV} (c1 : r1 = sThanks (nI n) (v 56) x0 x1 ∧ (if isP (nI n) x0 && inR x1 0 999 then up2 v 56 x0.toNatClampNeg x1 else v, w) = u1) : u1.1 116 0 = nI n ∧ ∀ (r2 : Int32) (u2 : VV × WV), (r2 = sThanks (nI n) (u1.1 119) x0 x1 ∧ (if isP (nI n) x0 && inR x1 0 999 then up2 u1.1 119 x0.toNatClampNeg x1 else u1.1, u1.2) = u2) → r1 = r2 ∧ INV u2.1 u2.2 n k a cc Ls := by
  obtain ⟨rfl, rfl⟩ := c1
  have hw := h.2.2.1
  have h6 := hw.1.2
  by_cases q : (isP (nI n) x0 && inR x1 0 999) = true
  · rw [if_pos q]
    obtain ⟨q1, q2⟩ := Bool.and_eq_true_iff.mp q
    obtain ⟨p, e1, e2, e3⟩ := isP_nat (by omega) q1
    obtain ⟨g, g1, g2, g3, g4⟩ := inR_nat (a := 0) (b := 999) rfl rfl (by decide) q2
    refine ⟨by show up2 v 56 x0.toNatClampNeg x1 116 0 = _; rw [up2_ne (by decide)]; exact hw.1.1, fun r2 u2 c2 => ?_⟩
    obtain ⟨rfl, rfl⟩ := c2
    rw [if_pos q]
    show sThanks (nI n) (v 56) x0 x1 = sThanks (nI n) (up2 v 56 x0.toNatClampNeg x1 119) x0 x1 ∧ INV (up2 (up2 v 56 x0.toNatClampNeg x1) 119 x0.toNatClampNeg x1) w n k a cc Ls
    rw [e3, up2_ne (by decide)]
    refine ⟨by unfold sThanks; rw [e3, IW_th hw (by omega)], ?_⟩
    try dsimp only
    refine INV_2 (X := up2 (xM v n (LLs Ls a)) 3 p x1) h ⟨fun i b1 b2 b3 b4 b5 b6 => by rw [up2_ne (by omega), up2_ne (by omega)], fun i _ _ _ _ _ => by rw [up2_ne (by decide), up2_ne (by decide)], fun i _ => by rw [up2_ne (by decide), up2_ne (by decide)]⟩ ?_ ?_ (by rw [g1]; exact RX_th g3 hw.2.2.1) (by rw [up2_ne (by decide), up2_ne (by decide)]) (fun i _ => by rw [up2_ne (by decide), up2_ne (by decide)])
    · rw [xC_cong (v := up2 v 56 p x1) (fun i _ => by rw [up2_ne (by decide)]) (fun i b1 b2 b3 => up2_ne (by omega)), ← hw.2.1]
      exact xC_up_th (b := 51) (by omega)
    · rw [xM_up_th (by omega), xM_cong (v := v) (fun i b1 b2 => up2_ne (by omega))]
  · rw [if_neg q]
    refine ⟨hw.1.1, fun r2 u2 c2 => ?_⟩
    obtain ⟨rfl, rfl⟩ := c2
    rw [if_neg q]
    refine ⟨?_, h⟩
    unfold sThanks
    by_cases q1 : isP (nI n) x0 = true
    · rw [if_pos q1, if_pos q1]
      by_cases q2 : inR x1 0 999 = true
      · exact absurd (Bool.and_eq_true_iff.mpr ⟨q1, q2⟩) q
      · rw [if_neg q2, if_neg q2]
    · rw [if_neg q1, if_neg q1]
theorem st_kill {v : VV} {w : WV} {n k a cc : Nat} {Ls : Nat → LND} (h : INV v w n k a cc Ls) {x0 x1 r1 : Int32} {u1 : VV × WV} (c1 : r1 = (if isP (nI n) x0 then bI (bt (v 52 7) x0.toNatClampNeg) else -1) ∧ (if isP (nI n) x0 then up2 v 52 7 (sdB (v 52 7) x0.toNatClampNeg x1) else v, w) = u1) : u1.1 116 0 = nI n ∧ ∀ (r2 : Int32) (u2 : VV × WV), (r2 = (if isP (nI n) x0 then u1.1 121 x0.toNatClampNeg else -1) ∧ (if isP (nI n) x0 then up2 u1.1 121 x0.toNatClampNeg (if x1 = 0 then 0 else 1) else u1.1, u1.2) = u2) → r1 = r2 ∧ INV u2.1 u2.2 n k a cc Ls := by
  obtain ⟨rfl, rfl⟩ := c1
  have hw := h.2.2.1
  have h6 := hw.1.2
  by_cases q : isP (nI n) x0 = true
  · obtain ⟨p, e1, e2, e3⟩ := isP_nat (by omega) q
    simp only [if_pos q]
    refine ⟨by rw [up2_ne (by decide)]; exact hw.1.1, fun r2 u2 c2 => ?_⟩
    obtain ⟨rfl, rfl⟩ := c2
    rw [e3, up2_ne (by decide)]
    refine ⟨IW_dead hw (by omega), ?_⟩
    try dsimp only
    refine INV_2 (X := up2 (xM v n (LLs Ls a)) 5 p (if x1 = 0 then 0 else 1)) h ⟨fun i b1 b2 b3 b4 b5 b6 => by rw [up2_ne (by omega), up2_ne (by omega)], fun i _ _ _ _ _ => by rw [up2_ne (by decide), up2_ne (by decide)], fun i _ => by rw [up2_ne (by decide), up2_ne (by decide)]⟩ ?_ ?_ (RX_d01 hw.2.2.1) (by rw [up2_ne (by decide), up2_ne (by decide)]) (fun i _ => by rw [up2_ne (by decide), up2_ne (by decide)])
    · rw [xC_cong (v := up2 v 52 7 (sdB (v 52 7) p x1)) (fun i _ => by rw [up2_ne (by decide)]) (fun i b1 b2 b3 => up2_ne (by omega)), ← hw.2.1]
      exact xC_up_dead (b := 51) (by omega)
    · rw [xM_up_dead (by omega), xM_cong (v := v) (fun i b1 b2 => up2_ne (by omega))]
  · simp only [if_neg q]
    refine ⟨hw.1.1, fun r2 u2 c2 => ?_⟩
    obtain ⟨rfl, rfl⟩ := c2
    exact ⟨rfl, h⟩
theorem xM_up_row {v : VV} {n k : Nat} {L : LND} {x : Int32} (h : k < 24) : xM (up2 v 122 k x) n L = up2 (xM v n L) 6 k x := by
  funext i j
  match i with
  | 0 => match j with
    | 0 => simp [xM, up2]
    | 1 => simp [xM, up2]
    | 2 => simp [xM, up2]
    | 3 => simp [xM, up2]
    | 4 => simp [xM, up2]
    | 5 => simp [xM, up2]
    | 6 => simp [xM, up2]
    | 7 => simp [xM, up2]
    | j + 8 => simp [xM, up2]
  | 1 => simp [xM, up2]
  | 2 => simp [xM, up2]
  | 3 => simp [xM, up2]
  | 4 => simp [xM, up2]
  | 5 => simp [xM, up2]
  | 6 =>
    by_cases e : j = k
    · subst e; simp [xM, up2, h]
    · simp [xM, up2, e]
  | 7 => simp [xM, up2]
  | i + 8 => simp [xM, up2]
theorem okRow_eq {n : Nat} {f g : Nat → Int32} (hn : n ≤ 6) (hy : ∀ q, q < n → f q = g q) (x y z : Int32) : okRow (nI n) f x y z = okRow (nI n) g x y z := by
  unfold okRow
  by_cases q : isP (nI n) x = true
  · obtain ⟨p, e1, e2, e3⟩ := isP_nat (by omega) q
    rw [e3, hy p e2]
  · rw [Bool.not_eq_true] at q
    rw [q]
    rfl
theorem st_row {v : VV} {w : WV} {n k a cc : Nat} {Ls : Nat → LND} (h : INV v w n k a cc Ls) {x0 x1 x2 r1 : Int32} {u1 : VV × WV} (c1 : r1 = sRow (nI n) (v 54) (v 58) x0 x1 x2 ∧ (if okRow (nI n) (v 54) x0 x1 x2 then up2 v 58 (4 * x0.toNatClampNeg + x1.toNatClampNeg) x2 else v, w) = u1) : u1.1 116 0 = nI n ∧ ∀ (r2 : Int32) (u2 : VV × WV), (r2 = sRow (nI n) (u1.1 117) (u1.1 122) x0 x1 x2 ∧ (if okRow (nI n) (u1.1 117) x0 x1 x2 then up2 u1.1 122 (4 * x0.toNatClampNeg + x1.toNatClampNeg) x2 else u1.1, u1.2) = u2) → r1 = r2 ∧ INV u2.1 u2.2 n k a cc Ls := by
  obtain ⟨rfl, rfl⟩ := c1
  have hw := h.2.2.1
  have h6 := hw.1.2
  have hkd : ∀ q, q < n → v 54 q = v 117 q := fun q hq => IW_kd hw hq
  have hres : sRow (nI n) (v 54) (v 58) x0 x1 x2 = sRow (nI n) (v 117) (v 122) x0 x1 x2 := by
    unfold sRow
    by_cases q : (isP (nI n) x0 && inR x1 0 3) = true
    · obtain ⟨q1, q2⟩ := Bool.and_eq_true_iff.mp q
      obtain ⟨p, e1, e2, e3⟩ := isP_nat (by omega) q1
      obtain ⟨g, g1, g2, g3, g4⟩ := inR_nat (a := 0) (b := 3) rfl rfl (by decide) q2
      rw [e3, g4, hkd p e2, IW_row hw (by omega)]
    · rw [if_neg q, if_neg q]
  rw [okRow_eq h6 hkd]
  by_cases q : okRow (nI n) (v 117) x0 x1 x2 = true
  · have q0 := q
    unfold okRow at q0
    obtain ⟨q3, q4⟩ := Bool.and_eq_true_iff.mp q0
    obtain ⟨q5, q6⟩ := Bool.and_eq_true_iff.mp q3
    obtain ⟨q1, q2⟩ := Bool.and_eq_true_iff.mp q5
    obtain ⟨p, e1, e2, e3⟩ := isP_nat (by omega) q1
    obtain ⟨g, g1, g2, g3, g4⟩ := inR_nat (a := 0) (b := 3) rfl rfl (by decide) q2
    simp only [if_pos q]
    refine ⟨by rw [up2_ne (by decide)]; exact hw.1.1, fun r2 u2 c2 => ?_⟩
    obtain ⟨rfl, rfl⟩ := c2
    rw [up2_ne (j := 117) (by decide), up2_ne (j := 122) (by decide), if_pos q, e3, g4]
    refine ⟨hres, ?_⟩
    try dsimp only
    refine INV_2 (X := up2 (xM v n (LLs Ls a)) 6 (4 * p + g) x2) h ⟨fun i b1 b2 b3 b4 b5 b6 => by rw [up2_ne (by omega), up2_ne (by omega)], fun i _ _ _ _ _ => by rw [up2_ne (by decide), up2_ne (by decide)], fun i _ => by rw [up2_ne (by decide), up2_ne (by decide)]⟩ ?_ ?_ (RX_rw hw.2.2.1) (by rw [up2_ne (by decide), up2_ne (by decide)]) (fun i _ => by rw [up2_ne (by decide), up2_ne (by decide)])
    · rw [xC_cong (v := up2 v 58 (4 * p + g) x2) (fun i _ => by rw [up2_ne (by decide)]) (fun i b1 b2 b3 => up2_ne (by omega)), ← hw.2.1]
      exact xC_up_row (b := 51) (by omega)
    · have e : xM (up2 (up2 v 58 (4 * p + g) x2) 122 (4 * p + g) x2) n (LLs Ls a) = up2 (xM (up2 v 58 (4 * p + g) x2) n (LLs Ls a)) 6 (4 * p + g) x2 := xM_up_row (by omega)
      rw [e, xM_cong (v := v) (fun i b1 b2 => up2_ne (by omega))]
  · simp only [if_neg q]
    refine ⟨hw.1.1, fun r2 u2 c2 => ?_⟩
    obtain ⟨rfl, rfl⟩ := c2
    exact ⟨hres, h⟩
theorem st_soldier {v : VV} {w : WV} {n k a cc : Nat} {Ls : Nat → LND} (h : INV v w n k a cc Ls) {x0 x1 r1 : Int32} {u1 : VV × WV} (c1 : r1 = sSoldier (v 51 1) (v 51 2) x0 x1 ∧ (if okSoldier x0 x1 then (if x0 = 0 then up2 v 51 1 x1 else up2 v 51 2 x1) else v, w) = u1) (r2 : Int32) (u2 : VV × WV) (c2 : r2 = sSoldier (u1.1 116 7) (u1.1 116 8) x0 x1 ∧ (if okSoldier x0 x1 then (if x0 = 0 then up2 u1.1 116 7 x1 else up2 u1.1 116 8 x1) else u1.1, u1.2) = u2) : r1 = r2 ∧ INV u2.1 u2.2 n k a cc Ls := by
  obtain ⟨rfl, rfl⟩ := c1
  obtain ⟨rfl, rfl⟩ := c2
  have hw := h.2.2.1
  have h6 := hw.1.2
  by_cases q : okSoldier x0 x1 = true
  · have q0 := q
    unfold okSoldier at q0
    obtain ⟨q1, q2⟩ := Bool.and_eq_true_iff.mp q0
    obtain ⟨g, g1, g2, g3, g4⟩ := inR_nat (a := 0) (b := 999) rfl rfl (by decide) q2
    by_cases c : x0 = 0
    · simp only [if_pos q, if_pos c]
      rw [up2_ne (j := 116) (by decide), IW_he hw, IW_sm hw]
      refine ⟨rfl, ?_⟩
      try dsimp only
      refine INV_2 (X := up2 (xM v n (LLs Ls a)) 0 1 x1) h ⟨fun i b1 b2 b3 b4 b5 b6 => by rw [up2_ne (by omega), up2_ne (by omega)], fun i _ b _ _ _ => by rw [up2_slot b, up2_ne (by decide)], fun i _ => by rw [up2_ne (by decide), up2_ne (by decide)]⟩ ?_ ?_ (by rw [g1]; exact RX_he g3 hw.2.2.1) (by rw [up2_slot (by decide), up2_ne (by decide)]) (fun i _ => by rw [up2_ne (by decide), up2_slot (by omega)])
      · rw [xC_cong (v := up2 v 51 1 x1) (fun i _ => by rw [up2_ne (by decide)]) (fun i b1 b2 b3 => up2_ne (by omega)), ← hw.2.1]
        exact xC_up_he (b := 51)
      · rw [xM_up_he, xM_cong (v := v) (fun i b1 b2 => up2_ne (by omega))]
    · simp only [if_pos q, if_neg c]
      rw [up2_ne (j := 116) (by decide), IW_he hw, IW_sm hw]
      refine ⟨rfl, ?_⟩
      try dsimp only
      refine INV_2 (X := up2 (xM v n (LLs Ls a)) 0 2 x1) h ⟨fun i b1 b2 b3 b4 b5 b6 => by rw [up2_ne (by omega), up2_ne (by omega)], fun i _ _ b _ _ => by rw [up2_slot b, up2_ne (by decide)], fun i _ => by rw [up2_ne (by decide), up2_ne (by decide)]⟩ ?_ ?_ (by rw [g1]; exact RX_sm g3 hw.2.2.1) (by rw [up2_slot (by decide), up2_ne (by decide)]) (fun i _ => by rw [up2_ne (by decide), up2_slot (by omega)])
      · rw [xC_cong (v := up2 v 51 2 x1) (fun i _ => by rw [up2_ne (by decide)]) (fun i b1 b2 b3 => up2_ne (by omega)), ← hw.2.1]
        exact xC_up_sm (b := 51)
      · rw [xM_up_sm, xM_cong (v := v) (fun i b1 b2 => up2_ne (by omega))]
  · simp only [if_neg q]
    rw [IW_he hw, IW_sm hw]
    exact ⟨rfl, h⟩
theorem st_round {v : VV} {w : WV} {n k a cc q : Nat} {Ls : Nat → LND} (h : INV v w n k a cc Ls) (hq6 : q ≤ 6) (hq9 : v 116 9 = nI q) {x0 r1 : Int32} {u1 : VV × WV} (c1 : r1 = sRound (nI n) q x0 ∧ (if x0 = -1 then up2 v 51 5 0 else if isP (nI n) x0 && decide (q < 6) then up2 (up2 v 59 q x0) 51 5 (nI (q + 1)) else v, w) = u1) : (u1.1 116 0 = nI n ∧ u1.1 116 9 = nI q) ∧ ∀ (r2 : Int32) (u2 : VV × WV), (r2 = sRound (nI n) q x0 ∧ (if x0 = -1 then up2 u1.1 116 9 0 else if isP (nI n) x0 && decide (q < 6) then up2 (up2 u1.1 116 9 (nI (q + 1))) 123 q x0 else u1.1, u1.2) = u2) → r1 = r2 ∧ INV u2.1 u2.2 n k a cc Ls := by
  obtain ⟨rfl, rfl⟩ := c1
  have hw := h.2.2.1
  have h6 := hw.1.2
  by_cases c : x0 = -1
  · simp only [if_pos c]
    refine ⟨⟨by rw [up2_ne (by decide)]; exact hw.1.1, by rw [up2_ne (by decide)]; exact hq9⟩, fun r2 u2 c2 => ?_⟩
    obtain ⟨rfl, rfl⟩ := c2
    refine ⟨rfl, ?_⟩
    try dsimp only
    refine INV_2 (X := up2 (xM v n (LLs Ls a)) 0 4 0) h ⟨fun i b1 b2 b3 b4 b5 b6 => by rw [up2_ne (by omega), up2_ne (by omega)], fun i _ _ _ b _ => by rw [up2_slot b, up2_ne (by decide)], fun i _ => by rw [up2_ne (by decide), up2_ne (by decide)]⟩ ?_ ?_ (RX_r0 hw.2.2.1) (by rw [up2_slot (by decide), up2_ne (by decide)]) (fun i _ => by rw [up2_ne (by decide), up2_slot (by omega)])
    · rw [xC_cong (v := up2 v 51 5 0) (fun i _ => by rw [up2_ne (by decide)]) (fun i b1 b2 b3 => up2_ne (by omega)), ← hw.2.1]
      exact xC_up_pl (b := 51)
    · rw [xM_up_pl, xM_cong (v := v) (fun i b1 b2 => up2_ne (by omega))]
  · simp only [if_neg c]
    by_cases b : (isP (nI n) x0 && decide (q < 6)) = true
    · obtain ⟨q1, q2⟩ := Bool.and_eq_true_iff.mp b
      have q3 : q < 6 := of_decide_eq_true q2
      obtain ⟨p, e1, e2, e3⟩ := isP_nat (by omega) q1
      simp only [if_pos b]
      refine ⟨⟨by rw [up2_ne (by decide), up2_ne (by decide)]; exact hw.1.1, by rw [up2_ne (by decide), up2_ne (by decide)]; exact hq9⟩, fun r2 u2 c2 => ?_⟩
      obtain ⟨rfl, rfl⟩ := c2
      refine ⟨rfl, ?_⟩
      try dsimp only
      refine INV_2 (X := up2 (up2 (xM v n (LLs Ls a)) 7 q x0) 0 4 (nI (q + 1))) h ⟨fun i b1 b2 b3 b4 b5 b6 => by rw [up2_ne (by omega), up2_ne (by omega), up2_ne (by omega), up2_ne (by omega)], fun i _ _ _ b _ => by rw [up2_ne (by decide), up2_slot b, up2_ne (by decide), up2_ne (by decide)], fun i _ => by rw [up2_ne (by decide), up2_ne (by decide), up2_ne (by decide), up2_ne (by decide)]⟩ ?_ ?_ (by rw [e1]; exact RX_r1 (by rw [xM_04]; exact hq9) q3 e2 hw.2.2.1) (by rw [up2_ne (by decide), up2_slot (by decide), up2_ne (by decide), up2_ne (by decide)]) (fun i _ => by rw [up2_ne (by decide), up2_ne (by decide), up2_slot (by omega), up2_ne (by decide)])
      · rw [xC_cong (v := up2 (up2 v 59 q x0) 51 5 (nI (q + 1))) (fun i _ => by rw [up2_ne (by decide), up2_ne (by decide)]) (fun i b1 b2 b3 => by rw [up2_ne (by omega), up2_ne (by omega)]), ← hw.2.1]
        rw [← xC_up_rnd (b := 51) q3]
        exact xC_up_pl (b := 51)
      · rw [xM_up_rnd q3, xM_up_pl, xM_cong (v := v) (fun i b1 b2 => by rw [up2_ne (by omega), up2_ne (by omega)])]
        funext i j
        by_cases y : i = 7
        · subst y; simp [up2]
        · simp [up2, y]
    · simp only [if_neg b]
      refine ⟨⟨hw.1.1, hq9⟩, fun r2 u2 c2 => ?_⟩
      obtain ⟨rfl, rfl⟩ := c2
      exact ⟨rfl, h⟩
theorem RX_at {n B d : Nat} {X : VV} (h : RX n B X) (hd : X 0 3 = nI d) (h9 : d < 2 ^ 31) : RX n d X := ⟨h.1, h.2.1, h.2.2.1, ⟨h.2.2.2.1.1, by rw [hd, nI_toInt h9]; omega⟩, h.2.2.2.2⟩
theorem RX_le {n B C : Nat} {X : VV} (h : RX n B X) (hc : B ≤ C) : RX n C X := ⟨h.1, h.2.1, h.2.2.1, ⟨h.2.2.2.1.1, by have := h.2.2.2.1.2; omega⟩, h.2.2.2.2⟩
theorem RX_pass {n : Nat} {X : VV} {L : LND} {x : Int32} (hn : n ≤ 6) (h : RX n 9999 X) (hp : okPass X x = true) : RX n 9999 (daysS X L n x.toNatClampNeg) := by
  unfold okPass at hp
  obtain ⟨q1, q2⟩ := Bool.and_eq_true_iff.mp hp
  obtain ⟨q3, q4⟩ := Bool.and_eq_true_iff.mp q1
  obtain ⟨g, g1, g2, g3, g4⟩ := inR_nat (a := 0) (b := 60) rfl rfl (by decide) q3
  obtain ⟨d, d1, d2, d3⟩ := RX_day h (by omega)
  have hs := of_decide_eq_true q2
  rw [d1, g1, nI_add, show (9999 : Int32) = nI 9999 from rfl, i_lt, nI_toInt (by omega), nI_toInt (by omega)] at hs
  rw [g4]
  exact RX_le (RX_daysS hn (RX_at h d1 (by omega)) g (by omega)) (by omega)
theorem st_pass {v : VV} {w : WV} {n k a cc : Nat} {Ls : Nat → LND} (h : INV v w n k a cc Ls) {x0 r1 : Int32} {u1 : VV × WV} (c1 : r1 = sPass (xC v 51 n) (LLs Ls a) n x0 ∧ (u1.1, w) = u1 ∧ frD v u1.1 51 a ∧ xC u1.1 51 n = (if okPass (xC v 51 n) x0 then daysS (xC v 51 n) (LLs Ls a) n x0.toNatClampNeg else xC v 51 n)) : DM u1.1 n 9999 (LLs Ls a) ∧ ∀ (r2 : Int32) (u2 : VV × WV), (r2 = sPass (xM u1.1 n (LLs Ls a)) (LLs Ls a) n x0 ∧ (u2.1, u1.2) = u2 ∧ frM u1.1 u2.1 ∧ xM u2.1 n (LLs Ls a) = (if okPass (xM u1.1 n (LLs Ls a)) x0 then daysS (xM u1.1 n (LLs Ls a)) (LLs Ls a) n x0.toNatClampNeg else xM u1.1 n (LLs Ls a))) → r1 = r2 ∧ INV u2.1 u2.2 n k a cc Ls := by
  obtain ⟨v1, w1⟩ := u1
  obtain ⟨rfl, c2, c3, c4⟩ := c1
  dsimp only at c2 c3 c4 ⊢
  obtain ⟨-, rfl⟩ := Prod.mk.inj c2
  obtain ⟨hak, hl, hw, _⟩ := id h
  have hk6 := hl.1.2.2
  have h6 := hw.1.2
  have e1 : ∀ i, 80 < i → v1 i = v i := fun i hi => c3.1 i (by omega) (by omega) (by omega) (by omega) (by omega)
  have em : xM v1 n (LLs Ls a) = xM v n (LLs Ls a) := xM_cong (fun i b1 b2 => e1 i (by omega))
  have hd := IW_DM hl hak hw
  refine ⟨DM_up hd (by rw [e1 116 (by omega)]) (by rw [e1 116 (by omega)]) (fun i b1 b2 => e1 i (by omega)) (by rw [em]; exact hw.2.2.1), fun r2 u2 c5 => ?_⟩
  obtain ⟨v2, w2⟩ := u2
  obtain ⟨rfl, c6, c7, c8⟩ := c5
  dsimp only at c6 c7 c8 ⊢
  obtain ⟨-, rfl⟩ := Prod.mk.inj c6
  rw [em] at c8
  rw [em, ← hw.2.1]
  refine ⟨rfl, ?_⟩
  rw [← hw.2.1] at c8
  refine INV_2 (X := xM v2 n (LLs Ls a)) h ⟨fun i b1 b2 b3 b4 b5 b6 => ?_, fun i b1 b2 b3 b4 b5 => ?_, fun i b1 => ?_⟩ ?_ rfl ?_ ?_ (fun i b1 => ?_)
  · rw [c7.1 i (by omega) (by omega) (by omega) (by omega)]
    exact c3.1 i (by omega) (by omega) (by omega) (by omega) (b3 a (by omega))
  · rw [c7.2.1 i b2 b3 b5, e1 116 (by omega)]
  · rw [c7.1 117 (by omega) (by omega) (by omega) (by omega), e1 117 (by omega)]
  · have e5 : xC v2 51 n = xC v1 51 n := xC_cong (fun i _ => by rw [c7.1 51 (by omega) (by omega) (by omega) (by omega)]) (fun i b1 b2 b3 => c7.1 i (by omega) (by omega) (by omega) (by omega))
    rw [e5, c4, c8]
  · rw [c8]
    by_cases q : okPass (xC v 51 n) x0 = true
    · rw [if_pos q]
      exact RX_pass h6 (by rw [hw.2.1]; exact hw.2.2.1) q
    · rw [if_neg q, hw.2.1]
      exact hw.2.2.1
  · rw [c7.2.1 0 (by omega) (by omega) (by omega), e1 116 (by omega)]
  · rw [c7.1 51 (by omega) (by omega) (by omega) (by omega)]
    exact c3.2 i (by omega) (by omega) (by omega)
