/-! steps outside the world now -/
def frX (v u : VV) : Prop := (∀ i, i < 61 ∨ i = 72 → u i = v i) ∧ (∀ i, i ≠ 12 → i ≠ 28 → i ≠ 31 → i ≠ 34 → i ≠ 40 → i ≠ 43 → u 116 i = v 116 i) ∧ ∀ i, 117 ≤ i → i ≤ 130 → i ≠ 124 → u i = v i
theorem frX_116 {v u : VV} (h : frX v u) : u 116 0 = v 116 0 ∧ u 116 14 = v 116 14 ∧ u 116 15 = v 116 15 ∧ u 116 22 = v 116 22 ∧ u 116 24 = v 116 24 ∧ u 116 37 = v 116 37 ∧ u 116 38 = v 116 38 := ⟨h.2.1 0 (by decide) (by decide) (by decide) (by decide) (by decide) (by decide), h.2.1 14 (by decide) (by decide) (by decide) (by decide) (by decide) (by decide), h.2.1 15 (by decide) (by decide) (by decide) (by decide) (by decide) (by decide), h.2.1 22 (by decide) (by decide) (by decide) (by decide) (by decide) (by decide), h.2.1 24 (by decide) (by decide) (by decide) (by decide) (by decide) (by decide), h.2.1 37 (by decide) (by decide) (by decide) (by decide) (by decide) (by decide), h.2.1 38 (by decide) (by decide) (by decide) (by decide) (by decide) (by decide)⟩
theorem frX_xM {v u : VV} {n : Nat} {L : LND} (h : frX v u) : xM u n L = xM v n L := by
  funext i j
  unfold xM
  rw [h.2.2 117 (by omega) (by omega) (by omega), h.2.2 118 (by omega) (by omega) (by omega), h.2.2 119 (by omega) (by omega) (by omega), h.2.2 120 (by omega) (by omega) (by omega), h.2.2 121 (by omega) (by omega) (by omega), h.2.2 122 (by omega) (by omega) (by omega), h.2.2 123 (by omega) (by omega) (by omega), h.2.1 0 (by decide) (by decide) (by decide) (by decide) (by decide) (by decide), h.2.1 7 (by decide) (by decide) (by decide) (by decide) (by decide) (by decide), h.2.1 8 (by decide) (by decide) (by decide) (by decide) (by decide) (by decide), h.2.1 11 (by decide) (by decide) (by decide) (by decide) (by decide) (by decide), h.2.1 9 (by decide) (by decide) (by decide) (by decide) (by decide) (by decide), h.2.1 37 (by decide) (by decide) (by decide) (by decide) (by decide) (by decide), h.2.1 38 (by decide) (by decide) (by decide) (by decide) (by decide) (by decide)]
theorem RLn_cong5 {v u : VV} {k cc : Nat} {L : LND} (hf : ∀ i, 126 ≤ i → i ≤ 130 → u i = v i) (h : RLn v k L cc) : RLn u k L cc := by
  unfold RLn at h ⊢
  rw [hf 126 (by omega) (by omega), hf 127 (by omega) (by omega), hf 128 (by omega) (by omega), hf 129 (by omega) (by omega), hf 130 (by omega) (by omega)]
  exact h
theorem INV_S {v u : VV} {w x : WV} {n k a cc : Nat} {Ls : Nat → LND} (h : INV v w n k a cc Ls) (hf : frX v u) (hx : IX u) (hc : IC u n) (hk : IK u n k Ls) (he : IE u) (ht : IF u x) : INV u x n k a cc Ls := by
  obtain ⟨hak, hl, hw, _⟩ := h
  have hk6 := hl.1.2.2
  obtain ⟨e0, e14, e15, e22, e24, e37, e38⟩ := frX_116 hf
  refine ⟨hak, IL_cong (by rw [hf.1 0 (by omega)]) e14 e22 e24 (fun i b => hf.1 i (by have := b.2.1; omega)) (fun i b1 b2 => hf.2.2 i (by omega) (by omega) (by omega)) hl, ?_, hx, hc, hk, he, ht⟩
  exact IW_cong (xC_fr (Or.inl rfl) (fun i b1 b2 => hf.1 i (by omega))) (frX_xM hf) e0 (by rw [hf.1 51 (by omega)]) e15 e37 e38 (stW_cong (hf.1 51 (by omega)) (hf.1 _ (by omega)) hw.2.2.2.1.2.2) (hf.1 53 (by omega)) (hf.1 72 (by omega)) hw
theorem IX_cong {v u : VV} (h1 : u 108 = v 108) (h2 : u 109 = v 109) (h3 : u 124 = v 124) (h4 : u 116 12 = v 116 12) (h : IX v) : IX u := by
  unfold IX at h ⊢
  rw [h1, h2, h3, h4]
  exact h
theorem IC_cong {v u : VV} {n : Nat} (h1 : ∀ i, 61 ≤ i → i ≤ 69 → u i = v i) (h2 : u 116 28 = v 116 28) (h3 : u 116 31 = v 116 31) (h4 : u 116 34 = v 116 34) (h5 : ∀ i, 132 ≤ i → i ≤ 137 → u i = v i) (h : IC v n) : IC u n := by
  unfold IC at h ⊢
  rw [h1 61 (by omega) (by omega), h1 62 (by omega) (by omega), h1 63 (by omega) (by omega), h1 64 (by omega) (by omega), h1 65 (by omega) (by omega), h1 66 (by omega) (by omega), h1 67 (by omega) (by omega), h1 68 (by omega) (by omega), h1 69 (by omega) (by omega), h2, h3, h4, h5 132 (by omega) (by omega), h5 133 (by omega) (by omega), h5 134 (by omega) (by omega), h5 135 (by omega) (by omega), h5 136 (by omega) (by omega), h5 137 (by omega) (by omega)]
  exact h
theorem IK1_cong {v u : VV} {n k m a zs zw zb : Nat} {Ls : Nat → LND} (hk6 : k ≤ 6) (h1 : ∀ i, i ≤ 50 → laC i → u i = v i) (h2 : ∀ i, 89 ≤ i → i ≤ 107 → i ≠ 91 → u i = v i) (h3 : u 117 = v 117) (h4 : u 139 = v 139) (h5 : u 140 = v 140) (h : IK1 v n k Ls m a zs zw zb) : IK1 u n k Ls m a zs zw zb := by
  obtain ⟨⟨m1, m2⟩, m3, m4, m5, ⟨m6, m7, m8⟩, m9, m10⟩ := h
  have ex : xC u 89 m = xC v 89 m := xC_cong (fun i _ => by rw [h2 89 (by omega) (by omega) (by omega)]) (fun i x y z => h2 i (by omega) (by omega) (by omega))
  refine ⟨⟨m1, m2⟩, by rw [h2 90 (by omega) (by omega) (by omega), h4]; exact m3, by rw [ex, h4, h3]; exact m4, by rw [ex]; exact m5, ⟨by rw [h2 89 (by omega) (by omega) (by omega)]; exact m6, by rw [h4]; exact m7, stW_cong (h2 89 (by omega) (by omega) (by omega)) (h1 _ (by omega) (laC_at (j := a) (by omega) (by omega) (by omega))) m8⟩, ?_, ?_⟩
  · rw [h2 99 (by omega) (by omega) (by omega), h2 102 (by omega) (by omega) (by omega), h2 105 (by omega) (by omega) (by omega), h4]; exact m9
  · rw [h2 100 (by omega) (by omega) (by omega), h2 101 (by omega) (by omega) (by omega), h2 103 (by omega) (by omega) (by omega), h2 104 (by omega) (by omega) (by omega), h2 106 (by omega) (by omega) (by omega), h2 107 (by omega) (by omega) (by omega), h5]; exact m10
theorem IK_cong {v u : VV} {n k : Nat} {Ls : Nat → LND} (hk6 : k ≤ 6) (h0 : u 0 4 = v 0 4) (h40 : u 116 40 = v 116 40) (h1 : ∀ i, i ≤ 50 → laC i → u i = v i) (h2 : ∀ i, 89 ≤ i → i ≤ 107 → i ≠ 91 → u i = v i) (h3 : u 117 = v 117) (h4 : u 139 = v 139) (h5 : u 140 = v 140) (h : IK v n k Ls) : IK u n k Ls := by
  unfold IK at h ⊢
  rw [h0, h40]
  rcases h with h | ⟨k1, k2, m, a', zs, zw, zb, q⟩
  · exact Or.inl h
  · exact Or.inr ⟨k1, k2, m, a', zs, zw, zb, IK1_cong hk6 h1 h2 h3 h4 h5 q⟩
theorem IE_cong {v u : VV} (h1 : u 110 1 = v 110 1) (h2 : u 111 = v 111) (h3 : u 141 = v 141) (h4 : u 116 43 = v 116 43) (h : IE v) : IE u := by
  unfold IE at h ⊢
  rw [h1, h2, h3, h4]
  exact h
theorem IF_cong {v u : VV} {w : WV} (h1 : ∀ i, 113 ≤ i → i ≤ 114 → u i = v i) (h2 : ∀ i, 142 ≤ i → i ≤ 143 → u i = v i) (h : IF v w) : IF u w := by
  unfold IF at h ⊢
  rw [h1 113 (by omega) (by omega), h1 114 (by omega) (by omega), h2 142 (by omega) (by omega), h2 143 (by omega) (by omega)]
  exact h
/-! the pairs grow -/
theorem IP_s1 {n zs zw zb d : Nat} {x y : Int32} {a1 a2 b1 b2 d1 d2 a3 a4 b3 b4 d3 d4 : Nat → Int32} (h : IP n zs zw zb a1 a2 b1 b2 d1 d2 a3 a4 b3 b4 d3 d4) (hz : zs < 5) (hy : y = nI d) (hd : d ≤ 20) : IP n (zs + 1) zw zb (upd a1 zs x) (upd a2 zs y) b1 b2 d1 d2 (upd a3 zs x) (upd a4 zs y) b3 b4 d3 d4 := by
  obtain ⟨⟨h1, h2⟩, h3⟩ := h
  refine ⟨⟨by omega, fun i hi => ?_⟩, h3⟩
  by_cases e : i = zs
  · subst e; simp only [upd, if_true]; exact ⟨trivial, trivial, d, hd, hy⟩
  · simp only [upd, if_neg e]; exact h2 i (by omega)
theorem IP_w1 {n zs zw zb : Nat} {x y z : Int32} {a1 a2 b1 b2 d1 d2 a3 a4 b3 b4 d3 d4 : Nat → Int32} (h : IP n zs zw zb a1 a2 b1 b2 d1 d2 a3 a4 b3 b4 d3 d4) (hz : zw < 10) (hy : x = 1 → y = z ∧ ∃ q : Nat, q < n ∧ y = nI q) : IP n zs (zw + 1) zb a1 a2 (upd b1 zw x) (upd b2 zw y) d1 d2 a3 a4 (upd b3 zw x) (upd b4 zw z) d3 d4 := by
  obtain ⟨h0, ⟨h1, h2⟩, h3⟩ := h
  refine ⟨h0, ⟨by omega, fun i hi => ?_⟩, h3⟩
  by_cases e : i = zw
  · subst e; simp only [upd, if_true]; exact ⟨trivial, hy⟩
  · simp only [upd, if_neg e]; exact h2 i (by omega)
theorem IP_b1 {n zs zw zb q : Nat} {x y : Int32} {a1 a2 b1 b2 d1 d2 a3 a4 b3 b4 d3 d4 : Nat → Int32} (h : IP n zs zw zb a1 a2 b1 b2 d1 d2 a3 a4 b3 b4 d3 d4) (hz : zb < 8) (hy : x = nI q) (hq : q < n) : IP n zs zw (zb + 1) a1 a2 b1 b2 (upd d1 zb x) (upd d2 zb y) a3 a4 b3 b4 (upd d3 zb x) (upd d4 zb y) := by
  obtain ⟨h0, h3, h1, h2⟩ := h
  refine ⟨h0, h3, by omega, fun i hi => ?_⟩
  by_cases e : i = zb
  · subst e; simp only [upd, if_true]; exact ⟨trivial, trivial, q, hq, hy⟩
  · simp only [upd, if_neg e]; exact h2 i (by omega)
theorem IP_s0 {n zs zw zb : Nat} {a1 a2 b1 b2 d1 d2 a3 a4 b3 b4 d3 d4 : Nat → Int32} (h : IP n zs zw zb a1 a2 b1 b2 d1 d2 a3 a4 b3 b4 d3 d4) : IP n 0 zw zb a1 a2 b1 b2 d1 d2 a3 a4 b3 b4 d3 d4 := ⟨⟨by omega, fun i hi => absurd hi (Nat.not_lt_zero i)⟩, h.2⟩
theorem IP_w0 {n zs zw zb : Nat} {a1 a2 b1 b2 d1 d2 a3 a4 b3 b4 d3 d4 : Nat → Int32} (h : IP n zs zw zb a1 a2 b1 b2 d1 d2 a3 a4 b3 b4 d3 d4) : IP n zs 0 zb a1 a2 b1 b2 d1 d2 a3 a4 b3 b4 d3 d4 := ⟨h.1, ⟨by omega, fun i hi => absurd hi (Nat.not_lt_zero i)⟩, h.2.2⟩
theorem IP_b0 {n zs zw zb : Nat} {a1 a2 b1 b2 d1 d2 a3 a4 b3 b4 d3 d4 : Nat → Int32} (h : IP n zs zw zb a1 a2 b1 b2 d1 d2 a3 a4 b3 b4 d3 d4) : IP n zs zw 0 a1 a2 b1 b2 d1 d2 a3 a4 b3 b4 d3 d4 := ⟨h.1, h.2.1, by omega, fun i hi => absurd hi (Nat.not_lt_zero i)⟩
