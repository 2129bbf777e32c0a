/-! specs see no more than what the invariant says -/
theorem winS_cong {X : VV} {L : LND} {n : Nat} {f g f' g' : Nat → Int32} : ∀ z, (∀ i, i < z → f i = f' i ∧ (f i = 1 → g i = g' i)) → winS X L n f g z = winS X L n f' g' z
  | 0, _ => rfl
  | z + 1, hy => by
    have e := winS_cong (X := X) (L := L) (n := n) z (fun i hi => hy i (by omega))
    obtain ⟨e1, e2⟩ := hy z (by omega)
    rw [winS, winS, e, ← e1]
    by_cases q : f z = 1
    · rw [e2 q]
    · rw [if_neg q, if_neg q]
theorem sGone_cong {X : VV} {L : LND} {n z : Nat} {f g f' g' : Nat → Int32} {x : Int32} (hy : ∀ i, i < z → f i = f' i ∧ (f i = 1 → g i = g' i)) : sGone X L n f g z x = sGone X L n f' g' z x := by
  unfold sGone
  rw [winS_cong z hy]
theorem seenS_cong {X : VV} {L : LND} {n : Nat} {f g f' g' : Nat → Int32} : ∀ z, (∀ i, i < z → f i = f' i ∧ g i = g' i) → seenS X L n f g z = seenS X L n f' g' z
  | 0, _ => rfl
  | z + 1, hy => by
    obtain ⟨e1, e2⟩ := hy z (by omega)
    rw [seenS, seenS, seenS_cong z (fun i hi => hy i (by omega)), e1, e2]
theorem sWas_cong {X : VV} {L : LND} {n z : Nat} {f g f' g' : Nat → Int32} {x y : Int32} (hy : ∀ i, i < z → f i = f' i ∧ g i = g' i) : sWas X L n f g z x y = sWas X L n f' g' z x y := by
  have e : wasP X L n f g z x.toNatClampNeg = wasP X L n f' g' z x.toNatClampNeg := funext fun d => seenS_cong z hy
  unfold sWas
  rw [e]
theorem sCan_cong {X : VV} {L : LND} {n z : Nat} {f g f' g' : Nat → Int32} {x y : Int32} (hy : ∀ i, i < z → f i = f' i ∧ g i = g' i) : sCan X L n f g z x y = sCan X L n f' g' z x y := by
  have e : canP X L n f g z x.toNatClampNeg = canP X L n f' g' z x.toNatClampNeg := funext fun d => seenS_cong z hy
  unfold sCan
  rw [e]
theorem lookF_cong {th th' bk bt bk' bt' : Nat → Int32} {n z : Nat} (ht : ∀ q, q < n → th q = th' q) (hn : n ≤ 6) (hy : ∀ i, i < z → bk i = bk' i ∧ bt i = bt' i ∧ ∃ q : Nat, q < n ∧ bk i = nI q) : ∀ f i, i + f ≤ z → lookF th bk bt f i = lookF th' bk' bt' f i
  | 0, _, _ => rfl
  | f + 1, i, hi => by
    obtain ⟨e1, e2, q, hq, e3⟩ := hy i (by omega)
    rw [lookF, lookF, lookF_cong ht hn hy f (i + 1) (by omega), ← e1, ← e2, e3, nI_clamp (by omega), ht q hq]
theorem sTaken_cong {n : Nat} {f g : Nat → Int32} (hn : n ≤ 6) (hy : ∀ q, q < n → f q = g q) (x y : Int32) : sTaken n f x y = sTaken n g x y := by
  unfold sTaken
  by_cases q : isP (nI n) x = true
  · obtain ⟨p, e1, e2, e3⟩ := isP_nat (by omega) q
    rw [e3, hy p e2]
  · rw [if_neg q, if_neg q]
theorem sTrace_cong {t : Nat} {f g : Nat → Int32} (hy : ∀ i, i < min t 20 → f i = g i) (x : Int32) : sTrace t f x = sTrace t g x := by
  unfold sTrace
  by_cases q : isP (nI (min t 20)) x = true
  · obtain ⟨p, e1, e2, e3⟩ := isP_nat (by omega) q
    rw [e3, hy p e2]
  · rw [if_neg q, if_neg q]
/-! the world now, changed -/
def frW (v u : VV) (n : Nat) : Prop := (∀ i, i ≠ 60 → (i < 51 ∨ i = 53 ∨ (60 < i ∧ i < 70) ∨ i = 72 ∨ 79 < i) → (∀ q, q < 7 → i ≠ 2 + 7 * q + 6) → (i < 116 ∨ 123 < i) → i ≠ 131 → i ≠ 138 → u i = v i) ∧ (∀ i, i ≠ 0 → i ≠ 7 → i ≠ 8 → i ≠ 9 → i ≠ 11 → u 116 i = v 116 i) ∧ ∀ q, q < n → u 117 q = v 117 q
theorem xA_kd {g f f' : Nat → Int32} {n : Nat} {L : LND} (hy : ∀ q, q < n → f q = f' q) : xA g f n L = xA g f' n L := by
  funext i k
  match i with
  | 0 => rfl
  | 1 =>
    show (if k < n then f k else 0) = if k < n then f' k else 0
    split
    · exact hy k (by assumption)
    · rfl
  | 2 => rfl
  | 3 => rfl
  | 4 => rfl
  | 5 => rfl
  | 6 => rfl
  | 7 => rfl
  | _ + 8 => rfl
theorem IP_le {n n' zs zw zb : Nat} {a1 a2 b1 b2 d1 d2 a3 a4 b3 b4 d3 d4 : Nat → Int32} (hn : n ≤ n') (h : IP n zs zw zb a1 a2 b1 b2 d1 d2 a3 a4 b3 b4 d3 d4) : IP n' zs zw zb a1 a2 b1 b2 d1 d2 a3 a4 b3 b4 d3 d4 := by
  obtain ⟨h1, ⟨h2, h3⟩, h4, h5⟩ := h
  refine ⟨h1, ⟨h2, fun i hi => ⟨(h3 i hi).1, fun q => ?_⟩⟩, h4, fun i hi => ?_⟩
  · obtain ⟨e1, p, e2, e3⟩ := (h3 i hi).2 q
    exact ⟨e1, p, by omega, e3⟩
  · obtain ⟨e0, e1, p, e2, e3⟩ := h5 i hi
    exact ⟨e0, e1, p, by omega, e3⟩
theorem INV_W {v u : VV} {w : WV} {n n' k a cc : Nat} {Ls : Nat → LND} (hf : frW v u n) (hn : n ≤ n') (h : INV v w n k a cc Ls) (hw : IW u n' a (LLs Ls a)) : INV u w n' k a cc Ls := by
  obtain ⟨hak, hl, hw0, hx, hc, hk, he, ht⟩ := h
  obtain ⟨f1, f2, f3⟩ := hf
  have g : ∀ i, 79 < i → (i < 116 ∨ 123 < i) → i ≠ 131 → i ≠ 138 → u i = v i := fun i x y z t => f1 i (by omega) (by omega) (fun q hq => by omega) y z t
  have g5 : ∀ i, 60 < i → i < 70 → u i = v i := fun i x y => f1 i (by omega) (by omega) (fun q hq => by omega) (by omega) (by omega) (by omega)
  have g2 : ∀ i, laC i → u i = v i := fun i x => by
    obtain ⟨x1, x2, x3⟩ := x
    exact f1 i (by omega) (by omega) x3 (by omega) (by omega) (by omega)
  have g0 : u 0 = v 0 := f1 0 (by omega) (by omega) (fun q hq => by omega) (by omega) (by omega) (by omega)
  have hk6 := hl.1.2.2
  refine ⟨hak, ?_, hw, ?_, ?_, ?_, ?_, ?_⟩
  · exact IL_cong (by rw [g0]) (f2 14 (by omega) (by omega) (by omega) (by omega) (by omega)) (f2 22 (by omega) (by omega) (by omega) (by omega) (by omega)) (f2 24 (by omega) (by omega) (by omega) (by omega) (by omega)) g2 (fun i x y => g i (by omega) (by omega) (by omega) (by omega)) hl
  · unfold IX at hx ⊢
    rw [g 109 (by omega) (by omega) (by omega) (by omega), g 124 (by omega) (by omega) (by omega) (by omega), g 108 (by omega) (by omega) (by omega) (by omega), f2 12 (by omega) (by omega) (by omega) (by omega) (by omega)]
    exact hx
  · unfold IC at hc ⊢
    rw [g5 61 (by omega) (by omega), g5 62 (by omega) (by omega), g5 63 (by omega) (by omega), g5 64 (by omega) (by omega), g5 65 (by omega) (by omega), g5 66 (by omega) (by omega), g5 67 (by omega) (by omega), g5 68 (by omega) (by omega), g5 69 (by omega) (by omega), f2 28 (by omega) (by omega) (by omega) (by omega) (by omega), f2 31 (by omega) (by omega) (by omega) (by omega) (by omega), f2 34 (by omega) (by omega) (by omega) (by omega) (by omega), g 132 (by omega) (by omega) (by omega) (by omega), g 133 (by omega) (by omega) (by omega) (by omega), g 134 (by omega) (by omega) (by omega) (by omega), g 135 (by omega) (by omega) (by omega) (by omega), g 136 (by omega) (by omega) (by omega) (by omega), g 137 (by omega) (by omega) (by omega) (by omega)]
    obtain ⟨zs, zw, zb, c1, c2, c3, c4⟩ := hc
    exact ⟨zs, zw, zb, c1, c2, c3, IP_le hn c4⟩
  · unfold IK at hk ⊢
    rw [g0, f2 40 (by omega) (by omega) (by omega) (by omega) (by omega)]
    rcases hk with hk | ⟨k1, k2, m, a', zs, zw, zb, ⟨m1, m2⟩, m3, m4, m5, ⟨m6, m7, m8⟩, m9, m10⟩
    · exact Or.inl hk
    · have ex : xC u 89 m = xC v 89 m := xC_fr (Or.inr rfl) (fun i x y => g i (by omega) (by omega) (by omega) (by omega))
      refine Or.inr ⟨k1, k2, m, a', zs, zw, zb, ⟨by omega, m2⟩, ?_, ?_, ?_, ?_, ?_, ?_⟩
      · rw [g 90 (by omega) (by omega) (by omega) (by omega), g 139 (by omega) (by omega) (by omega) (by omega)]; exact m3
      · rw [ex, g 139 (by omega) (by omega) (by omega) (by omega), m4]; exact xA_kd (fun q hq => (f3 q (by omega)).symm)
      · rw [ex]; exact m5
      · exact ⟨by rw [g 89 (by omega) (by omega) (by omega) (by omega)]; exact m6, by rw [g 139 (by omega) (by omega) (by omega) (by omega)]; exact m7, stW_cong (g 89 (by omega) (by omega) (by omega) (by omega)) (g2 _ (laC_at (j := a') (by omega) (by omega) (by omega))) m8⟩
      · rw [g 99 (by omega) (by omega) (by omega) (by omega), g 102 (by omega) (by omega) (by omega) (by omega), g 105 (by omega) (by omega) (by omega) (by omega), g 139 (by omega) (by omega) (by omega) (by omega)]; exact m9
      · rw [g 100 (by omega) (by omega) (by omega) (by omega), g 101 (by omega) (by omega) (by omega) (by omega), g 103 (by omega) (by omega) (by omega) (by omega), g 104 (by omega) (by omega) (by omega) (by omega), g 106 (by omega) (by omega) (by omega) (by omega), g 107 (by omega) (by omega) (by omega) (by omega), g 140 (by omega) (by omega) (by omega) (by omega)]; exact m10
  · unfold IE at he ⊢
    rw [g 110 (by omega) (by omega) (by omega) (by omega), g 111 (by omega) (by omega) (by omega) (by omega), f2 43 (by omega) (by omega) (by omega) (by omega) (by omega), g 141 (by omega) (by omega) (by omega) (by omega)]
    exact he
  · unfold IF at ht ⊢
    rw [g 113 (by omega) (by omega) (by omega) (by omega), g 114 (by omega) (by omega) (by omega) (by omega), g 142 (by omega) (by omega) (by omega) (by omega), g 143 (by omega) (by omega) (by omega) (by omega)]
    exact ht
theorem IW_up {v u X : VV} {n a : Nat} {L : LND} (hx : xC u 51 n = X) (hm : xM u n L = X) (hr : RX n 9999 X) (h0 : u 116 0 = v 116 0) (h6 : u 51 6 = v 51 6) (h15 : u 116 15 = v 116 15) (h37 : u 116 37 = v 116 37) (h38 : u 116 38 = v 116 38) (hs : stW u 51 a) (h53 : u 53 = v 53) (h72 : u 72 = v 72) (h : IW v n a L) : IW u n a L := by
  obtain ⟨⟨a1, a2⟩, a3, a4, ⟨a5, a6, a7⟩, ⟨a8, a8'⟩, a9, a10⟩ := h
  exact ⟨⟨h0.trans a1, a2⟩, by rw [hx, hm], by rw [hm]; exact hr, ⟨h6.trans a5, h15.trans a6, hs⟩, ⟨h37.trans a8, h38.trans a8'⟩, by rw [h53]; exact a9, by rw [h72]; exact a10⟩
/-- all is well between two calls -/
def OKv (u : VV × WV) : Prop := ∃ (n k a cc : Nat) (Ls : Nat → LND), INV u.1 u.2 n k a cc Ls
