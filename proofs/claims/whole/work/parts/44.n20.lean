/-! what holds between two calls: the class against the reference -/
def LLs (Ls : Nat → LND) (a : Nat) : LND := match a with
  | 0 => []
  | i + 1 => Ls i
def curI (a : Nat) : Int32 := match a with
  | 0 => -1
  | i + 1 => nI i
/-- the lands -/
def IL (v : VV) (k cc : Nat) (Ls : Nat → LND) : Prop := (v 0 6 = nI k ∧ v 116 14 = nI k ∧ k ≤ 6) ∧ (∀ i, i < k → wfL (Ls i) ∧ RLn v i (Ls i) cc ∧ v 125 i = nI (Ls i).length ∧ repC v (9 + 7 * i) (Ls i)) ∧ repC v 2 [] ∧ (v 116 22 = nI cc ∧ cc ≤ 100 * k) ∧ ∃ o : Nat, v 116 24 = nI o
/-- now -/
def IW (v : VV) (n a : Nat) (L : LND) : Prop := (v 116 0 = nI n ∧ n ≤ 6) ∧ xC v 51 n = xM v n L ∧ RX n 9999 (xM v n L) ∧ (v 51 6 = nI a ∧ v 116 15 = curI a ∧ stW v 51 a) ∧ (v 116 37 = -1 ∧ v 116 38 = -1) ∧ (∀ q, q < 6 → v 53 q = nI q) ∧ ∀ q, q < 6 → v 72 q = nI q
/-- the text -/
def IX (v : VV) : Prop := v 109 = v 124 ∧ ∃ z : Nat, v 108 1 = nI z ∧ v 116 12 = nI z ∧ z ≤ 100 ∧ ∀ i, i < z → inR (v 124 i) 0 127 = true
/-- what was seen, the winters, the book -/
def IP (n zs zw zb : Nat) (a1 a2 b1 b2 d1 d2 a3 a4 b3 b4 d3 d4 : Nat → Int32) : Prop := (zs ≤ 5 ∧ ∀ i, i < zs → a1 i = a3 i ∧ a2 i = a4 i ∧ ∃ d : Nat, d ≤ 20 ∧ a2 i = nI d) ∧ (zw ≤ 10 ∧ ∀ i, i < zw → b1 i = b3 i ∧ (b1 i = 1 → b2 i = b4 i ∧ ∃ q : Nat, q < n ∧ b2 i = nI q)) ∧ (zb ≤ 8 ∧ ∀ i, i < zb → d1 i = d3 i ∧ d2 i = d4 i ∧ ∃ q : Nat, q < n ∧ d1 i = nI q)
def IC (v : VV) (n : Nat) : Prop := ∃ zs zw zb : Nat, (v 61 2 = nI zs ∧ v 116 28 = nI zs) ∧ (v 64 2 = nI zw ∧ v 116 31 = nI zw) ∧ (v 67 2 = nI zb ∧ v 116 34 = nI zb) ∧ IP n zs zw zb (v 62) (v 63) (v 65) (v 66) (v 68) (v 69) (v 132) (v 133) (v 134) (v 135) (v 136) (v 137)
/-- the kept one, seen -/
def xA (g kd : Nat → Int32) (n : Nat) (L : LND) : VV := fun i k => match i with
  | 0 => (match k with
    | 0 => g 54
    | 1 => g 55
    | 2 => g 56
    | 3 => g 58
    | 4 => g 57
    | 5 => lastS 2 5 L
    | 6 => lastS 3 10 L
    | 7 => lastS 4 1 L
    | _ => 0)
  | 1 => if k < n then kd k else 0
  | 2 => if k < 6 then g k else 0
  | 3 => if k < 6 then g (6 + k) else 0
  | 4 => if k < 6 then g (12 + k) else 0
  | 5 => if k < 6 then g (18 + k) else 0
  | 6 => if k < 24 then g (30 + k) else 0
  | 7 => if k < 6 then g (24 + k) else 0
  | _ => 0
def IK1 (v : VV) (n k : Nat) (Ls : Nat → LND) (m a zs zw zb : Nat) : Prop := (m ≤ n ∧ a ≤ k) ∧ (v 90 0 = nI m ∧ v 139 54 = nI m) ∧ xC v 89 m = xA (v 139) (v 117) m (LLs Ls a) ∧ RX m 9999 (xC v 89 m) ∧ (v 89 6 = nI a ∧ v 139 59 = curI a ∧ stW v 89 a) ∧ ((v 99 2 = nI zs ∧ v 139 60 = nI zs) ∧ (v 102 2 = nI zw ∧ v 139 61 = nI zw) ∧ (v 105 2 = nI zb ∧ v 139 62 = nI zb)) ∧ IP m zs zw zb (v 100) (v 101) (v 103) (v 104) (v 106) (v 107) (v 140) (fun i => v 140 (5 + i)) (fun i => v 140 (10 + i)) (fun i => v 140 (20 + i)) (fun i => v 140 (30 + i)) (fun i => v 140 (38 + i))
def IK (v : VV) (n k : Nat) (Ls : Nat → LND) : Prop := (v 0 4 = 0 ∧ v 116 40 = 0) ∨ (v 0 4 = 1 ∧ v 116 40 = 1 ∧ ∃ m a zs zw zb : Nat, IK1 v n k Ls m a zs zw zb)
/-- the acts -/
def IE (v : VV) : Prop := ∃ t : Nat, v 110 1 = nI t ∧ v 116 43 = nI t ∧ t < 1000 ∧ ∀ i, i < min t 20 → v 111 i = v 141 i
/-- the tapes -/
def IF (v : VV) (w : WV) : Prop := v 113 = v 142 ∧ v 114 = v 143 ∧ TIv (v 142) (v 143) ∧ ∀ t i z : Nat, t < 6 → v 143 t = nI z → i < z → z ≤ 60 → w 115 (60 * t + i) = w 144 (60 * t + i)
def INV (v : VV) (w : WV) (n k a cc : Nat) (Ls : Nat → LND) : Prop := a ≤ k ∧ IL v k cc Ls ∧ IW v n a (LLs Ls a) ∧ IX v ∧ IC v n ∧ IK v n k Ls ∧ IE v ∧ IF v w
theorem wf_nil : wfL [] := ⟨Nat.zero_le _, fun i hi => absurd hi (Nat.not_lt_zero i)⟩
theorem RLn_cong {v u : VV} {k cc : Nat} {L : LND} (hf : ∀ i, 125 ≤ i → i ≤ 130 → u i = v i) (h : RLn v k L cc) : RLn u k L cc := by
  unfold RLn at h ⊢
  rw [hf 126 (by omega) (by omega), hf 127 (by omega) (by omega), hf 128 (by omega) (by omega), hf 129 (by omega) (by omega), hf 130 (by omega) (by omega)]
  exact h
theorem stW_cong {v u : VV} {b j : Nat} (hf : u b = v b) (hg : u (2 + 7 * j) = v (2 + 7 * j)) (h : stW v b j) : stW u b j := by
  unfold stW at h ⊢
  rw [hf, hg]
  exact h
/-- the cells that lands have, the stacks aside -/
def laC (i : Nat) : Prop := 2 ≤ i ∧ i ≤ 50 ∧ ∀ q, q < 7 → i ≠ 2 + 7 * q + 6
theorem laC_at {j i : Nat} (hj : j < 7) (h1 : 2 + 7 * j ≤ i) (h2 : i ≤ 2 + 7 * j + 5) : laC i := ⟨by omega, by omega, fun q hq => by omega⟩
theorem IL_cong {v u : VV} {k cc : Nat} {Ls : Nat → LND} (h6 : u 0 6 = v 0 6) (h14 : u 116 14 = v 116 14) (h22 : u 116 22 = v 116 22) (h24 : u 116 24 = v 116 24) (hf : ∀ i, laC i → u i = v i) (hg : ∀ i, 125 ≤ i → i ≤ 130 → u i = v i) (h : IL v k cc Ls) : IL u k cc Ls := by
  obtain ⟨⟨a1, a2, a3⟩, b1, b2, b3, b4⟩ := h
  refine ⟨⟨by rw [h6]; exact a1, by rw [h14]; exact a2, a3⟩, fun i hi => ?_, repC_cong (fun i x y => hf i (laC_at (j := 0) (by omega) (by omega) (by omega))) b2, by rw [h22]; exact b3, by rw [h24]; exact b4⟩
  obtain ⟨d1, d2, d3, d4⟩ := b1 i hi
  exact ⟨d1, RLn_cong hg d2, by rw [hg 125 (by omega) (by omega)]; exact d3, repC_cong (fun q x y => hf q (laC_at (j := i + 1) (by omega) (by omega) (by omega))) d4⟩
theorem IL_wf {v : VV} {k cc a : Nat} {Ls : Nat → LND} (h : IL v k cc Ls) (ha : a ≤ k) : wfL (LLs Ls a) ∧ repC v (2 + 7 * a) (LLs Ls a) := by
  cases a with
  | zero => exact ⟨wf_nil, h.2.2.1⟩
  | succ i =>
    obtain ⟨d1, d2, d3, d4⟩ := h.2.1 i (by omega)
    refine ⟨d1, ?_⟩
    rw [show 2 + 7 * (i + 1) = 9 + 7 * i by omega]
    exact d4
theorem IL_cur {v : VV} {k cc a : Nat} {Ls : Nat → LND} (h : IL v k cc Ls) (ha : a ≤ k) (h15 : v 116 15 = curI a) : curM v (LLs Ls a) := by
  cases a with
  | zero => exact Or.inl ⟨h15, rfl⟩
  | succ i =>
    have hk := h.1.2.2
    have hc := h.2.2.2.1.2
    obtain ⟨d1, d2, d3, d4⟩ := h.2.1 i (by omega)
    refine Or.inr ⟨i, by omega, h15, d3, fun q hq => ?_⟩
    obtain ⟨e1, e2, e3, o, e4, e5, e6⟩ := d2 q hq
    exact ⟨e1, e2, e3, o, e4, Nat.le_trans e5 (by omega), e6⟩
theorem IW_DM {v : VV} {n k cc a : Nat} {Ls : Nat → LND} (h : IL v k cc Ls) (ha : a ≤ k) (hw : IW v n a (LLs Ls a)) : DM v n 9999 (LLs Ls a) := ⟨hw.1.1, hw.1.2, (IL_wf h ha).1, IL_cur h ha hw.2.2.2.1.2.1, hw.2.2.1, by omega⟩
theorem IW_CN {v : VV} {n k cc a : Nat} {Ls : Nat → LND} (h : IL v k cc Ls) (ha : a ≤ k) (hw : IW v n a (LLs Ls a)) : CN v n 9999 a (LLs Ls a) := by
  obtain ⟨⟨a1, a2⟩, a3, a4, ⟨a5, a6, a7⟩, a8, a9, a10⟩ := hw
  have hk := h.1.2.2
  have h0 : v 52 0 = nI n := (congrFun (congrFun a3 0) 0).trans a1
  exact ⟨⟨⟨h0, a2⟩, (IL_wf h ha).1, ⟨by omega, a5, (IL_wf h ha).2⟩, a9, by rw [a3]; exact a4, by omega⟩, a7, a10⟩
theorem IW_n {v : VV} {n a : Nat} {L : LND} (hw : IW v n a L) : v 52 0 = nI n := (congrFun (congrFun hw.2.1 0) 0).trans hw.1.1
theorem IW_kd {v : VV} {n a : Nat} {L : LND} (hw : IW v n a L) {q : Nat} (hq : q < n) : v 54 q = v 117 q := by
  have h := congrFun (congrFun hw.2.1 1) q
  rw [xC_kd hq, xM_kd hq] at h
  exact h
theorem IW_v {v : VV} {n a : Nat} {L : LND} (hw : IW v n a L) {q : Nat} (hq : q < 6) : v 55 q = v 118 q := by
  have h := congrFun (congrFun hw.2.1 2) q
  rw [xC_v hq, xM_v hq] at h
  exact h
theorem IW_th {v : VV} {n a : Nat} {L : LND} (hw : IW v n a L) {q : Nat} (hq : q < 6) : v 56 q = v 119 q := by
  have h := congrFun (congrFun hw.2.1 3) q
  rw [xC_th hq, xM_th hq] at h
  exact h
theorem IW_dead {v : VV} {n a : Nat} {L : LND} (hw : IW v n a L) {q : Nat} (hq : q < 6) : dB (v 52 7) q = v 121 q := by
  have h := congrFun (congrFun hw.2.1 5) q
  rw [xC_dead hq, xM_dead hq] at h
  exact h
theorem IW_row {v : VV} {n a : Nat} {L : LND} (hw : IW v n a L) {q : Nat} (hq : q < 24) : v 58 q = v 122 q := by
  have h := congrFun (congrFun hw.2.1 6) q
  rw [xC_row hq, xM_row hq] at h
  exact h
theorem IW_he {v : VV} {n a : Nat} {L : LND} (hw : IW v n a L) : v 51 1 = v 116 7 := congrFun (congrFun hw.2.1 0) 1
theorem IW_sm {v : VV} {n a : Nat} {L : LND} (hw : IW v n a L) : v 51 2 = v 116 8 := congrFun (congrFun hw.2.1 0) 2
theorem IW_pl {v : VV} {n a : Nat} {L : LND} (hw : IW v n a L) : v 51 5 = v 116 9 := congrFun (congrFun hw.2.1 0) 4
theorem IW_k6 {v : VV} {n a : Nat} {L : LND} (hw : IW v n a L) {q : Nat} (hq : q < n) : ∃ o : Nat, o ≤ 6 ∧ v 117 q = nI o := by
  obtain ⟨o, e1, e2⟩ := RX_nat (hi := 6) (hw.2.2.1.1 q hq).1 (by decide)
  exact ⟨o, e2, by rw [← e1, xM_kd hq]⟩
theorem IW_c6 {v : VV} {n a : Nat} {L : LND} (hw : IW v n a L) {q : Nat} (hq : q < n) : ∃ o : Nat, o ≤ 6 ∧ v 54 q = nI o := by
  obtain ⟨o, e1, e2⟩ := IW_k6 hw hq
  exact ⟨o, e1, by rw [IW_kd hw hq]; exact e2⟩
theorem IW_q {v : VV} {n a : Nat} {L : LND} (hw : IW v n a L) : ∃ q : Nat, q ≤ 6 ∧ v 51 5 = nI q ∧ v 116 9 = nI q := by
  obtain ⟨q, h6, e, _⟩ := hw.2.2.1.2.2.2.2.1
  exact ⟨q, h6, (IW_pl hw).trans e, e⟩
/-- what a query may touch -/
def frI (v u : VV) : Prop := ∀ i, i ≠ 60 → (i < 70 ∨ i = 72 ∨ 79 < i) → (∀ q, q < 7 → i ≠ 2 + 7 * q + 6) → i ≠ 131 → i ≠ 138 → u i = v i
theorem frI_C {v u : VV} (h : scC v u) : frI v u := fun i a b d _ _ => h i a b d
theorem frI_M {v u : VV} (h : scM v u) : frI v u := fun i _ _ _ a b => h i a b
theorem frI_trans {v u x : VV} (h1 : frI v u) (h2 : frI u x) : frI v x := fun i a b d e f => (h2 i a b d e f).trans (h1 i a b d e f)
theorem frI_stk {v u : VV} {f : Nat → Int32} (e : u = upc v 131 f) : frI v u := fun i _ _ _ a _ => by rw [e, upc_ne a]
theorem frI_at {v u : VV} (h : frI v u) {i : Nat} (h1 : 50 < i) (h2 : i ≠ 60) (h3 : i < 70 ∨ i = 72 ∨ 79 < i) (h4 : i ≠ 131) (h5 : i ≠ 138) : u i = v i := h i h2 h3 (fun q hq => by omega) h4 h5
theorem IW_cong {v u : VV} {n a : Nat} {L : LND} (hx : xC u 51 n = xC v 51 n) (hm : xM u n L = xM v n L) (h0 : u 116 0 = v 116 0) (h6 : u 51 6 = v 51 6) (h15 : u 116 15 = v 116 15) (h37 : u 116 37 = v 116 37) (h38 : u 116 38 = v 116 38) (hs : stW u 51 a) (h53 : u 53 = v 53) (h72 : u 72 = v 72) (h : IW v n a L) : IW u n a L := by
  obtain ⟨⟨a1, a2⟩, a3, a4, ⟨a5, a6, a7⟩, ⟨a8, a8'⟩, a9, a10⟩ := h
  exact ⟨⟨h0.trans a1, a2⟩, by rw [hx, hm]; exact a3, by rw [hm]; exact a4, ⟨h6.trans a5, h15.trans a6, hs⟩, ⟨h37.trans a8, h38.trans a8'⟩, by rw [h53]; exact a9, by rw [h72]; exact a10⟩
theorem xC_fr {v u : VV} {b n : Nat} (hb : b = 51 ∨ b = 89) (h : ∀ i, b ≤ i → i ≤ b + 8 → u i = v i) : xC u b n = xC v b n := xC_cong (fun k _ => by rw [h b (by omega) (by omega)]) (fun i _ _ _ => h i (by omega) (by omega))
theorem INV_fr {v u : VV} {w : WV} {n k a cc : Nat} {Ls : Nat → LND} (hf : frI v u) (h : INV v w n k a cc Ls) : INV u w n k a cc Ls := by
  obtain ⟨hak, hl, hw, hx, hc, hk, he, ht⟩ := h
  have g : ∀ i, 79 < i → i ≠ 131 → i ≠ 138 → u i = v i := fun i x y z => frI_at hf (by omega) (by omega) (by omega) y z
  have g5 : ∀ i, 50 < i → i < 70 → i ≠ 60 → u i = v i := fun i x y z => frI_at hf x z (by omega) (by omega) (by omega)
  have g2 : ∀ i, laC i → u i = v i := fun i x => by
    obtain ⟨x1, x2, x3⟩ := x
    exact hf i (by omega) (by omega) x3 (by omega) (by omega)
  have g0 : u 0 = v 0 := hf 0 (by omega) (by omega) (fun q hq => by omega) (by omega) (by omega)
  have hk6 := hl.1.2.2
  have st : ∀ b j, u b = v b → j ≤ 6 → stW v b j → stW u b j := fun b j e hj q => stW_cong e (g2 _ (laC_at (j := j) (by omega) (by omega) (by omega))) q
  have e116 := g 116 (by omega) (by omega) (by omega)
  refine ⟨hak, ?_, ?_, ?_, ?_, ?_, ?_, ?_⟩
  · exact IL_cong (by rw [g0]) (by rw [e116]) (by rw [e116]) (by rw [e116]) g2 (fun i x y => g i (by omega) (by omega) (by omega)) hl
  · exact IW_cong (xC_fr (Or.inl rfl) (fun i x y => g5 i (by omega) (by omega) (by omega))) (xM_cong (fun i x y => g i (by omega) (by omega) (by omega))) (by rw [e116]) (by rw [g5 51 (by omega) (by omega) (by omega)]) (by rw [e116]) (by rw [e116]) (by rw [e116]) (st 51 a (g5 51 (by omega) (by omega) (by omega)) (by omega) hw.2.2.2.1.2.2) (g5 53 (by omega) (by omega) (by omega)) (frI_at hf (by omega) (by omega) (by omega) (by omega) (by omega)) hw
  · unfold IX at hx ⊢
    rw [g 109 (by omega) (by omega) (by omega), g 124 (by omega) (by omega) (by omega), g 108 (by omega) (by omega) (by omega), e116]
    exact hx
  · unfold IC at hc ⊢
    rw [g5 61 (by omega) (by omega) (by omega), g5 62 (by omega) (by omega) (by omega), g5 63 (by omega) (by omega) (by omega), g5 64 (by omega) (by omega) (by omega), g5 65 (by omega) (by omega) (by omega), g5 66 (by omega) (by omega) (by omega), g5 67 (by omega) (by omega) (by omega), g5 68 (by omega) (by omega) (by omega), g5 69 (by omega) (by omega) (by omega), e116, g 132 (by omega) (by omega) (by omega), g 133 (by omega) (by omega) (by omega), g 134 (by omega) (by omega) (by omega), g 135 (by omega) (by omega) (by omega), g 136 (by omega) (by omega) (by omega), g 137 (by omega) (by omega) (by omega)]
    exact hc
  · unfold IK at hk ⊢
    rw [g0, e116]
    rcases hk with hk | ⟨k1, k2, m, a', zs, zw, zb, ⟨m1, m2⟩, m3, m4, m5, ⟨m6, m7, m8⟩, m9, m10⟩
    · exact Or.inl hk
    · have ex : xC u 89 m = xC v 89 m := xC_fr (Or.inr rfl) (fun i x y => g i (by omega) (by omega) (by omega))
      refine Or.inr ⟨k1, k2, m, a', zs, zw, zb, ⟨m1, m2⟩, ?_, ?_, ?_, ?_, ?_, ?_⟩
      · rw [g 90 (by omega) (by omega) (by omega), g 139 (by omega) (by omega) (by omega)]; exact m3
      · rw [ex, g 139 (by omega) (by omega) (by omega), g 117 (by omega) (by omega) (by omega)]; exact m4
      · rw [ex]; exact m5
      · exact ⟨by rw [g 89 (by omega) (by omega) (by omega)]; exact m6, by rw [g 139 (by omega) (by omega) (by omega)]; exact m7, st 89 a' (g 89 (by omega) (by omega) (by omega)) (by omega) m8⟩
      · rw [g 99 (by omega) (by omega) (by omega), g 102 (by omega) (by omega) (by omega), g 105 (by omega) (by omega) (by omega), g 139 (by omega) (by omega) (by omega)]; exact m9
      · rw [g 100 (by omega) (by omega) (by omega), g 101 (by omega) (by omega) (by omega), g 103 (by omega) (by omega) (by omega), g 104 (by omega) (by omega) (by omega), g 106 (by omega) (by omega) (by omega), g 107 (by omega) (by omega) (by omega), g 140 (by omega) (by omega) (by omega)]; exact m10
  · unfold IE at he ⊢
    rw [g 110 (by omega) (by omega) (by omega), g 111 (by omega) (by omega) (by omega), e116, g 141 (by omega) (by omega) (by omega)]
    exact he
  · unfold IF at ht ⊢
    rw [g 113 (by omega) (by omega) (by omega), g 114 (by omega) (by omega) (by omega), g 142 (by omega) (by omega) (by omega), g 143 (by omega) (by omega) (by omega)]
    exact ht
theorem INV_X {v u : VV} {w : WV} {n k a cc : Nat} {Ls : Nat → LND} (hf : frI v u) (h : INV v w n k a cc Ls) : xC v 51 n = xM u n (LLs Ls a) := h.2.2.1.2.1.trans (xM_cong (fun i x y => frI_at hf (by omega) (by omega) (by omega) (by omega) (by omega))).symm
