def unS (v : VV) : VV := un1 (againS v 139) 5 10 8
theorem unS_n {v : VV} {i : Nat} (h1 : i ≠ 116) (h2 : i < 118 ∨ 123 < i) (h3 : i < 132 ∨ 137 < i) : unS v i = v i := by
  funext j
  unfold unS un1 againS
  rw [if_neg (by omega), if_neg (by omega), if_neg (by omega), if_neg (by omega), if_neg (by omega), if_neg (by omega)]
  rw [up2_ne h1, up2_ne h1, up2_ne h1, up2_ne h1, up2_ne h1, up2_ne h1, up2_ne h1, up2_ne h1, up2_ne h1]
  unfold agA
  rw [if_neg (by omega), if_neg (by omega), if_neg (by omega), if_neg (by omega), if_neg (by omega), if_neg (by omega)]
theorem unS_116 {v : VV} {i : Nat} (h : i ≠ 0 ∧ i ≠ 7 ∧ i ≠ 8 ∧ i ≠ 9 ∧ i ≠ 11 ∧ i ≠ 15 ∧ i ≠ 28 ∧ i ≠ 31 ∧ i ≠ 34) : unS v 116 i = v 116 i := by
  obtain ⟨h0, h7, h8, h9, h11, h15, h28, h31, h34⟩ := h
  simp [unS, un1, againS, up2, agA, h0, h7, h8, h9, h11, h15, h28, h31, h34]
theorem unS_x {v : VV} {n : Nat} {L : LND} (h37 : v 116 37 = -1) (h38 : v 116 38 = -1) : xM (unS v) n L = xA (v 139) (v 117) n L := by
  funext i j
  match i with
  | 0 => match j with
    | 0 => simp [xM, xA, unS, un1, againS, up2, agA]
    | 1 => simp [xM, xA, unS, un1, againS, up2, agA]
    | 2 => simp [xM, xA, unS, un1, againS, up2, agA]
    | 3 => simp [xM, xA, unS, un1, againS, up2, agA]
    | 4 => simp [xM, xA, unS, un1, againS, up2, agA]
    | 5 => simp [xM, xA, unS, un1, againS, up2, agA, h37]
    | 6 => simp [xM, xA, unS, un1, againS, up2, agA, h38]
    | 7 => rfl
    | _ + 8 => rfl
  | 1 => simp [xM, xA, unS, un1, againS, up2, agA]
  | 2 => by_cases e : j < 6 <;> simp [xM, xA, unS, un1, againS, up2, agA, e]
  | 3 => by_cases e : j < 6 <;> simp [xM, xA, unS, un1, againS, up2, agA, e]
  | 4 => by_cases e : j < 6 <;> simp [xM, xA, unS, un1, againS, up2, agA, e]
  | 5 => by_cases e : j < 6 <;> simp [xM, xA, unS, un1, againS, up2, agA, e]
  | 6 => by_cases e : j < 24 <;> simp [xM, xA, unS, un1, againS, up2, agA, e]
  | 7 => by_cases e : j < 6 <;> simp [xM, xA, unS, un1, againS, up2, agA, e]
  | _ + 8 => rfl
