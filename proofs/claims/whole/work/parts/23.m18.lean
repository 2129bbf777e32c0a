/-! a land, as the reference reads it -/
def ldL (t : Nat → Int32) (z : Nat) : Nat → Nat → LND → Bool × Nat × LND
  | 0, a, _ => (false, a, [])
  | f + 1, a, L =>
    if (clR t z a).1 = true then
      (if (clR t z a).2.1 = z then (true, z, L ++ [(clR t z a).2.2])
       else if f = 0 then (false, (clR t z a).2.1, [])
       else if isAt t z (clR t z a).2.1 59 then ldL t z f ((clR t z a).2.1 + 1) (L ++ [(clR t z a).2.2])
       else (false, (clR t z a).2.1, []))
    else (false, (clR t z a).2.1, [])
def ldR (t : Nat → Int32) (z : Nat) : Bool × Nat × LND := ldL t z 10 0 []
theorem clW_5 (t : Nat → Int32) (z a : Nat) : clW t z a ≤ 5 := by
  unfold clW
  repeat' split
  all_goals omega
theorem clR_G {t : Nat → Int32} {z a : Nat} (ha : a ≤ z) : a ≤ (clR t z a).2.1 ∧ (clR t z a).2.1 ≤ z ∧ ((clR t z a).1 = true → (clR t z a).2.2.2.2.length + a ≤ (clR t z a).2.1 ∧ (clR t z a).2.2.1 < 5 ∧ (clR t z a).2.2.2.1 ≤ 99 ∧ ((clR t z a).2.2.1 < 2 → wft (clR t z a).2.2.2.2)) := by
  have h5 := clW_5 t z a
  unfold clR
  by_cases c1 : clW t z a = 5
  · rw [if_pos c1]; exact ⟨Nat.le_refl _, ha, fun q => by cases q⟩
  · rw [if_neg c1]
    obtain ⟨l1, l2⟩ := allF_le (t := t) (z := z) (strB.getD (7 + clW t z a) []) a ha
    change a ≤ (allS t z (7 + clW t z a) a).2 at l1
    change (allS t z (7 + clW t z a) a).2 ≤ z at l2
    by_cases c2 : (allS t z (7 + clW t z a) a).1 = false
    · rw [if_pos c2]; exact ⟨l1, l2, fun q => by cases q⟩
    · rw [if_neg c2]
      dsimp only
      generalize (allS t z (7 + clW t z a) a).2 = b at l1 l2 ⊢
      have n1 := nmC_le (t := t) (z := z) (a := b) l2
      have n2 := nmV_le (t := t) (z := z) (a := b) (nmC_2 t z b) (fun j hj => nmC_dig hj)
      by_cases c3 : nmC t z b = 0
      · rw [if_pos c3]; exact ⟨l1, l2, fun q => by cases q⟩
      · rw [if_neg c3]
        by_cases c4 : 2 ≤ clW t z a
        · rw [if_pos c4]
          exact ⟨by show a ≤ b + _; omega, n1, fun _ => ⟨by show 0 + a ≤ b + _; omega, by show clW t z a < 5; omega, n2, fun q => absurd q (by show ¬ clW t z a < 2; omega)⟩⟩
        · rw [if_neg c4]
          by_cases c5 : isAt t z (b + nmC t z b) 32 = true
          · rw [if_pos c5]
            have hlt := isAt_lt c5
            obtain ⟨g1, g2, g3⟩ := rdE_G t z 4 (b + nmC t z b + 1) hlt
            by_cases c6 : (rdE t z 4 (b + nmC t z b + 1)).1 = true
            · rw [if_pos c6]
              obtain ⟨g4, g5⟩ := g3 c6
              exact ⟨by show a ≤ (rdE t z 4 (b + nmC t z b + 1)).2.1; omega, g2, fun _ => ⟨by show (rdE t z 4 (b + nmC t z b + 1)).2.2.length + a ≤ (rdE t z 4 (b + nmC t z b + 1)).2.1; omega, by show clW t z a < 5; omega, n2, fun _ => rdE_wft hlt c6⟩⟩
            · rw [if_neg c6]
              exact ⟨by show a ≤ (rdE t z 4 (b + nmC t z b + 1)).2.1; omega, g2, fun q => by cases q⟩
          · rw [if_neg c5]
            exact ⟨by show a ≤ b + _; omega, n1, fun q => by cases q⟩
/-- the clauses so far -/
def RLn (va : VV) (k : Nat) (L : LND) (cc : Nat) : Prop := ∀ i, i < L.length → va 126 (10 * k + i) = nI (L.getD i dC).1 ∧ va 127 (10 * k + i) = nI (L.getD i dC).2.1 ∧ va 129 (10 * k + i) = nI (L.getD i dC).2.2.length ∧ ∃ q : Nat, va 128 (10 * k + i) = nI q ∧ q + (L.getD i dC).2.2.length ≤ cc ∧ ∀ y, y < (L.getD i dC).2.2.length → va 130 (q + y) = nI ((L.getD i dC).2.2.getD y 0)
def LFr (c k : Nat) (v u : VV) : Prop := (∀ i, i ≠ 116 → i < 126 ∨ 130 < i → u i = v i) ∧ (∀ s, s < 22 ∨ 26 < s → u 116 s = v 116 s) ∧ (∀ y, y < c → u 130 y = v 130 y) ∧ ∀ i y, 126 ≤ i → i ≤ 129 → y < 10 * k ∨ 10 * k + 10 ≤ y → u i y = v i y
theorem LFr_step {c cc k j : Nat} {v u x : VV} (h : LFr c k v u) (g : CF cc (10 * k + j) u x) (hc : c ≤ cc) (hj : j < 10) : LFr c k v x := ⟨fun i a b => (g.1 i a b).trans (h.1 i a b), fun s a => (g.2.1 s a).trans (h.2.1 s a), fun y a => (g.2.2.1 y (by omega)).trans (h.2.2.1 y a), fun i y a b q => (g.2.2.2 i y a b (by omega)).trans (h.2.2.2 i y a b q)⟩
theorem LFr_up {c k q : Nat} {v u : VV} {x : Int32} (h : LFr c k v u) (hq : 22 ≤ q ∧ q ≤ 26) : LFr c k v (up2 u 116 q x) := ⟨fun i a b => (up2_ne a).trans (h.1 i a b), fun s a => by rw [up2_at, if_neg (by omega)]; exact h.2.1 s a, fun y a => by rw [up2_ne (by decide)]; exact h.2.2.1 y a, fun i y a b q => by rw [up2_ne (by omega)]; exact h.2.2.2 i y a b q⟩
theorem LFr_refl (c k : Nat) (v : VV) : LFr c k v v := ⟨fun _ _ _ => rfl, fun _ _ => rfl, fun _ _ => rfl, fun _ _ _ _ _ => rfl⟩
theorem RLn_up {va : VV} {k cc q : Nat} {L : LND} {x : Int32} (h : RLn va k L cc) : RLn (up2 va 116 q x) k L cc := by
  intro i hi
  obtain ⟨h1, h2, h3, o, h4, h5, h6⟩ := h i hi
  exact ⟨by rw [up2_ne (by decide)]; exact h1, by rw [up2_ne (by decide)]; exact h2, by rw [up2_ne (by decide)]; exact h3, o, by rw [up2_ne (by decide)]; exact h4, h5, fun y hy => by rw [up2_ne (by decide)]; exact h6 y hy⟩
theorem RLn_snoc {t : Nat → Int32} {z k cc b : Nat} {va u : VV} {L : LND} {C : CLA} (h : RLn va k L cc) (g : CR t z cc (10 * k + L.length) va u (true, b, C)) : RLn u k (L ++ [C]) (cc + C.2.2.length) := by
  obtain ⟨gF, -, gy⟩ := g
  obtain ⟨y1, y2, y3, y4, y5, y6, -⟩ := gy rfl
  intro i hi
  rw [List.length_append, List.length_singleton] at hi
  by_cases e : i = L.length
  · have eg : (L ++ [C]).getD i dC = C := by rw [e]; simp [List.getD]
    rw [eg, e]
    exact ⟨y2, y3, y5, cc, y4, Nat.le_refl _, fun y hy => y6 y hy⟩
  · have eg : (L ++ [C]).getD i dC = L.getD i dC := by simp [List.getD, List.getElem?_append_left (show i < L.length by omega)]
    rw [eg]
    obtain ⟨h1, h2, h3, o, h4, h5, h6⟩ := h i (by omega)
    exact ⟨by rw [gF.2.2.2 126 _ (by decide) (by decide) (by omega)]; exact h1, by rw [gF.2.2.2 127 _ (by decide) (by decide) (by omega)]; exact h2, by rw [gF.2.2.2 129 _ (by decide) (by decide) (by omega)]; exact h3, o, by rw [gF.2.2.2 128 _ (by decide) (by decide) (by omega)]; exact h4, by omega, fun y hy => by rw [gF.2.2.1 _ (by omega)]; exact h6 y hy⟩
