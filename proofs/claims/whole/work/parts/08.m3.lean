/-- what a day of the reference may touch -/
def frM (v v' : VV) : Prop := (∀ i, i ≠ 116 → i ≠ 119 → i ≠ 120 → i ≠ 131 → v' i = v i) ∧ (∀ k, k ≠ 7 → k ≠ 8 → k ≠ 11 → v' 116 k = v 116 k) ∧ ∀ k, 6 ≤ k → v' 119 k = v 119 k ∧ v' 120 k = v 120 k
/-- the part of a day that touches thanks and gold alone -/
def fr3 (v v' : VV) : Prop := (∀ i, i ≠ 119 → i ≠ 120 → i ≠ 131 → v' i = v i) ∧ ∀ k, 6 ≤ k → v' 119 k = v 119 k ∧ v' 120 k = v 120 k
theorem frM_refl (v : VV) : frM v v := ⟨fun _ _ _ _ _ => rfl, fun _ _ _ _ => rfl, fun _ _ => ⟨rfl, rfl⟩⟩
theorem frM_trans {a b c : VV} (h1 : frM a b) (h2 : frM b c) : frM a c := ⟨fun i x y z t => (h2.1 i x y z t).trans (h1.1 i x y z t), fun k x y z => (h2.2.1 k x y z).trans (h1.2.1 k x y z), fun k x => ⟨(h2.2.2 k x).1.trans (h1.2.2 k x).1, (h2.2.2 k x).2.trans (h1.2.2 k x).2⟩⟩
theorem curM_cong {v v' : VV} {L : LND} (h15 : v' 116 15 = v 116 15) (h : ∀ i, 125 ≤ i → i ≤ 130 → v' i = v i) (hc : curM v L) : curM v' L := by
  unfold curM at hc ⊢
  rw [h15]
  rcases hc with hc | ⟨j, hj, a, b⟩
  · exact Or.inl hc
  · exact Or.inr ⟨j, hj, a, repM_cong h b⟩
theorem frM.cur {v v' : VV} {L : LND} (h : frM v v') (hc : curM v L) : curM v' L := curM_cong (h.2.1 15 (by omega) (by omega) (by omega)) (fun i h1 h2 => h.1 i (by omega) (by omega) (by omega) (by omega)) hc
section XU
variable {v : VV} {n k : Nat} {L : LND} {x : Int32}
theorem xM_up_th (h : k < 6) : xM (up2 v 119 k x) n L = up2 (xM v n L) 3 k x := by
  funext i j
  match i with
  | 0 => simp [xM, up2]
  | 1 => simp [xM, up2]
  | 2 => simp [xM, up2]
  | 3 =>
    by_cases e : j = k
    · subst e; simp [xM, up2, h]
    · simp [xM, up2, e]
  | 4 => simp [xM, up2]
  | 5 => simp [xM, up2]
  | 6 => simp [xM, up2]
  | 7 => simp [xM, up2]
  | i + 8 => simp [xM, up2]
theorem xM_up_got (h : k < 6) : xM (up2 v 120 k x) n L = up2 (xM v n L) 4 k x := by
  funext i j
  match i with
  | 0 => simp [xM, up2]
  | 1 => simp [xM, up2]
  | 2 => simp [xM, up2]
  | 3 => simp [xM, up2]
  | 4 =>
    by_cases e : j = k
    · subst e; simp [xM, up2, h]
    · simp [xM, up2, e]
  | 5 => simp [xM, up2]
  | 6 => simp [xM, up2]
  | 7 => simp [xM, up2]
  | i + 8 => simp [xM, up2]
theorem xM_up_he : xM (up2 v 116 7 x) n L = up2 (xM v n L) 0 1 x := by
  funext i j
  match i with
  | 0 => match j with
    | 0 => simp [xM, up2]
    | 1 => simp [xM, up2]
    | 2 => simp [xM, up2]
    | 3 => simp [xM, up2]
    | 4 => simp [xM, up2]
    | 5 => simp [xM, up2]
    | 6 => simp [xM, up2]
    | 7 => simp [xM, up2]
    | j + 8 => simp [xM, up2]
  | 1 => simp [xM, up2]
  | 2 => simp [xM, up2]
  | 3 => simp [xM, up2]
  | 4 => simp [xM, up2]
  | 5 => simp [xM, up2]
  | 6 => simp [xM, up2]
  | 7 => simp [xM, up2]
  | i + 8 => simp [xM, up2]
theorem xM_up_sm : xM (up2 v 116 8 x) n L = up2 (xM v n L) 0 2 x := by
  funext i j
  match i with
  | 0 => match j with
    | 0 => simp [xM, up2]
    | 1 => simp [xM, up2]
    | 2 => simp [xM, up2]
    | 3 => simp [xM, up2]
    | 4 => simp [xM, up2]
    | 5 => simp [xM, up2]
    | 6 => simp [xM, up2]
    | 7 => simp [xM, up2]
    | j + 8 => simp [xM, up2]
  | 1 => simp [xM, up2]
  | 2 => simp [xM, up2]
  | 3 => simp [xM, up2]
  | 4 => simp [xM, up2]
  | 5 => simp [xM, up2]
  | 6 => simp [xM, up2]
  | 7 => simp [xM, up2]
  | i + 8 => simp [xM, up2]
theorem xM_up_dy : xM (up2 v 116 11 x) n L = up2 (xM v n L) 0 3 x := by
  funext i j
  match i with
  | 0 => match j with
    | 0 => simp [xM, up2]
    | 1 => simp [xM, up2]
    | 2 => simp [xM, up2]
    | 3 => simp [xM, up2]
    | 4 => simp [xM, up2]
    | 5 => simp [xM, up2]
    | 6 => simp [xM, up2]
    | 7 => simp [xM, up2]
    | j + 8 => simp [xM, up2]
  | 1 => simp [xM, up2]
  | 2 => simp [xM, up2]
  | 3 => simp [xM, up2]
  | 4 => simp [xM, up2]
  | 5 => simp [xM, up2]
  | 6 => simp [xM, up2]
  | 7 => simp [xM, up2]
  | i + 8 => simp [xM, up2]
end XU
/-! ranges stay through a day -/
theorem imax_rng {a b : Int32} {lo hi : Int} (ha : lo ≤ a.toInt ∧ a.toInt ≤ hi) (hb : b.toInt ≤ hi) : lo ≤ (imax a b).toInt ∧ (imax a b).toInt ≤ hi := by
  unfold imax
  split
  · rename_i h; rw [i_lt] at h; omega
  · exact ha
theorem imin_le {a b : Int32} : (imin a b).toInt ≤ a.toInt ∧ (imin a b).toInt ≤ b.toInt := by
  unfold imin
  split
  · rename_i h; rw [i_lt] at h; omega
  · rename_i h; rw [i_lt] at h; omega
theorem imin_ge {a b : Int32} {lo : Int} (ha : lo ≤ a.toInt) (hb : lo ≤ b.toInt) : lo ≤ (imin a b).toInt := by
  unfold imin
  split
  · exact hb
  · exact ha
theorem i_add {x y : Int32} (h1 : -2147483648 ≤ x.toInt + y.toInt) (h2 : x.toInt + y.toInt < 2147483648) : (x + y).toInt = x.toInt + y.toInt := by
  rw [Int32.toInt_add]
  exact Int.bmod_eq_of_le (by omega) (by omega)
theorem i_sub {x y : Int32} (h1 : -2147483648 ≤ x.toInt - y.toInt) (h2 : x.toInt - y.toInt < 2147483648) : (x - y).toInt = x.toInt - y.toInt := by
  rw [Int32.toInt_sub]
  exact Int.bmod_eq_of_le (by omega) (by omega)
theorem half_rng {g : Int32} (h : 0 ≤ g.toInt ∧ g.toInt ≤ 99) : 0 ≤ (g / 2).toInt ∧ (g / 2).toInt ≤ 99 := by
  obtain ⟨k, e, hk, -⟩ := i_nat h.1
  subst e
  rw [show (2 : Int32) = nI 2 from rfl, pk_div (by omega) (by omega) (by omega), nI_toInt (by omega)]
  omega
theorem tfor_rng {X : VV} {p : Nat} {g : Int32} (hg : 0 ≤ g.toInt ∧ g.toInt ≤ 99) (hv : 0 ≤ (X 2 p).toInt ∧ (X 2 p).toInt ≤ 9) : 0 ≤ (tforS X p g).toInt ∧ (tforS X p g).toInt ≤ 200 := by
  unfold tforS
  split
  · have := half_rng hg; omega
  · split
    · rw [i_add (by omega) (by omega)]; omega
    · omega
theorem fgS_ne {X : VV} {i k : Nat} : ∀ n, (i ≠ 3 ∨ n ≤ k) → fgS X n i k = X i k
  | 0, _ => rfl
  | n + 1, h => by
    have ih := fgS_ne (X := X) (i := i) (k := k) n (by omega)
    simp only [fgS, up2]
    rw [if_neg (by omega)]
    exact ih
theorem fgS_at {X : VV} : ∀ n k, k < n → fgS X n 3 k = imax 0 (X 3 k - 1)
  | n + 1, k, h => by
    simp only [fgS, up2]
    by_cases e : k = n
    · subst e
      simp only [and_self, if_true]
      rw [fgS_ne k (Or.inr (Nat.le_refl _))]
    · rw [if_neg (by omega)]
      exact fgS_at n k (by omega)
theorem RX_give {n B : Nat} {X : VV} (hn : n ≤ 6) (h : RX n B X) (hB : B < 1000000) : RX n B (giveS X) ∧ ∀ i k, i ≠ 3 → i ≠ 4 → giveS X i k = X i k := by
  unfold giveS
  split
  · rename_i hq0
    obtain ⟨q, hq, eq, hr⟩ := h.2.2.2.2.1
    obtain ⟨d, ed, hd, -⟩ := RX_day h hB
    have hqp : 0 < q := by
      rcases Nat.eq_zero_or_pos q with z | z
      · subst z; rw [eq] at hq0; exact absurd hq0 (by decide)
      · exact z
    have em : imod (X 0 3) (X 0 4) = nI (d % q) := by
      rw [ed, eq]; exact pk_rem (by omega) hqp (by omega)
    have hm := Nat.mod_lt d hqp
    obtain ⟨p, hp, ep⟩ := hr (d % q) hm
    simp only [em, nI_clamp (show d % q < 2 ^ 31 by omega), ep, nI_clamp (show p < 2 ^ 31 by omega)]
    split
    · obtain ⟨h1, h2, h3, h4⟩ := h.1 p hp
      have ht := tfor_rng (X := X) (p := p) (g := X 0 6) h.2.2.2.2.2.1 h2
      have hs : (X 3 p + tforS X p (X 0 6)).toInt = (X 3 p).toInt + (tforS X p (X 0 6)).toInt := i_add (by omega) (by omega)
      have hge : 0 ≤ (imin 999 (X 3 p + tforS X p (X 0 6))).toInt := imin_ge (by decide) (by omega)
      have hle : (imin 999 (X 3 p + tforS X p (X 0 6))).toInt ≤ 999 := imin_le.1
      refine ⟨⟨fun a ha => ?_, ?_⟩, fun i k h3 h4 => ?_⟩
      · obtain ⟨g1, g2, g3, g4⟩ := h.1 a ha
        refine ⟨by simpa [up2] using g1, by simpa [up2] using g2, ?_, by simpa [up2] using g4⟩
        by_cases e : a = p
        · subst e; simp only [up2, and_self, if_true]; exact ⟨hge, hle⟩
        · simpa [up2, e] using g3
      · simpa [up2] using h.2
      · simp [up2, h3, h4]
    · exact ⟨h, fun _ _ _ _ => rfl⟩
  · exact ⟨h, fun _ _ _ _ => rfl⟩
theorem RX_dayS {n B : Nat} {X : VV} {L : LND} (hn : n ≤ 6) (h : RX n B X) (hB : B < 1000000) : RX n (B + 1) (dayS X L n) := by
  have up : RX n (B + 1) X := ⟨h.1, h.2.1, h.2.2.1, ⟨h.2.2.2.1.1, by have := h.2.2.2.1.2; omega⟩, h.2.2.2.2⟩
  unfold dayS
  split
  · exact up
  obtain ⟨hg, hk⟩ := RX_give hn h hB
  generalize giveS X = G at hg hk
  have hday := h.2.2.2.1
  have hsm := h.2.2.1
  have hst := h.2.2.2.2.2.2
  refine ⟨fun a ha => ?_, ?_, ?_, ?_, ?_, ?_, ?_⟩
  · obtain ⟨g1, g2, g3, g4⟩ := hg.1 a ha
    refine ⟨?_, ?_, ?_, ?_⟩
    · simp only [up2]; simpa [fgS_ne n (Or.inl (show (1 : Nat) ≠ 3 by omega))] using g1
    · simp only [up2]; simpa [fgS_ne n (Or.inl (show (2 : Nat) ≠ 3 by omega))] using g2
    · simp only [up2]
      rw [if_neg (by omega), if_neg (by omega), if_neg (by omega), fgS_at n a ha]
      have e : (G 3 a - 1).toInt = (G 3 a).toInt - 1 := i_sub (by simp; omega) (by simp; omega)
      exact imax_rng (by decide) (by omega)
    · simp only [up2]; simpa [fgS_ne n (Or.inl (show (5 : Nat) ≠ 3 by omega))] using g4
  · simp only [up2]
    exact imax_rng (by decide) imin_le.1
  · simp only [up2]
    have e : (X 0 2 + X 0 7).toInt = (X 0 2).toInt + (X 0 7).toInt := i_add (by omega) (by omega)
    exact ⟨imin_ge (by decide) (by omega), imin_le.1⟩
  · simp only [up2]
    have e : (X 0 3 + 1).toInt = (X 0 3).toInt + 1 := i_add (by simp; omega) (by simp; omega)
    simp only [and_self, if_true]
    rw [e]; omega
  · obtain ⟨q, hq, eq, hr⟩ := hg.2.2.2.2.1
    refine ⟨q, hq, ?_, fun i hi => ?_⟩
    · simp only [up2]; simpa [fgS_ne n (Or.inl (show (0 : Nat) ≠ 3 by omega))] using eq
    · obtain ⟨p, hp, e⟩ := hr i hi
      exact ⟨p, hp, by simp only [up2]; simpa [fgS_ne n (Or.inl (show (7 : Nat) ≠ 3 by omega))] using e⟩
  · simp only [up2]; simpa [fgS_ne n (Or.inl (show (0 : Nat) ≠ 3 by omega)), hk] using h.2.2.2.2.2.1
  · simp only [up2]; simpa [fgS_ne n (Or.inl (show (0 : Nat) ≠ 3 by omega)), hk] using h.2.2.2.2.2.2
theorem RX_daysS {n B : Nat} {X : VV} {L : LND} (hn : n ≤ 6) (h : RX n B X) : ∀ k, B + k < 1000000 → RX n (B + k) (daysS X L n k)
  | 0, _ => h
  | k + 1, hk => RX_dayS (B := B + k) hn (RX_daysS hn h k (by omega)) (by omega)
theorem DM.fr {v v' : VV} {n B B' : Nat} {L : LND} (h : DM v n B L) (hf : frM v v') (hr : RX n B' (xM v' n L)) (hB : B' < 1000000) : DM v' n B' L :=
  ⟨by rw [hf.2.1 0 (by omega) (by omega) (by omega)]; exact h.1, h.2.1, h.2.2.1, hf.cur h.2.2.2.1, hr, hB⟩
/-- the gift, in the reference's words -/
theorem giveS_no {X : VV} (h : ¬ 0 < X 0 4) : giveS X = X := by unfold giveS; rw [if_neg h]
theorem giveS_dead {X : VV} {p : Nat} (h : 0 < X 0 4) (e : (X 7 (imod (X 0 3) (X 0 4)).toNatClampNeg).toNatClampNeg = p) (hd : ¬ X 5 p = 0) : giveS X = X := by
  subst e; unfold giveS; rw [if_pos h]; exact if_neg hd
theorem giveS_yes {X : VV} {p : Nat} (h : 0 < X 0 4) (e : (X 7 (imod (X 0 3) (X 0 4)).toNatClampNeg).toNatClampNeg = p) (hd : X 5 p = 0) : giveS X = up2 (up2 X 4 p (imin 99999 (X 4 p + X 0 6))) 3 p (imin 999 (X 3 p + tforS X p (X 0 6))) := by
  subst e; unfold giveS; rw [if_pos h]; exact if_pos hd
theorem tforS_cong {X Y : VV} {p : Nat} {g : Int32} (h1 : Y 1 p = X 1 p) (h2 : Y 2 p = X 2 p) : tforS Y p g = tforS X p g := by unfold tforS; rw [h1, h2]
theorem dayS_no {X : VV} {L : LND} {n : Nat} (h : X 0 1 = 0) : dayS X L n = X := if_pos h
theorem dayS_go {X : VV} {L : LND} {n : Nat} (h : ¬ X 0 1 = 0) : dayS X L n = up2 (up2 (up2 (fgS (giveS X) n) 0 1 (imax 0 (imin 999 (X 0 1 + chgS X L n)))) 0 2 (imin 999 (X 0 2 + X 0 7))) 0 3 (X 0 3 + 1) := if_neg h
theorem fr3_stk {v v' : VV} (f : Nat → Int32) (h : fr3 v v') (v2 : VV) (e : v2 = upc v' 131 f) : fr3 v v2 := by
  subst e
  exact ⟨fun i a b c => (u131 _ _ i c).trans (h.1 i a b c), fun k hk => by rw [u131 _ _ 119 (by decide), u131 _ _ 120 (by decide)]; exact h.2 k hk⟩
theorem fr3_refl (v : VV) : fr3 v v := ⟨fun _ _ _ _ => rfl, fun _ _ => ⟨rfl, rfl⟩⟩
theorem fr3_th {v v' v2 : VV} {k : Nat} {x : Int32} (h : fr3 v v') (hk : k < 6) (e : v2 = up2 v' 119 k x) : fr3 v v2 := by
  subst e
  exact ⟨fun i a b c => (up2_ne a).trans (h.1 i a b c), fun j hj => by rw [up2_at, if_neg (by omega), up2_ne (by decide)]; exact h.2 j hj⟩
theorem fr3_got {v v' v2 : VV} {k : Nat} {x : Int32} (h : fr3 v v') (hk : k < 6) (e : v2 = up2 v' 120 k x) : fr3 v v2 := by
  subst e
  exact ⟨fun i a b c => (up2_ne b).trans (h.1 i a b c), fun j hj => by rw [up2_at, if_neg (by omega), up2_ne (by decide)]; exact h.2 j hj⟩
theorem fr3_end {v vb v1 v2 v3 : VV} {x y z : Int32} (h : fr3 vb v) (e1 : v1 = up2 v 116 7 x) (e2 : v2 = up2 v1 116 8 y) (e3 : v3 = up2 v2 116 11 z) : frM vb v3 := by
  subst e1; subst e2; subst e3
  refine ⟨fun i h1 h2 h3 h4 => ?_, fun k h1 h2 h3 => ?_, fun k hk => ?_⟩
  · rw [up2_ne h1, up2_ne h1, up2_ne h1]; exact h.1 i h2 h3 h4
  · rw [up2_at, if_neg h3, up2_at, if_neg h2, up2_at, if_neg h1, h.1 116 (by decide) (by decide) (by decide)]
  · rw [up2_ne (by decide), up2_ne (by decide), up2_ne (by decide), up2_ne (by decide), up2_ne (by decide), up2_ne (by decide)]; exact h.2 k hk
set_option maxRecDepth 100000 in
set_option maxHeartbeats 1000000 in
theorem c_J6_bitCount_0f7a4 (gl : Launch) (Z : PL) (v : VV) (w : WV) (x0 : Int32) : CT gl yJ6_bitCount_0f7a4 cJ6_bitCount_0f7a4 1 (some .int) 0 0 Z [.int x0] v w (Qi Z (fun r u => r = bcS x0 ∧ (v, w) = u)) := by
  refine g_met (by decide) (Nat.le_of_ble_eq_true rfl) ?_
  intro gp ge gs gm ga gb gh gc X h ls hl
  have hx := X.1
  have hb := X.2.1
  have hl : lv_has ls 1 [(0, .int x0)] := hl
  refine lv_iload_n hx hb dJ6_bitCount_0f7a4_0 rfl (lv_at hl 0 rfl) ?_
  refine lv_iload_n hx hb dJ6_bitCount_0f7a4_1 rfl (lv_at hl 0 rfl) ?_
  refine lv_iconst (v := 1) hx hb dJ6_bitCount_0f7a4_2 (by decide) ?_
  refine lv_iushr hx hb dJ6_bitCount_0f7a4_3 rfl ?_
  refine lv_ldcw hx hb X.ow (X.ts _ cn_RJ6_265) dJ6_bitCount_0f7a4_4 ?_
  refine lv_iand hx hb dJ6_bitCount_0f7a4_7 ?_
  refine lv_isub hx hb dJ6_bitCount_0f7a4_8 ?_
  refine lv_topi (fun x0_9 ex0_9 => ?_)
  refine lv_istore_n (lv' := [(0, .int x0_9)]) hx hb dJ6_bitCount_0f7a4_9 rfl hl (by decide) rfl (fun ls hl => ?_)
  refine lv_iload_n hx hb dJ6_bitCount_0f7a4_10 rfl (lv_at hl 0 rfl) ?_
  refine lv_ldcw hx hb X.ow (X.ts _ cn_RJ6_266) dJ6_bitCount_0f7a4_11 ?_
  refine lv_iand hx hb dJ6_bitCount_0f7a4_14 ?_
  refine lv_iload_n hx hb dJ6_bitCount_0f7a4_15 rfl (lv_at hl 0 rfl) ?_
  refine lv_iconst (v := 2) hx hb dJ6_bitCount_0f7a4_16 (by decide) ?_
  refine lv_iushr hx hb dJ6_bitCount_0f7a4_17 rfl ?_
  refine lv_ldcw hx hb X.ow (X.ts _ cn_RJ6_266) dJ6_bitCount_0f7a4_18 ?_
  refine lv_iand hx hb dJ6_bitCount_0f7a4_21 ?_
  refine lv_iadd hx hb dJ6_bitCount_0f7a4_22 ?_
  refine lv_topi (fun x0_23 ex0_23 => ?_)
  refine lv_istore_n (lv' := [(0, .int x0_23)]) hx hb dJ6_bitCount_0f7a4_23 rfl hl (by decide) rfl (fun ls hl => ?_)
  refine lv_iload_n hx hb dJ6_bitCount_0f7a4_24 rfl (lv_at hl 0 rfl) ?_
  refine lv_iload_n hx hb dJ6_bitCount_0f7a4_25 rfl (lv_at hl 0 rfl) ?_
  refine lv_iconst (v := 4) hx hb dJ6_bitCount_0f7a4_26 (by decide) ?_
  refine lv_iushr hx hb dJ6_bitCount_0f7a4_27 rfl ?_
  refine lv_iadd hx hb dJ6_bitCount_0f7a4_28 ?_
  refine lv_ldcw hx hb X.ow (X.ts _ cn_RJ6_267) dJ6_bitCount_0f7a4_29 ?_
  refine lv_iand hx hb dJ6_bitCount_0f7a4_32 ?_
  refine lv_topi (fun x0_33 ex0_33 => ?_)
  refine lv_istore_n (lv' := [(0, .int x0_33)]) hx hb dJ6_bitCount_0f7a4_33 rfl hl (by decide) rfl (fun ls hl => ?_)
  refine lv_iload_n hx hb dJ6_bitCount_0f7a4_34 rfl (lv_at hl 0 rfl) ?_
  refine lv_iload_n hx hb dJ6_bitCount_0f7a4_35 rfl (lv_at hl 0 rfl) ?_
  refine lv_bipush (v := 8) hx hb dJ6_bitCount_0f7a4_36 (by decide) ?_
  refine lv_iushr hx hb dJ6_bitCount_0f7a4_38 rfl ?_
  refine lv_iadd hx hb dJ6_bitCount_0f7a4_39 ?_
  refine lv_topi (fun x0_40 ex0_40 => ?_)
  refine lv_istore_n (lv' := [(0, .int x0_40)]) hx hb dJ6_bitCount_0f7a4_40 rfl hl (by decide) rfl (fun ls hl => ?_)
  refine lv_iload_n hx hb dJ6_bitCount_0f7a4_41 rfl (lv_at hl 0 rfl) ?_
  refine lv_iload_n hx hb dJ6_bitCount_0f7a4_42 rfl (lv_at hl 0 rfl) ?_
  refine lv_bipush (v := 16) hx hb dJ6_bitCount_0f7a4_43 (by decide) ?_
  refine lv_iushr hx hb dJ6_bitCount_0f7a4_45 rfl ?_
  refine lv_iadd hx hb dJ6_bitCount_0f7a4_46 ?_
  refine lv_topi (fun x0_47 ex0_47 => ?_)
  refine lv_istore_n (lv' := [(0, .int x0_47)]) hx hb dJ6_bitCount_0f7a4_47 rfl hl (by decide) rfl (fun ls hl => ?_)
  refine lv_iload_n hx hb dJ6_bitCount_0f7a4_48 rfl (lv_at hl 0 rfl) ?_
  refine lv_bipush (v := 63) hx hb dJ6_bitCount_0f7a4_49 (by decide) ?_
  refine lv_iand hx hb dJ6_bitCount_0f7a4_51 ?_
  exact g_iret X h dJ6_bitCount_0f7a4_52 (by subst ex0_9 ex0_23 ex0_33 ex0_40 ex0_47; exact ⟨rfl, rfl⟩)

set_option maxRecDepth 100000 in
set_option maxHeartbeats 1000000 in
theorem c_X8_goesDay (gl : Launch) (Z : PL) (v : VV) (w : WV) (n : Nat) (B : Nat) (L : LND) (hd : DM v n B L) : CT gl yX8_goesDay cX8_goesDay 4 none 7 159 Z [.ref (zg Z 116)] v w (Qv Z (fun u => xM u.1 n L = dayS (xM v n L) L n ∧ (u.1, w) = u ∧ frM v u.1)) := by
  refine g_met (by decide) (Nat.le_of_ble_eq_true rfl) ?_
  intro gp ge gs gm ga gb gh gc X h ls hl
  have hx := X.1
  have hb := X.2.1
  have hl : lv_has ls 4 [(0, .ref (zg Z 116))] := hl
  obtain ⟨hn, h6, hwf, hcur, hrx, hB⟩ := id hd
  obtain ⟨dy, hdy, hdB, -⟩ := RX_day hrx hB
  rw [xM_03] at hdy
  obtain ⟨q, hq6, hq, hqr⟩ := id hrx.2.2.2.2.1
  rw [xM_04] at hq
  refine lv_aload_n hx hb dX8_goesDay_0 rfl (lv_at hl 0 rfl) ?_
  refine g_geti X h (k := 7) (cc_116) fr_RX8_98 rfl (by decide) dX8_goesDay_1 ?_
  refine lv_if_ne (tgt := 8) hx hb dX8_goesDay_4 (by decide) (fun c_4 => ?_) (fun c_4 => ?_)
  · skip
    refine lv_aload_n hx hb dX8_goesDay_8 rfl (lv_at hl 0 rfl) ?_
    refine g_ki h (g_runV X h (As := []) (rest := []) (c_X8_prayers gl Z v w n B L hd) mi_X8_prayers ml_RX8_240 (cc_116) (by decide) kl8 rfl ⟨Nat.le_of_ble_eq_true rfl, Nat.le_of_ble_eq_true rfl⟩ rfl hl.1 rfl (Nat.le_of_ble_eq_true rfl) dX8_goesDay_9) (fun r9 v9 w9 H locs hp9 h => ?_)
    obtain ⟨hr9, f9, hf9⟩ := hp9
    obtain ⟨ev9, rfl⟩ := Prod.mk.inj hf9
    replace ev9 := ev9.symm
    refine lv_iconst (v := 0) hx hb dX8_goesDay_12 (by decide) ?_
    refine lv_aload_n hx hb dX8_goesDay_13 rfl (lv_at hl 0 rfl) ?_
    refine g_ki h (g_runV X h (As := []) (rest := [.int 0, .int r9]) (c_X8_cold gl Z v9 w n L hwf (by rw [ev9]; exact (DM_stack hd f9).2.2.2.1)) mi_X8_cold ml_RX8_243 (cc_116) (by decide) kl8 rfl ⟨Nat.le_of_ble_eq_true rfl, Nat.le_of_ble_eq_true rfl⟩ rfl hl.1 rfl (Nat.le_of_ble_eq_true rfl) dX8_goesDay_14) (fun r14 v14 w14 H locs hp14 h => ?_)
    obtain ⟨hr14, hu14⟩ := hp14; obtain ⟨rfl, rfl⟩ := Prod.mk.inj hu14
    rw [ev9, xM_stack] at hr14
    refine lv_aload_n hx hb dX8_goesDay_17 rfl (lv_at hl 0 rfl) ?_
    refine g_ki h (g_runV X h (As := []) (rest := [.int r14, .int 0, .int r9]) (c_X8_letting gl Z v9 w n B L (by rw [ev9]; exact DM_stack hd f9)) mi_X8_letting ml_RX8_246 (cc_116) (by decide) kl8 rfl ⟨Nat.le_of_ble_eq_true rfl, Nat.le_of_ble_eq_true rfl⟩ rfl hl.1 rfl (Nat.le_of_ble_eq_true rfl) dX8_goesDay_18) (fun r18 v18 w18 H locs hp18 h => ?_)
    obtain ⟨hr18, f18, hf18⟩ := hp18
    obtain ⟨ev18, rfl⟩ := Prod.mk.inj hf18
    replace ev18 := ev18.symm
    rw [ev9, xM_stack] at hr18
    refine g_ki h (g_runS X h (As := [.int r18]) (rest := [.int r14, .int 0, .int r9]) (c_J6_bitCount_0f7a4 gl Z v18 w r18) ms_J6_bitCount_0f7a4 ml_RX8_249 ⟨Nat.le_of_ble_eq_true rfl, Nat.le_of_ble_eq_true rfl⟩ rfl hl.1 rfl (Nat.le_of_ble_eq_true rfl) dX8_goesDay_21) (fun r21 v21 w21 H locs hp21 h => ?_)
    obtain ⟨hr21, hu21⟩ := hp21; obtain ⟨rfl, rfl⟩ := Prod.mk.inj hu21
    refine lv_isub hx hb dX8_goesDay_24 ?_
    refine g_max X hl.1 ml_RX8_254 ⟨Nat.le_of_ble_eq_true rfl, Nat.le_of_ble_eq_true rfl⟩ (Nat.le_of_ble_eq_true rfl) dX8_goesDay_25 ?_
    refine lv_isub hx hb dX8_goesDay_28 ?_
    refine lv_topi (fun x1_29 ex1_29 => ?_)
    refine lv_istore_n (lv' := [(1, .int x1_29), (0, .ref (zg Z 116))]) hx hb dX8_goesDay_29 rfl hl (by decide) rfl (fun ls hl => ?_)
    have L112 : ∀ (va : VV), (xM va n L = giveS (xM v n L)) → (fr3 v va) → ∀ (H : Heap) (locs : List Loc), HS Z gs va w H locs → ∀ ls : Array Slot, lv_has ls 4 [(0, .ref (zg Z 116)), (1, .int x1_29)] → W gp gl ge (rmm 7 159) gs gm ga gb gh gc H locs 0 0 (MQ gb (Qv Z (fun u => xM u.1 n L = dayS (xM v n L) L n ∧ (u.1, w) = u ∧ frM v u.1)) ga gs 0 0 (zA Z)) (F0 gm 112 ls []) := by
      intro va hG hfa H locs h ls hl
      have hn0 : va 116 0 = nI n := by rw [hfa.1 116 (by decide) (by decide) (by decide)]; exact hn
      refine lv_aload_n hx hb dX8_goesDay_112 rfl (lv_at hl 0 rfl) ?_
      refine lv_iconst (v := 4) hx hb dX8_goesDay_113 (by decide) ?_
      refine lv_iconst (v := 1) hx hb dX8_goesDay_114 (by decide) ?_
      refine g_ki h (g_runV X h (As := [.int 4, .int 1]) (rest := []) (c_X8_lastOf gl Z va w 4 4 rfl 1 L hwf (curM_cong (by rw [hfa.1 116 (by decide) (by decide) (by decide)]) (fun i _ _ => hfa.1 i (by omega) (by omega) (by omega)) hcur) (by omega)) mi_X8_lastOf ml_RX8_234 (cc_116) (by decide) kl8 rfl ⟨Nat.le_of_ble_eq_true rfl, Nat.le_of_ble_eq_true rfl⟩ rfl hl.1 rfl (Nat.le_of_ble_eq_true rfl) dX8_goesDay_115) (fun r115 v115 w115 H locs hp115 h => ?_)
      obtain ⟨hr115, hu115⟩ := hp115; obtain ⟨rfl, rfl⟩ := Prod.mk.inj hu115
      refine lv_istore_n (lv' := [(2, .int r115), (0, .ref (zg Z 116)), (1, .int x1_29)]) hx hb dX8_goesDay_118 rfl hl (by decide) rfl (fun ls hl => ?_)
      refine lv_iconst (v := 0) hx hb dX8_goesDay_119 (by decide) ?_
      refine lv_istore_n (lv' := [(3, .int 0), (2, .int r115), (0, .ref (zg Z 116)), (1, .int x1_29)]) hx hb dX8_goesDay_120 rfl hl (by decide) rfl (fun ls hl => ?_)
      have L121 : ∀ (n121 : Nat) (i : Nat) (x3 : Int32) (vb : VV), (x3 = nI i) → (i ≤ n) → (xM vb n L = fgS (giveS (xM v n L)) i) → (fr3 v vb) → n - i < n121 → ∀ (H : Heap) (locs : List Loc), HS Z gs vb w H locs → ∀ ls : Array Slot, lv_has ls 4 [(0, .ref (zg Z 116)), (1, .int x1_29), (2, .int r115), (3, .int x3)] → W gp gl ge (rmm 7 159) gs gm ga gb gh gc H locs 0 0 (MQ gb (Qv Z (fun u => xM u.1 n L = dayS (xM v n L) L n ∧ (u.1, w) = u ∧ frM v u.1)) ga gs 0 0 (zA Z)) (F0 gm 121 ls []) := by
        intro n121
        induction n121 with
        | zero => intro i x3 vb hi3 hi hG2 hfb hmu; exact absurd hmu (Nat.not_lt_zero _)
        | succ n121 ih121 =>
          intro i x3 vb hi3 hi hG2 hfb hmu121 H locs h ls hl
          have hn0 := hn
          refine lv_iload_n hx hb dX8_goesDay_121 rfl (lv_at hl 3 rfl) ?_
          refine lv_aload_n hx hb dX8_goesDay_122 rfl (lv_at hl 0 rfl) ?_
          refine g_geti X h (k := 0) (cc_116) fr_RX8_111 rfl (by decide) dX8_goesDay_123 ?_
          refine g_tr (y := (v 116 0)) (by simp [hfb.1, up2, upc]) ?_
          refine lv_icmp_ge (tgt := 153) hx hb dX8_goesDay_126 (by decide) (fun c_126 => ?_) (fun c_126 => ?_)
          · skip
            have hil := nI_le1 (a := n) (b := i) (hn0) hi3 (by omega) (by omega) c_126
            refine lv_aload_n hx hb dX8_goesDay_153 rfl (lv_at hl 0 rfl) ?_
            refine lv_iconst (v := 0) hx hb dX8_goesDay_154 (by decide) ?_
            refine lv_sipush (v := 999) hx hb dX8_goesDay_155 (by decide) ?_
            refine lv_aload_n hx hb dX8_goesDay_158 rfl (lv_at hl 0 rfl) ?_
            refine g_geti X h (k := 7) (cc_116) fr_RX8_98 rfl (by decide) dX8_goesDay_159 ?_
            refine g_tr (y := (v 116 7)) (by simp [hfb.1, up2, upc]) ?_
            refine lv_iload_n hx hb dX8_goesDay_162 rfl (lv_at hl 1 rfl) ?_
            refine lv_iadd hx hb dX8_goesDay_163 ?_
            refine g_min X hl.1 ml_RX8_263 ⟨Nat.le_of_ble_eq_true rfl, Nat.le_of_ble_eq_true rfl⟩ (Nat.le_of_ble_eq_true rfl) dX8_goesDay_164 ?_
            refine g_max X hl.1 ml_RX8_254 ⟨Nat.le_of_ble_eq_true rfl, Nat.le_of_ble_eq_true rfl⟩ (Nat.le_of_ble_eq_true rfl) dX8_goesDay_167 ?_
            refine g_puti X h (k := 7) (cc_116) fp_RX8_98 rfl (by decide) dX8_goesDay_170 (fun v170 H locs ev170 h => ?_)
            refine lv_aload_n hx hb dX8_goesDay_173 rfl (lv_at hl 0 rfl) ?_
            refine lv_sipush (v := 999) hx hb dX8_goesDay_174 (by decide) ?_
            refine lv_aload_n hx hb dX8_goesDay_177 rfl (lv_at hl 0 rfl) ?_
            refine g_geti X h (k := 8) (cc_116) fr_RX8_136 rfl (by decide) dX8_goesDay_178 ?_
            refine g_tr (y := (v 116 8)) (by simp [ev170, hfb.1, up2, upc]) ?_
            refine lv_iload_n hx hb dX8_goesDay_181 rfl (lv_at hl 2 rfl) ?_
            refine lv_iadd hx hb dX8_goesDay_182 ?_
            refine g_min X hl.1 ml_RX8_263 ⟨Nat.le_of_ble_eq_true rfl, Nat.le_of_ble_eq_true rfl⟩ (Nat.le_of_ble_eq_true rfl) dX8_goesDay_183 ?_
            refine g_puti X h (k := 8) (cc_116) fp_RX8_136 rfl (by decide) dX8_goesDay_186 (fun v186 H locs ev186 h => ?_)
            refine lv_aload_n hx hb dX8_goesDay_189 rfl (lv_at hl 0 rfl) ?_
            refine lv_dup hx hb dX8_goesDay_190 rfl ?_
            refine g_geti X h (k := 11) (cc_116) fr_RX8_224 rfl (by decide) dX8_goesDay_191 ?_
            refine g_tr (y := (v 116 11)) (by simp [ev186, ev170, hfb.1, up2, upc]) ?_
            refine lv_iconst (v := 1) hx hb dX8_goesDay_194 (by decide) ?_
            refine lv_iadd hx hb dX8_goesDay_195 ?_
            refine g_puti X h (k := 11) (cc_116) fp_RX8_224 rfl (by decide) dX8_goesDay_196 (fun v196 H locs ev196 h => ?_)
            exact g_vret X h dX8_goesDay_199 ⟨(by show xM v196 n L = _; rw [ev196, xM_up_dy, ev186, xM_up_sm, ev170, xM_up_he, hG2, show i = n by omega, dayS_go (by rw [xM_01]; exact c_4), xM_01, xM_02, xM_03, xM_07, chgS, ← hr9, ← hr14, ← hr18, ← hr21, hr115, ex1_29]; rfl), rfl, fr3_end hfb ev170 ev186 ev196⟩
          · skip
            have hil := nI_le0 (a := n) (b := i) (hn0) hi3 (by omega) (by omega) c_126
            refine lv_aload_n hx hb dX8_goesDay_129 rfl (lv_at hl 0 rfl) ?_
            refine g_getr X h (k := 3) (t := 119) (cc_116) fr_RX8_18 rfl (by decide) (by decide) (by decide) dX8_goesDay_130 ?_
            refine lv_iload_n hx hb dX8_goesDay_133 rfl (lv_at hl 3 rfl) ?_
            refine lv_iconst (v := 0) hx hb dX8_goesDay_134 (by decide) ?_
            refine lv_aload_n hx hb dX8_goesDay_135 rfl (lv_at hl 0 rfl) ?_
            refine g_getr X h (k := 3) (t := 119) (cc_116) fr_RX8_18 rfl (by decide) (by decide) (by decide) dX8_goesDay_136 ?_
            refine lv_iload_n hx hb dX8_goesDay_139 rfl (lv_at hl 3 rfl) ?_
            refine g_iald X h (k := i) (cc_119) hi3 (by omega) (by decide) dX8_goesDay_140 ?_
            refine lv_iconst (v := 1) hx hb dX8_goesDay_141 (by decide) ?_
            refine lv_isub hx hb dX8_goesDay_142 ?_
            refine g_max X hl.1 ml_RX8_254 ⟨Nat.le_of_ble_eq_true rfl, Nat.le_of_ble_eq_true rfl⟩ (Nat.le_of_ble_eq_true rfl) dX8_goesDay_143 ?_
            refine g_iast X h (k := i) (cc_119) hi3 (by omega) (by decide) dX8_goesDay_146 (fun v146 H locs ev146 h => ?_)
            refine lv_iinc (v := (x3 + 1)) (lv' := [(3, .int (x3 + 1)), (0, .ref (zg Z 116)), (1, .int x1_29), (2, .int r115)]) hx hb dX8_goesDay_147 hl (k := 3) rfl rfl (by decide) rfl (fun ls hl => ?_)
            refine lv_goto (tgt := 121) hx hb dX8_goesDay_150 (by decide) ?_
            exact ih121 (i + 1) (x3 + 1) v146 (by rw [hi3]; exact nI_1 _) (by omega) (by rw [ev146, xM_up_th (by omega), hG2]; show _ = up2 _ _ _ _; rw [← hG2, xM_th (by omega)]; rfl) (fr3_th hfb (by omega) ev146) (by omega) _ _ h ls (lv_sub hl [1, 2, 3, 0] rfl)
      exact L121 (n - 0 + 1) 0 0 va rfl (Nat.zero_le _) hG hfa (Nat.lt_succ_self _) _ _ h ls (lv_sub hl [2, 3, 1, 0] rfl)
    refine lv_aload_n hx hb dX8_goesDay_30 rfl (lv_at hl 1 rfl) ?_
    refine g_geti X h (k := 9) (cc_116) fr_RX8_139 rfl (by decide) dX8_goesDay_31 ?_
    refine g_tr (y := (v 116 9)) (by simp [ev18, ev9, up2, upc]) ?_
    refine lv_if_le (tgt := 112) hx hb dX8_goesDay_34 (by decide) (fun c_34 => ?_) (fun c_34 => ?_)
    · skip
      have hq0 : q = 0 := by
        have z := nI_le1 (a := q) (b := 0) hq rfl (by omega) (by omega) c_34
        omega
      exact L112 v18 (by rw [ev18, xM_stack, ev9, xM_stack]; exact (giveS_no (by rw [xM_04, hq, hq0]; decide)).symm) (fr3_stk f18 (fr3_stk f9 (fr3_refl v) _ ev9) _ ev18) _ _ h ls (lv_sub hl [1, 0] rfl)
    · skip
      have hq0 := nI_le0 (a := q) (b := 0) hq rfl (by omega) (by omega) c_34
      refine lv_aload_n hx hb dX8_goesDay_37 rfl (lv_at hl 1 rfl) ?_
      refine g_getr X h (k := 10) (t := 123) (cc_116) fr_RX8_30 rfl (by decide) (by decide) (by decide) dX8_goesDay_38 ?_
      refine lv_aload_n hx hb dX8_goesDay_41 rfl (lv_at hl 1 rfl) ?_
      refine g_geti X h (k := 11) (cc_116) fr_RX8_224 rfl (by decide) dX8_goesDay_42 ?_
      refine g_tr (y := (v 116 11)) (by simp [ev18, ev9, up2, upc]) ?_
      refine lv_aload_n hx hb dX8_goesDay_45 rfl (lv_at hl 1 rfl) ?_
      refine g_geti X h (k := 9) (cc_116) fr_RX8_139 rfl (by decide) dX8_goesDay_46 ?_
      refine g_tr (y := (v 116 9)) (by simp [ev18, ev9, up2, upc]) ?_
      have hmm : v 116 11 - v 116 11 / v 116 9 * v 116 9 = nI (dy % q) := by rw [hdy, hq]; exact pk_rem (by omega) hq0 (by omega)
      have hml := Nat.mod_lt dy hq0
      refine lv_irem hx hb dX8_goesDay_49 (by rw [hq]; exact nI_ne0 hq0 (by omega)) ?_
      refine g_iald X h (k := (dy % q)) (cc_123) hmm (by omega) (by decide) dX8_goesDay_50 ?_
      refine g_tr (y := (v 123 (dy % q))) (by simp [ev18, ev9, up2, upc]) ?_
      obtain ⟨pp, hppn, hpp⟩ := hqr (dy % q) hml
      rw [xM_rnd (by omega)] at hpp
      refine lv_topi (fun x2_51 ex2_51 => ?_)
      refine lv_istore_n (lv' := [(2, .int x2_51), (1, .int x1_29), (0, .ref (zg Z 116))]) hx hb dX8_goesDay_51 rfl hl (by decide) rfl (fun ls hl => ?_)
      refine lv_aload_n hx hb dX8_goesDay_52 rfl (lv_at hl 2 rfl) ?_
      refine g_getr X h (k := 5) (t := 121) (cc_116) fr_RX8_24 rfl (by decide) (by decide) (by decide) dX8_goesDay_53 ?_
      refine lv_iload_n hx hb dX8_goesDay_56 rfl (lv_at hl 0 rfl) ?_
      refine g_iald X h (k := pp) (cc_121) (ex2_51.trans hpp) (by omega) (by decide) dX8_goesDay_57 ?_
      refine g_tr (y := (v 121 pp)) (by simp [ev18, ev9, up2, upc]) ?_
      refine lv_if_ne (tgt := 112) hx hb dX8_goesDay_58 (by decide) (fun c_58 => ?_) (fun c_58 => ?_)
      · skip
        exact L112 v18 (by rw [ev18, xM_stack, ev9, xM_stack]; exact (giveS_dead (p := pp) (by rw [xM_04, hq]; exact nI_lt hq0 (by omega)) (by rw [xM_03, xM_04, show imod (v 116 11) (v 116 9) = nI (dy % q) from hmm, nI_clamp (by omega), xM_rnd (by omega), hpp, nI_clamp (by omega)]) (by rw [xM_dead (by omega)]; exact c_58)).symm) (fr3_stk f18 (fr3_stk f9 (fr3_refl v) _ ev9) _ ev18) _ _ h ls (lv_sub hl [2, 1] rfl)
      · skip
        have hc18 : curM v18 L := by rw [ev18, ev9]; exact (DM_stack (DM_stack hd f9) f18).2.2.2.1
        refine lv_aload_n hx hb dX8_goesDay_61 rfl (lv_at hl 2 rfl) ?_
        refine g_getr X h (k := 4) (t := 120) (cc_116) fr_RX8_21 rfl (by decide) (by decide) (by decide) dX8_goesDay_62 ?_
        refine lv_iload_n hx hb dX8_goesDay_65 rfl (lv_at hl 0 rfl) ?_
        refine lv_ldcw hx hb X.ow (X.ts _ cn_RX8_259) dX8_goesDay_66 ?_
        refine lv_aload_n hx hb dX8_goesDay_69 rfl (lv_at hl 2 rfl) ?_
        refine g_getr X h (k := 4) (t := 120) (cc_116) fr_RX8_21 rfl (by decide) (by decide) (by decide) dX8_goesDay_70 ?_
        refine lv_iload_n hx hb dX8_goesDay_73 rfl (lv_at hl 0 rfl) ?_
        refine g_iald X h (k := pp) (cc_120) (ex2_51.trans hpp) (by omega) (by decide) dX8_goesDay_74 ?_
        refine g_tr (y := (v 120 pp)) (by simp [ev18, ev9, up2, upc]) ?_
        refine lv_aload_n hx hb dX8_goesDay_75 rfl (lv_at hl 2 rfl) ?_
        refine g_ki h (g_runV X h (As := []) (rest := [.int (v 120 pp), .int 99999, .int x2_51, .ref (zg Z 120)]) (c_X8_pocket gl Z v18 w n L hwf hc18) mi_X8_pocket ml_RX8_260 (cc_116) (by decide) kl8 rfl ⟨Nat.le_of_ble_eq_true rfl, Nat.le_of_ble_eq_true rfl⟩ rfl hl.1 rfl (Nat.le_of_ble_eq_true rfl) dX8_goesDay_76) (fun r76 v76 w76 H locs hp76 h => ?_)
        obtain ⟨hr76, hu76⟩ := hp76; obtain ⟨rfl, rfl⟩ := Prod.mk.inj hu76
        rw [ev18, xM_stack, ev9, xM_stack] at hr76
        refine lv_iadd hx hb dX8_goesDay_79 ?_
        refine g_min X hl.1 ml_RX8_263 ⟨Nat.le_of_ble_eq_true rfl, Nat.le_of_ble_eq_true rfl⟩ (Nat.le_of_ble_eq_true rfl) dX8_goesDay_80 ?_
        refine g_iast X h (k := pp) (cc_120) (ex2_51.trans hpp) (by omega) (by decide) dX8_goesDay_83 (fun v83 H locs ev83 h => ?_)
        refine lv_aload_n hx hb dX8_goesDay_84 rfl (lv_at hl 2 rfl) ?_
        refine g_getr X h (k := 3) (t := 119) (cc_116) fr_RX8_18 rfl (by decide) (by decide) (by decide) dX8_goesDay_85 ?_
        refine lv_iload_n hx hb dX8_goesDay_88 rfl (lv_at hl 0 rfl) ?_
        refine lv_sipush (v := 999) hx hb dX8_goesDay_89 (by decide) ?_
        refine lv_aload_n hx hb dX8_goesDay_92 rfl (lv_at hl 2 rfl) ?_
        refine g_getr X h (k := 3) (t := 119) (cc_116) fr_RX8_18 rfl (by decide) (by decide) (by decide) dX8_goesDay_93 ?_
        refine lv_iload_n hx hb dX8_goesDay_96 rfl (lv_at hl 0 rfl) ?_
        refine g_iald X h (k := pp) (cc_119) (ex2_51.trans hpp) (by omega) (by decide) dX8_goesDay_97 ?_
        refine g_tr (y := (v 119 pp)) (by simp [ev83, ev18, ev9, up2, upc]) ?_
        refine lv_aload_n hx hb dX8_goesDay_98 rfl (lv_at hl 2 rfl) ?_
        refine lv_iload_n hx hb dX8_goesDay_99 rfl (lv_at hl 0 rfl) ?_
        refine lv_aload_n hx hb dX8_goesDay_100 rfl (lv_at hl 2 rfl) ?_
        refine g_ki h (g_runV X h (As := []) (rest := [.int x2_51, .ref (zg Z 116), .int (v 119 pp), .int 999, .int x2_51, .ref (zg Z 119)]) (c_X8_pocket gl Z v83 w n L hwf (curM_cong (by rw [ev83]; rfl) (fun i _ _ => by rw [ev83]; exact up2_ne (by omega)) hc18)) mi_X8_pocket ml_RX8_260 (cc_116) (by decide) kl8 rfl ⟨Nat.le_of_ble_eq_true rfl, Nat.le_of_ble_eq_true rfl⟩ rfl hl.1 rfl (Nat.le_of_ble_eq_true rfl) dX8_goesDay_101) (fun r101 v101 w101 H locs hp101 h => ?_)
        obtain ⟨hr101, hu101⟩ := hp101; obtain ⟨rfl, rfl⟩ := Prod.mk.inj hu101
        rw [ev83, xM_up_got (by omega), ev18, xM_stack, ev9, xM_stack] at hr101
        replace hr101 : r101 = xM v n L 0 6 := hr101
        refine g_ki h (g_runV X h (As := [.int x2_51, .int r101]) (rest := [.int (v 119 pp), .int 999, .int x2_51, .ref (zg Z 119)]) (c_X8_thanksFor gl Z v83 w x2_51 pp (ex2_51.trans hpp) r101 n L h6 hppn) mi_X8_thanksFor ml_RX8_132 (cc_116) (by decide) kl8 rfl ⟨Nat.le_of_ble_eq_true rfl, Nat.le_of_ble_eq_true rfl⟩ rfl hl.1 rfl (Nat.le_of_ble_eq_true rfl) dX8_goesDay_104) (fun r104 v104 w104 H locs hp104 h => ?_)
        obtain ⟨hr104, hu104⟩ := hp104; obtain ⟨rfl, rfl⟩ := Prod.mk.inj hu104
        rw [ev83, xM_up_got (by omega), ev18, xM_stack, ev9, xM_stack, tforS_cong (X := xM v n L) (by simp [up2]) (by simp [up2])] at hr104
        refine lv_iadd hx hb dX8_goesDay_107 ?_
        refine g_min X hl.1 ml_RX8_263 ⟨Nat.le_of_ble_eq_true rfl, Nat.le_of_ble_eq_true rfl⟩ (Nat.le_of_ble_eq_true rfl) dX8_goesDay_108 ?_
        refine g_iast X h (k := pp) (cc_119) (ex2_51.trans hpp) (by omega) (by decide) dX8_goesDay_111 (fun v111 H locs ev111 h => ?_)
        exact L112 v111 (by rw [ev111, xM_up_th (by omega), ev83, xM_up_got (by omega), ev18, xM_stack, ev9, xM_stack, giveS_yes (p := pp) (by rw [xM_04, hq]; exact nI_lt hq0 (by omega)) (by rw [xM_03, xM_04, show imod (v 116 11) (v 116 9) = nI (dy % q) from hmm, nI_clamp (by omega), xM_rnd (by omega), hpp, nI_clamp (by omega)]) (by rw [xM_dead (by omega)]; exact c_58), xM_got (by omega), xM_th (by omega), hr104, hr101, hr76]; rfl) (fr3_th (fr3_got (fr3_stk f18 (fr3_stk f9 (fr3_refl v) _ ev9) _ ev18) (by omega) ev83) (by omega) ev111) _ _ h ls (lv_sub hl [2, 1] rfl)
  · skip
    exact g_vret X h dX8_goesDay_7 ⟨(dayS_no (by rw [xM_01]; exact c_4)).symm, rfl, frM_refl v⟩

set_option maxRecDepth 100000 in
set_option maxHeartbeats 1000000 in
theorem c_X8_days (gl : Launch) (Z : PL) (v : VV) (w : WV) (x0 : Int32) (k : Nat) (hk : x0 = nI k) (n : Nat) (B : Nat) (L : LND) (hd : DM v n B L) (hBk : B + k < 1000000) : CT gl yX8_days cX8_days 3 none 8 182 Z [.ref (zg Z 116), .int x0] v w (Qv Z (fun u => xM u.1 n L = daysS (xM v n L) L n k ∧ (u.1, w) = u ∧ frM v u.1)) := by
  refine g_met (by decide) (Nat.le_of_ble_eq_true rfl) ?_
  intro gp ge gs gm ga gb gh gc X h ls hl
  have hx := X.1
  have hb := X.2.1
  have hl : lv_has ls 3 [(0, .ref (zg Z 116)), (1, .int x0)] := hl
  obtain ⟨hn, h6, hwf, hcur, hrx, hB⟩ := id hd
  refine lv_iconst (v := 0) hx hb dX8_days_0 (by decide) ?_
  refine lv_istore_n (lv' := [(2, .int 0), (0, .ref (zg Z 116)), (1, .int x0)]) hx hb dX8_days_1 rfl hl (by decide) rfl (fun ls hl => ?_)
  have L2 : ∀ (n2 : Nat) (i : Nat) (x2 : Int32) (va : VV), (x2 = nI i) → (i ≤ k) → (xM va n L = daysS (xM v n L) L n i) → (frM v va) → k - i < n2 → ∀ (H : Heap) (locs : List Loc), HS Z gs va w H locs → ∀ ls : Array Slot, lv_has ls 3 [(0, .ref (zg Z 116)), (1, .int x0), (2, .int x2)] → W gp gl ge (rmm 8 182) gs gm ga gb gh gc H locs 0 0 (MQ gb (Qv Z (fun u => xM u.1 n L = daysS (xM v n L) L n k ∧ (u.1, w) = u ∧ frM v u.1)) ga gs 0 0 (zA Z)) (F0 gm 2 ls []) := by
    intro n2
    induction n2 with
    | zero => intro i x2 va hx2 hi hxa hfa hmu; exact absurd hmu (Nat.not_lt_zero _)
    | succ n2 ih2 =>
      intro i x2 va hx2 hi hxa hfa hmu2 H locs h ls hl
      refine lv_iload_n hx hb dX8_days_2 rfl (lv_at hl 2 rfl) ?_
      refine lv_iload_n hx hb dX8_days_3 rfl (lv_at hl 1 rfl) ?_
      refine lv_icmp_ge (tgt := 17) hx hb dX8_days_4 (by decide) (fun c_4 => ?_) (fun c_4 => ?_)
      · skip
        have hik := nI_le1 (a := k) (b := i) hk hx2 (by omega) (by omega) c_4
        exact g_vret X h dX8_days_17 ⟨by rw [show k = i by omega]; exact hxa, rfl, hfa⟩
      · skip
        have hik := nI_le0 (a := k) (b := i) hk hx2 (by omega) (by omega) c_4
        refine lv_aload_n hx hb dX8_days_7 rfl (lv_at hl 0 rfl) ?_
        refine g_kv h (g_runV X h (As := []) (rest := []) (c_X8_goesDay gl Z va w n (B + i) L (DM.fr hd hfa (by rw [hxa]; exact RX_daysS h6 hrx i (by omega)) (by omega))) mi_X8_goesDay ml_RX8_266 (cc_116) (by decide) kl8 rfl ⟨Nat.le_of_ble_eq_true rfl, Nat.le_of_ble_eq_true rfl⟩ rfl hl.1 rfl (Nat.le_of_ble_eq_true rfl) dX8_days_8) (fun v8 w8 H locs hp8 h => ?_)
        obtain ⟨hx8, hw8, hf8⟩ := hp8
        obtain ⟨-, rfl⟩ := Prod.mk.inj hw8
        replace hx8 : xM v8 n L = _ := hx8
        replace hf8 : frM _ v8 := hf8
        refine lv_iinc (v := (x2 + 1)) (lv' := [(2, .int (x2 + 1)), (0, .ref (zg Z 116)), (1, .int x0)]) hx hb dX8_days_11 hl (k := 2) rfl rfl (by decide) rfl (fun ls hl => ?_)
        refine lv_goto (tgt := 2) hx hb dX8_days_14 (by decide) ?_
        exact ih2 (i + 1) (x2 + 1) v8 (by rw [hx2]; exact nI_1 _) (by omega) (by rw [hx8, hxa]; rfl) (frM_trans hfa hf8) (by omega) _ _ h ls (lv_sub hl [1, 2, 0] rfl)
  exact L2 (k - 0 + 1) 0 0 v rfl (Nat.zero_le _) rfl (frM_refl v) (Nat.lt_succ_self _) _ _ h ls (lv_sub hl [1, 2, 0] rfl)
