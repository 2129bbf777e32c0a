/-! the class: worlds become as others -/
theorem days_end {X : VV} {L : LND} {n i k : Nat} (hi : i ≤ k) (h : daysS X L n i 0 1 = 0) : daysS X L n k = daysS X L n i := by
  obtain ⟨d, rfl⟩ : ∃ d, k = i + d := ⟨k - i, by omega⟩
  exact days_gone h d
/-- rows of pairs: as many, and the same -/
def frQ (v u : VV) (d : Nat) : Prop := ∀ i, i ≠ d → i ≠ d + 1 → i ≠ d + 2 → u i = v i
def PQ (v : VV) (d q : Nat) (f g : Nat → Int32) : Prop := v d 2 = nI q ∧ ∀ i, i < q → v (d + 1) i = f i ∧ v (d + 2) i = g i
/-- what starting as another touches -/
def frT (v u : VV) (b : Nat) : Prop := ∀ i, (i < b ∨ i = b + 2 ∨ b + 8 < i) → u i = v i
/-- COLD, POCKET, STINK are the land's -/
def stW (v : VV) (b j : Nat) : Prop := v b 7 = v (2 + 7 * j) 0 ∧ v b 8 = v (2 + 7 * j) 1 ∧ v b 9 = v (2 + 7 * j) 2
theorem isW_bc {b c : Nat} (hb : isW b) (hc : isW c) (h : b ≠ c) : b + 19 ≤ c ∨ c + 19 ≤ b := by rcases hb with rfl | rfl | rfl <;> rcases hc with rfl | rfl | rfl <;> first | omega | exact absurd rfl h
/-- the most of the second ones -/
def mxF (f : Nat → Int32) : Nat → Int32
  | 0 => -1
  | i + 1 => imax (mxF f i) (f i)
theorem mxF_ge (f : Nat → Int32) : ∀ n i, i < n → (f i).toInt ≤ (mxF f n).toInt := by
  intro n
  induction n with
  | zero => intro i h; omega
  | succ n ih =>
    intro i h
    show _ ≤ (imax (mxF f n) (f n)).toInt
    unfold imax
    by_cases e : i = n
    · subst e
      split
      · omega
      · rename_i q; rw [i_lt] at q; omega
    · have := ih i (by omega)
      split
      · rename_i q; rw [i_lt] at q; omega
      · omega
theorem mxF_le {f : Nat → Int32} {m : Nat} : ∀ n, (∀ i, i < n → ∃ d, d ≤ m ∧ f i = nI d) → m < 1000 → -1 ≤ (mxF f n).toInt ∧ (mxF f n).toInt ≤ m
  | 0, _, _ => by show -1 ≤ (-1 : Int32).toInt ∧ (-1 : Int32).toInt ≤ m; rw [show (-1 : Int32).toInt = -1 from rfl]; omega
  | n + 1, h, hm => by
    have ih := mxF_le (f := f) n (fun i hi => h i (by omega)) hm
    obtain ⟨d, hd, e⟩ := h n (by omega)
    show -1 ≤ (imax (mxF f n) (f n)).toInt ∧ (imax (mxF f n) (f n)).toInt ≤ m
    unfold imax
    split
    · rw [e, nI_toInt (by omega)]; omega
    · exact ih
/-- all that is SEEN is so -/
theorem seenS_iff {X : VV} {L : LND} {n : Nat} {sh sd : Nat → Int32} : ∀ z, seenS X L n sh sd z = true ↔ ∀ i, i < z → helS X L n (sd i).toNatClampNeg = sh i
  | 0 => ⟨fun _ i hi => absurd hi (Nat.not_lt_zero _), fun _ => rfl⟩
  | z + 1 => by
    rw [seenS, Bool.and_eq_true, seenS_iff z, decide_eq_true_eq]
    constructor
    · rintro ⟨h1, h2⟩ i hi
      by_cases e : i = z
      · rw [e]; exact h2
      · exact h1 i (by omega)
    · intro h
      exact ⟨fun i hi => h i (by omega), h z (by omega)⟩
theorem frT_CW {v u : VV} {b c n B j : Nat} {L : LND} (hb : isW b) (hc : isW c) (hbc : b ≠ c) (h : CW v c n B j L) (hnum : ∀ p, p < 6 → v (b + 2) p = nI p) (hf : frT v u b) (hx : xC u b n = xC v c n) (h6 : u b 6 = nI j) : CW u b n B j L := by
  obtain ⟨⟨c1, c2⟩, c3, ⟨c4, c5, c6⟩, c7, c8, c9⟩ := h
  have hr := isW_r hb
  have e0 : u (b + 1) 0 = xC v c n 0 0 := by rw [← hx]; rfl
  exact ⟨⟨by rw [e0]; exact c1, c2⟩, c3, ⟨c4, h6, repC_cong (fun i _ _ => hf i (by omega)) c6⟩, (fun p hp => by rw [hf (b + 2) (by omega)]; exact hnum p hp), by rw [hx]; exact c8, c9⟩
theorem stA_x {v v8 v16 v24 v32 v47 v55 v63 : VV} {b c j n : Nat} (hb : isW b) (hc : isW c) (hbc : b ≠ c) (hj7 : j < 7) (hn : n ≤ 6) (hst : stW v c j) (e8 : v8 = blP v (b + 1) (c + 1)) (e16 : v16 = up2 v8 b 1 (v c 1)) (e24 : v24 = up2 v16 b 2 (v c 2)) (e32 : v32 = up2 v24 b 3 (v c 3)) (e47 : v47 = upc v32 (b + 8) (va_cpy (v32 (c + 8)) (v32 (b + 8)) 0 0 6)) (e55 : v55 = up2 v47 b 5 (v c 5)) (e63 : v63 = stlS v55 b j) : xC v63 b n = xC v c n ∧ v63 b 6 = nI j ∧ frT v v63 b ∧ stW v63 b j := by
  have hd := isW_bc hb hc hbc
  have hr := isW_r hb
  have hrc := isW_r hc
  obtain ⟨s1, s2, s3⟩ := hst
  have q8 : ∀ i, i ≠ b + 1 → i ≠ b + 3 → i ≠ b + 4 → i ≠ b + 5 → i ≠ b + 6 → i ≠ b + 7 → v8 i = v i := by
    intro i h1 h2 h3 h4 h5 h6
    funext k
    rw [e8]
    unfold blP
    rw [if_neg h1, if_neg h2, if_neg h3, if_neg h4, if_neg h5, if_neg h6]
  have q32 : ∀ i, i ≠ b → v32 i = v8 i := fun i h => by rw [e32, up2_ne h, e24, up2_ne h, e16, up2_ne h]
  have q55 : ∀ i, i ≠ b → i ≠ b + 8 → v55 i = v8 i := fun i h h2 => by rw [e55, up2_ne h, e47, upc_ne h2, q32 i h]
  have q63 : ∀ i, i ≠ b → i ≠ b + 8 → v63 i = v8 i := fun i h h2 => by rw [e63, stlS, up2_ne h, up2_ne h, up2_ne h, up2_ne h, q55 i h h2]
  have l55 : v55 (2 + 7 * j) = v (2 + 7 * j) := by rw [q55 _ (by omega) (by omega), q8 _ (by omega) (by omega) (by omega) (by omega) (by omega) (by omega)]
  have rb : ∀ k, v63 b k = if k = 9 then v c 9 else if k = 8 then v c 8 else if k = 7 then v c 7 else if k = 6 then nI j else if k = 5 then v c 5 else if k = 3 then v c 3 else if k = 2 then v c 2 else if k = 1 then v c 1 else v b k := by
    intro k
    rw [e63, stlS, l55, ← s1, ← s2, ← s3, e55, up2_at, up2_at, up2_at, up2_at, up2_at, e47, upc_ne (by omega), e32, up2_at, e24, up2_at, e16, up2_at, q8 b (by omega) (by omega) (by omega) (by omega) (by omega) (by omega)]
  have r8 : ∀ k, k < 6 → v63 (b + 8) k = v (c + 8) k := by
    intro k hk
    rw [e63, stlS, up2_ne (by omega), up2_ne (by omega), up2_ne (by omega), up2_ne (by omega), e55, up2_ne (by omega), e47, upc_at]
    show (if 0 ≤ k ∧ k < 0 + 6 then v32 (c + 8) (0 + (k - 0)) else v32 (b + 8) k) = _
    rw [if_pos ⟨Nat.zero_le _, by omega⟩, q32 _ (by omega), q8 _ (by omega) (by omega) (by omega) (by omega) (by omega) (by omega)]
    simp
  have p1 : ∀ k, v63 (b + 1) k = if k = 0 then v (c + 1) 0 else if k = 7 then v (c + 1) 7 else v (b + 1) k := by
    intro k
    rw [q63 _ (by omega) (by omega), e8]
    unfold blP
    rw [if_pos rfl]
  have pr : ∀ i k, 3 ≤ i → i ≤ 6 → k < 6 → v63 (b + i) k = v (c + i) k := by
    intro i k h1 h2 hk
    rw [q63 _ (by omega) (by omega), e8]
    unfold blP
    rw [if_neg (by omega)]
    rcases (show i = 3 ∨ i = 4 ∨ i = 5 ∨ i = 6 by omega) with rfl | rfl | rfl | rfl
    · rw [if_pos (by omega), if_pos hk]
    · rw [if_neg (by omega), if_pos (by omega), if_pos hk]
    · rw [if_neg (by omega), if_neg (by omega), if_pos (by omega), if_pos hk]
    · rw [if_neg (by omega), if_neg (by omega), if_neg (by omega), if_pos (by omega), if_pos hk]
  have p7 : ∀ k, k < 24 → v63 (b + 7) k = v (c + 7) k := by
    intro k hk
    rw [q63 _ (by omega) (by omega), e8]
    unfold blP
    rw [if_neg (by omega), if_neg (by omega), if_neg (by omega), if_neg (by omega), if_neg (by omega), if_pos (by omega), if_pos hk]
  refine ⟨?_, by rw [rb 6]; rfl, ?_, ?_⟩
  · funext i k
    match i with
    | 0 => match k with
      | 0 => exact p1 0
      | 1 => exact rb 1
      | 2 => exact rb 2
      | 3 => exact rb 3
      | 4 => exact rb 5
      | 5 => exact rb 7
      | 6 => exact rb 8
      | 7 => exact rb 9
      | k + 8 => rfl
    | 1 => show (if k < n then _ else _) = (if k < n then _ else _); split; exact pr 3 k (by omega) (by omega) (by omega); rfl
    | 2 => show (if k < 6 then _ else _) = (if k < 6 then _ else _); split; exact pr 4 k (by omega) (by omega) (by omega); rfl
    | 3 => show (if k < 6 then _ else _) = (if k < 6 then _ else _); split; exact pr 5 k (by omega) (by omega) (by omega); rfl
    | 4 => show (if k < 6 then _ else _) = (if k < 6 then _ else _); split; exact pr 6 k (by omega) (by omega) (by omega); rfl
    | 5 => show (if k < 6 then dB (v63 (b + 1) 7) k else _) = (if k < 6 then dB (v (c + 1) 7) k else _); rw [p1 7]; rfl
    | 6 => show (if k < 24 then _ else _) = (if k < 24 then _ else _); split; exact p7 k (by omega); rfl
    | 7 => show (if k < 6 then _ else _) = (if k < 6 then _ else _); split; exact r8 k (by omega); rfl
    | i + 8 => rfl
  · intro i hi
    rw [q63 _ (by omega) (by omega), q8 _ (by omega) (by omega) (by omega) (by omega) (by omega) (by omega)]
  · have e : v63 (2 + 7 * j) = v (2 + 7 * j) := by rw [q63 _ (by omega) (by omega), q8 _ (by omega) (by omega) (by omega) (by omega) (by omega) (by omega)]
    exact ⟨by rw [rb 7, e, ← s1]; rfl, by rw [rb 8, e, ← s2]; rfl, by rw [rb 9, e, ← s3]; rfl⟩
theorem PQ_cong {v u : VV} {d q : Nat} {f g : Nat → Int32} (h : ∀ i, d ≤ i → i ≤ d + 2 → u i = v i) (hp : PQ v d q f g) : PQ u d q f g := ⟨by rw [h d (by omega) (by omega)]; exact hp.1, fun i hi => by rw [h (d + 1) (by omega) (by omega), h (d + 2) (by omega) (by omega)]; exact hp.2 i hi⟩
theorem cpk_s {va v37 v49 v : VV} {b c i : Nat} (e1 : v37 = up2 va (b + 1) i (v (c + 1) i)) (e2 : v49 = up2 v37 (b + 2) i (v (c + 2) i)) (h : ∀ k, k < i → va (b + 1) k = v (c + 1) k ∧ va (b + 2) k = v (c + 2) k) : ∀ k, k < i + 1 → v49 (b + 1) k = v (c + 1) k ∧ v49 (b + 2) k = v (c + 2) k := by
  intro k hk
  rw [e2, up2_ne (j := b + 1) (by omega), e1, up2_at, up2_at, up2_ne (j := b + 2) (by omega)]
  by_cases e : k = i
  · rw [if_pos e, if_pos e, e]; exact ⟨rfl, rfl⟩
  · rw [if_neg e, if_neg e]; exact h k (by omega)
theorem blP_ne {v : VV} {b c i : Nat} (hi : i < b + 1 ∨ b + 7 < i) : blP v (b + 1) (c + 1) i = v i := by
  funext k
  unfold blP
  rw [if_neg (by omega), if_neg (by omega), if_neg (by omega), if_neg (by omega), if_neg (by omega), if_neg (by omega)]
theorem bA_x {v v2 v13 v24 v35 : VV} {w : WV} {b c n j zs zw zb : Nat} (hb : 51 ≤ b) (hc : 51 ≤ c) (_hc2 : c ≤ 89) (_hb2 : b ≤ 89) (hd : b + 19 ≤ c ∨ c + 19 ≤ b) (hj : j < 7) (hx : xC v2 b n = xC v c n) (hl : v2 b 6 = nI j) (hft : frT v v2 b) (hsw : stW v2 b j) (h1 : PQ v13 (b + 10) zs (v2 (c + 10 + 1)) (v2 (c + 10 + 2))) (f1 : frQ v2 v13 (b + 10)) (h2 : PQ v24 (b + 13) zw (v13 (c + 13 + 1)) (v13 (c + 13 + 2))) (f2 : frQ v13 v24 (b + 13)) (h3 : PQ v35 (b + 16) zb (v24 (c + 16 + 1)) (v24 (c + 16 + 2))) (f3 : frQ v24 v35 (b + 16)) : (xC v35 b n = xC v c n ∧ v35 b 6 = nI j ∧ stW v35 b j) ∧ (v35, w) = (v35, w) ∧ PQ v35 (b + 10) zs (v (c + 11)) (v (c + 12)) ∧ PQ v35 (b + 13) zw (v (c + 14)) (v (c + 15)) ∧ PQ v35 (b + 16) zb (v (c + 17)) (v (c + 18)) ∧ ∀ i, (i < b ∨ i = b + 2 ∨ b + 18 < i) → v35 i = v i := by
  have q : ∀ i, (i < b + 10 ∨ b + 18 < i) → v35 i = v2 i := fun i hi => by rw [f3 i (by omega) (by omega) (by omega), f2 i (by omega) (by omega) (by omega), f1 i (by omega) (by omega) (by omega)]
  rw [hft (c + 10 + 1) (by omega), hft (c + 10 + 2) (by omega)] at h1
  rw [f1 (c + 13 + 1) (by omega) (by omega) (by omega), f1 (c + 13 + 2) (by omega) (by omega) (by omega), hft (c + 13 + 1) (by omega), hft (c + 13 + 2) (by omega)] at h2
  rw [f2 (c + 16 + 1) (by omega) (by omega) (by omega), f2 (c + 16 + 2) (by omega) (by omega) (by omega), f1 (c + 16 + 1) (by omega) (by omega) (by omega), f1 (c + 16 + 2) (by omega) (by omega) (by omega), hft (c + 16 + 1) (by omega), hft (c + 16 + 2) (by omega)] at h3
  refine ⟨⟨?_, by rw [q b (by omega)]; exact hl, ?_⟩, rfl, ?_, ?_, h3, fun i hi => by rw [q i (by omega)]; exact hft i (by omega)⟩
  · rw [xC_cong (v' := v35) (v := v2) (fun k _ => by rw [q b (by omega)]) (fun i _ _ _ => q i (by omega))]; exact hx
  · obtain ⟨s1, s2, s3⟩ := hsw
    exact ⟨by rw [q b (by omega), q (2 + 7 * j) (by omega)]; exact s1, by rw [q b (by omega), q (2 + 7 * j) (by omega)]; exact s2, by rw [q b (by omega), q (2 + 7 * j) (by omega)]; exact s3⟩
  · exact PQ_cong (fun i _ _ => by rw [f3 i (by omega) (by omega) (by omega), f2 i (by omega) (by omega) (by omega)]) h1
  · exact PQ_cong (fun i _ _ => f3 i (by omega) (by omega) (by omega)) h2
set_option maxRecDepth 100000 in
set_option maxHeartbeats 1000000 in
theorem c_X6_goDays (gl : Launch) (Z : PL) (v : VV) (w : WV) (x0 : Int32) (k : Nat) (hk : x0 = nI k) (b : Nat) (hW : isW b) (n : Nat) (B : Nat) (j : Nat) (L : LND) (hcw : CW v b n B j L) (hBk : B + k < 1000000) : CT gl yX6_goDays cX6_goDays 3 none 4 102 Z [.ref (zg Z b), .int x0] v w (Qv Z (fun u => xC u.1 b n = daysS (xC v b n) L n k ∧ (u.1, w) = u ∧ frD v u.1 b j)) := by
  refine g_met (by decide) (Nat.le_of_ble_eq_true rfl) ?_
  intro gp ge gs gm ga gb gh gc X h ls hl
  have hx := X.1
  have hb := X.2.1
  have hl : lv_has ls 3 [(0, .ref (zg Z b)), (1, .int x0)] := hl
  obtain ⟨⟨hn, h6⟩, hwf, ⟨hj7, hland, hrep⟩, hnum, hrx, hB⟩ := id hcw
  have hbr := isW_r hW
  have hL : isL (2 + 7 * j) := isLj hj7
  have hE : isE (b + 1) := isWE hW
  have hland2 : (v b 6).toNatClampNeg = j := by rw [hland]; exact nI_clamp (by omega)
  refine lv_iconst (v := 0) hx hb dX6_goDays_0 (by decide) ?_
  refine lv_istore_n (lv' := [(2, .int 0), (0, .ref (zg Z b)), (1, .int x0)]) hx hb dX6_goDays_1 rfl hl (by decide) rfl (fun ls hl => ?_)
  have L2 : ∀ (n2 : Nat) (i : Nat) (x2 : Int32) (va : VV), (x2 = nI i) → (i ≤ k) → (xC va b n = daysS (xC v b n) L n i) → (frD v va b j) → k - i < n2 → ∀ (H : Heap) (locs : List Loc), HS Z gs va w H locs → ∀ ls : Array Slot, lv_has ls 3 [(0, .ref (zg Z b)), (1, .int x0), (2, .int x2)] → W gp gl ge (rmm 4 102) gs gm ga gb gh gc H locs 0 0 (MQ gb (Qv Z (fun u => xC u.1 b n = daysS (xC v b n) L n k ∧ (u.1, w) = u ∧ frD v u.1 b j)) ga gs 0 0 (zA Z)) (F0 gm 2 ls []) := by
    intro n2
    induction n2 with
    | zero => intro i x2 va hx2 hi hxa hfa hmu; exact absurd hmu (Nat.not_lt_zero _)
    | succ n2 ih2 =>
      intro i x2 va hx2 hi hxa hfa hmu2 H locs h ls hl
      refine lv_iload_n hx hb dX6_goDays_2 rfl (lv_at hl 2 rfl) ?_
      refine lv_iload_n hx hb dX6_goDays_3 rfl (lv_at hl 1 rfl) ?_
      refine lv_icmp_ge (tgt := 24) hx hb dX6_goDays_4 (by decide) (fun c_4 => ?_) (fun c_4 => ?_)
      · skip
        have hik := nI_le1 (a := k) (b := i) hk hx2 (by omega) (by omega) c_4
        exact g_vret X h dX6_goDays_24 ⟨by rw [show k = i by omega]; exact hxa, rfl, hfa⟩
      · skip
        have hik := nI_le0 (a := k) (b := i) hk hx2 (by omega) (by omega) c_4
        have hca := CW_day hbr.1 hcw hfa hxa (by omega)
        refine lv_aload_n hx hb dX6_goDays_7 rfl (lv_at hl 0 rfl) ?_
        refine g_ki h (g_runV X h (As := []) (rest := []) (c_X6_isGone gl Z va w b hW n (B + i) (CW.ch hca).2.2.2.1) mi_X6_isGone ml_RX6_109 (cW_0 hW) (by decide) kl6 rfl ⟨Nat.le_of_ble_eq_true rfl, Nat.le_of_ble_eq_true rfl⟩ rfl hl.1 rfl (Nat.le_of_ble_eq_true rfl) dX6_goDays_8) (fun r8 v8 w8 H locs hp8 h => ?_)
        obtain ⟨hr8, hu8⟩ := hp8; obtain ⟨rfl, rfl⟩ := Prod.mk.inj hu8
        refine lv_if_ne (tgt := 24) hx hb dX6_goDays_11 (by decide) (fun c_11 => ?_) (fun c_11 => ?_)
        · skip
          rw [hr8, bI_n] at c_11
          exact g_vret X h dX6_goDays_24 ⟨by rw [hxa] at c_11; rw [days_end (i := i) (by omega) (of_decide_eq_true c_11)]; exact hxa, rfl, hfa⟩
        · skip
          rw [hr8, bI_0] at c_11
          refine lv_aload_n hx hb dX6_goDays_14 rfl (lv_at hl 0 rfl) ?_
          refine g_kv h (g_runV X h (As := []) (rest := []) (c_X6_goDay gl Z va w b hW n (B + i) j L hca) mi_X6_goDay ml_RX6_144 (cW_0 hW) (by decide) kl6 rfl ⟨Nat.le_of_ble_eq_true rfl, Nat.le_of_ble_eq_true rfl⟩ rfl hl.1 rfl (Nat.le_of_ble_eq_true rfl) dX6_goDays_15) (fun v15 w15 H locs hp15 h => ?_)
          obtain ⟨hx15, hw15, hfd15⟩ := hp15
          obtain ⟨-, rfl⟩ := Prod.mk.inj hw15
          replace hx15 : xC v15 _ _ = _ := hx15
          replace hfd15 : frD _ v15 _ _ := hfd15
          refine lv_iinc (v := (x2 + 1)) (lv' := [(2, .int (x2 + 1)), (0, .ref (zg Z b)), (1, .int x0)]) hx hb dX6_goDays_18 hl (k := 2) rfl rfl (by decide) rfl (fun ls hl => ?_)
          refine lv_goto (tgt := 2) hx hb dX6_goDays_21 (by decide) ?_
          exact ih2 (i + 1) (x2 + 1) v15 (by rw [hx2]; exact nI_1 _) (by omega) (by rw [hx15, hxa]; rfl) (frD_trans hfa hfd15) (by omega) _ _ h ls (lv_sub hl [1, 2, 0] rfl)
  exact L2 (k - 0 + 1) 0 0 v rfl (Nat.zero_le _) rfl (frD_refl _ _ _) (Nat.lt_succ_self _) _ _ h ls (lv_sub hl [1, 2, 0] rfl)

set_option maxRecDepth 100000 in
set_option maxHeartbeats 1000000 in
theorem c_X6_suffer (gl : Launch) (Z : PL) (v : VV) (w : WV) (x0 : Int32) (x1 : Int32) (b : Nat) (hW : isW b) (n : Nat) (B : Nat) (j : Nat) (L : LND) (hcw : CW v b n B j L) (hwp : x0 = 1 → ∃ p, p < n ∧ x1 = nI p) : CT gl yX6_suffer cX6_suffer 3 none 4 102 Z [.ref (zg Z b), .int x0, .int x1] v w (Qv Z (fun u => xC u.1 b n = sufS (xC v b n) L n x0 x1 ∧ (u.1, w) = u ∧ frS v u.1 b j)) := by
  refine g_met (by decide) (Nat.le_of_ble_eq_true rfl) ?_
  intro gp ge gs gm ga gb gh gc X h ls hl
  have hx := X.1
  have hb := X.2.1
  have hl : lv_has ls 3 [(0, .ref (zg Z b)), (1, .int x0), (2, .int x1)] := hl
  obtain ⟨⟨hn, h6⟩, hwf, ⟨hj7, hland, hrep⟩, hnum, hrx, hB⟩ := id hcw
  have hbr := isW_r hW
  have hL : isL (2 + 7 * j) := isLj hj7
  have hE : isE (b + 1) := isWE hW
  have hland2 : (v b 6).toNatClampNeg = j := by rw [hland]; exact nI_clamp (by omega)
  refine lv_iload_n hx hb dX6_suffer_0 rfl (lv_at hl 1 rfl) ?_
  by_cases t1_0 : x0 = 0
  · refine lv_tableIn (off := 27) (tgt := 28) hx hb dX6_suffer_1 (by rw [t1_0]; decide) (by rw [t1_0]; decide) (by rw [t1_0]; rfl) (by decide) ?_
    refine lv_aload_n hx hb dX6_suffer_28 rfl (lv_at hl 0 rfl) ?_
    refine g_kv h (g_runV X h (As := []) (rest := []) (c_X6_goDay gl Z v w b hW n B j L hcw) mi_X6_goDay ml_RX6_144 (cW_0 hW) (by decide) kl6 rfl ⟨Nat.le_of_ble_eq_true rfl, Nat.le_of_ble_eq_true rfl⟩ rfl hl.1 rfl (Nat.le_of_ble_eq_true rfl) dX6_suffer_29) (fun v29 w29 H locs hp29 h => ?_)
    obtain ⟨hx29, hw29, hfd29⟩ := hp29
    obtain ⟨-, rfl⟩ := Prod.mk.inj hw29
    replace hx29 : xC v29 _ _ = _ := hx29
    replace hfd29 : frD _ v29 _ _ := hfd29
    refine lv_goto (tgt := 70) hx hb dX6_suffer_32 (by decide) ?_
    exact g_vret X h dX6_suffer_70 ⟨by show xC v29 b n = _; rw [hx29, sufS, if_pos t1_0], rfl, frD_S hbr.1 hj7 hfd29⟩
  · skip
    by_cases t1_1 : x0 = 1
    · refine lv_tableIn (off := 34) (tgt := 35) hx hb dX6_suffer_1 (by rw [t1_1]; decide) (by rw [t1_1]; decide) (by rw [t1_1]; rfl) (by decide) ?_
      obtain ⟨pp, hpn, hpp⟩ := hwp t1_1
      refine lv_aload_n hx hb dX6_suffer_35 rfl (lv_at hl 0 rfl) ?_
      refine g_getr X h (k := 0) (t := (b + 1)) (cW_0 hW) fr_RX6_12 rfl (by decide) (by decide) (by decide) dX6_suffer_36 ?_
      refine lv_iload_n hx hb dX6_suffer_39 rfl (lv_at hl 2 rfl) ?_
      refine lv_iconst (v := 1) hx hb dX6_suffer_40 (by decide) ?_
      refine g_kv h (g_runV X h (As := [.int x1, .int 1]) (rest := []) (c_X3_setDead gl Z v w x1 pp hpp 1 (by omega) (b + 1) hE) mi_X3_setDead ml_RX6_158 (cW_1 hW) (by decide) kl3 rfl ⟨Nat.le_of_ble_eq_true rfl, Nat.le_of_ble_eq_true rfl⟩ rfl hl.1 rfl (Nat.le_of_ble_eq_true rfl) dX6_suffer_41) (fun v41 w41 H locs hp41 h => ?_)
      obtain ⟨hv41, rfl⟩ := Prod.mk.inj hp41
      replace hv41 := hv41.symm
      refine lv_goto (tgt := 70) hx hb dX6_suffer_44 (by decide) ?_
      exact g_vret X h dX6_suffer_70 ⟨by show xC v41 b n = _; rw [show v41 = up2 v (b + 1) 7 (sdB (v (b + 1) 7) pp 1) from hv41, xC_up_dead (by omega), sufS, if_neg t1_0, if_pos t1_1, hpp, nI_clamp (by omega), if_neg (by decide)], rfl, by rw [show v41 = up2 v (b + 1) 7 (sdB (v (b + 1) 7) pp 1) from hv41]; exact frS_dead⟩
    · skip
      by_cases t1_2 : x0 = 2
      · refine lv_tableIn (off := 46) (tgt := 47) hx hb dX6_suffer_1 (by rw [t1_2]; decide) (by rw [t1_2]; decide) (by rw [t1_2]; rfl) (by decide) ?_
        refine lv_aload_n hx hb dX6_suffer_47 rfl (lv_at hl 0 rfl) ?_
        refine lv_iconst (v := 0) hx hb dX6_suffer_48 (by decide) ?_
        refine lv_aload_n hx hb dX6_suffer_49 rfl (lv_at hl 0 rfl) ?_
        refine g_geti X h (k := 1) (cW_0 hW) fr_RX6_18 rfl (by decide) dX6_suffer_50 ?_
        refine lv_bipush (v := 10) hx hb dX6_suffer_53 (by decide) ?_
        refine lv_isub hx hb dX6_suffer_55 ?_
        refine g_max X hl.1 ml_RX6_126 ⟨Nat.le_of_ble_eq_true rfl, Nat.le_of_ble_eq_true rfl⟩ (Nat.le_of_ble_eq_true rfl) dX6_suffer_56 ?_
        refine g_puti X h (k := 1) (cW_0 hW) fp_RX6_18 rfl (by decide) dX6_suffer_59 (fun v59 H locs ev59 h => ?_)
        refine lv_goto (tgt := 70) hx hb dX6_suffer_62 (by decide) ?_
        exact g_vret X h dX6_suffer_70 ⟨by show xC v59 b n = _; rw [ev59, xC_up_he, sufS, if_neg t1_0, if_neg t1_1, if_pos t1_2]; rfl, rfl, by rw [ev59]; exact frS_num (by omega)⟩
      · skip
        have q0 := lv_neT t1_0 (a := 0) (by decide)
        have q1 := lv_neT t1_1 (a := 1) (by decide)
        have q2 := lv_neT t1_2 (a := 2) (by decide)
        refine lv_tableOut (tgt := 65) hx hb dX6_suffer_1 (by omega) (by decide) ?_
        refine lv_aload_n hx hb dX6_suffer_65 rfl (lv_at hl 0 rfl) ?_
        refine lv_iconst (v := 0) hx hb dX6_suffer_66 (by decide) ?_
        refine g_puti X h (k := 2) (cW_0 hW) fp_RX6_72 rfl (by decide) dX6_suffer_67 (fun v67 H locs ev67 h => ?_)
        exact g_vret X h dX6_suffer_70 ⟨by show xC v67 b n = _; rw [ev67, xC_up_sm, sufS, if_neg t1_0, if_neg t1_1, if_neg t1_2], rfl, by rw [ev67]; exact frS_num (by omega)⟩

set_option maxRecDepth 100000 in
set_option maxHeartbeats 1000000 in
theorem c_X2_mostSecond (gl : Launch) (Z : PL) (v : VV) (w : WV) (b : Nat) (cap : Nat) (hQ : isQ b cap) (q : Nat) (hq : v b 2 = nI q) (hqc : q ≤ cap) (hc9 : cap ≤ 20) : CT gl yX2_mostSecond cX2_mostSecond 3 (some .int) 1 21 Z [.ref (zg Z b)] v w (Qi Z (fun r u => r = mxF (v (b + 2)) q ∧ (v, w) = u)) := by
  refine g_met (by decide) (Nat.le_of_ble_eq_true rfl) ?_
  intro gp ge gs gm ga gb gh gc X h ls hl
  have hx := X.1
  have hb := X.2.1
  have hl : lv_has ls 3 [(0, .ref (zg Z b))] := hl
  refine lv_iconst (v := (-1)) hx hb dX2_mostSecond_0 (by decide) ?_
  refine lv_istore_n (lv' := [(1, .int (-1)), (0, .ref (zg Z b))]) hx hb dX2_mostSecond_1 rfl hl (by decide) rfl (fun ls hl => ?_)
  refine lv_iconst (v := 0) hx hb dX2_mostSecond_2 (by decide) ?_
  refine lv_istore_n (lv' := [(2, .int 0), (1, .int (-1)), (0, .ref (zg Z b))]) hx hb dX2_mostSecond_3 rfl hl (by decide) rfl (fun ls hl => ?_)
  have L4 : ∀ (n4 : Nat) (i : Nat) (x1 x2 : Int32), (x2 = nI i) → (i ≤ q) → (x1 = mxF (v (b + 2)) i) → q - i < n4 → ∀ (H : Heap) (locs : List Loc), HS Z gs v w H locs → ∀ ls : Array Slot, lv_has ls 3 [(0, .ref (zg Z b)), (1, .int x1), (2, .int x2)] → W gp gl ge (rmm 1 21) gs gm ga gb gh gc H locs 0 0 (MQ gb (Qi Z (fun r u => r = mxF (v (b + 2)) q ∧ (v, w) = u)) ga gs 0 0 (zA Z)) (F0 gm 4 ls []) := by
    intro n4
    induction n4 with
    | zero => intro i x1 x2 hx2 hi hx1 hmu; exact absurd hmu (Nat.not_lt_zero _)
    | succ n4 ih4 =>
      intro i x1 x2 hx2 hi hx1 hmu4 H locs h ls hl
      refine lv_iload_n hx hb dX2_mostSecond_4 rfl (lv_at hl 2 rfl) ?_
      refine lv_aload_n hx hb dX2_mostSecond_5 rfl (lv_at hl 0 rfl) ?_
      refine g_geti X h (k := 2) (cQ_0 hQ) fr_RX2_24 rfl (by decide) dX2_mostSecond_6 ?_
      refine lv_icmp_ge (tgt := 29) hx hb dX2_mostSecond_9 (by decide) (fun c_9 => ?_) (fun c_9 => ?_)
      · skip
        have hin := nI_le1 (a := q) (b := i) hq hx2 (by omega) (by omega) c_9
        refine lv_iload_n hx hb dX2_mostSecond_29 rfl (lv_at hl 1 rfl) ?_
        exact g_iret X h dX2_mostSecond_30 ⟨(by rw [hx1, show i = q by omega]), rfl⟩
      · skip
        have hin := nI_le0 (a := q) (b := i) hq hx2 (by omega) (by omega) c_9
        refine lv_iload_n hx hb dX2_mostSecond_12 rfl (lv_at hl 1 rfl) ?_
        refine lv_aload_n hx hb dX2_mostSecond_13 rfl (lv_at hl 0 rfl) ?_
        refine g_getr X h (k := 1) (t := (b + 2)) (cQ_0 hQ) fr_RX2_21 rfl (by decide) (by decide) (by decide) dX2_mostSecond_14 ?_
        refine lv_iload_n hx hb dX2_mostSecond_17 rfl (lv_at hl 2 rfl) ?_
        refine g_iald X h (k := i) (cQ_2 hQ) hx2 (by omega) (by omega) dX2_mostSecond_18 ?_
        refine g_max X hl.1 ml_RX2_9 ⟨Nat.le_of_ble_eq_true rfl, Nat.le_of_ble_eq_true rfl⟩ (Nat.le_of_ble_eq_true rfl) dX2_mostSecond_19 ?_
        refine lv_topi (fun x1_22 ex1_22 => ?_)
        refine lv_istore_n (lv' := [(1, .int x1_22), (0, .ref (zg Z b)), (2, .int x2)]) hx hb dX2_mostSecond_22 rfl hl (by decide) rfl (fun ls hl => ?_)
        refine lv_iinc (v := (x2 + 1)) (lv' := [(2, .int (x2 + 1)), (1, .int x1_22), (0, .ref (zg Z b))]) hx hb dX2_mostSecond_23 hl (k := 2) rfl rfl (by decide) rfl (fun ls hl => ?_)
        refine lv_goto (tgt := 4) hx hb dX2_mostSecond_26 (by decide) ?_
        exact ih4 (i + 1) x1_22 (x2 + 1) (by rw [hx2]; exact nI_1 _) (by omega) (by rw [ex1_22, hx1]; rfl) (by omega) _ _ h ls (lv_sub hl [2, 1, 0] rfl)
  exact L4 (q - 0 + 1) 0 (-1) 0 rfl (Nat.zero_le _) rfl (Nat.lt_succ_self _) _ _ h ls (lv_sub hl [2, 1, 0] rfl)

set_option maxRecDepth 100000 in
set_option maxHeartbeats 1000000 in
theorem c_X2_becomeLike (gl : Launch) (Z : PL) (v : VV) (w : WV) (b : Nat) (cap : Nat) (hQ : isQ b cap) (q : Nat) (c : Nat) (hQ2 : isQ c cap) (hbc : b + 3 ≤ c ∨ c + 3 ≤ b) (hq : v c 2 = nI q) (hqc : q ≤ cap) (hc9 : cap ≤ 20) : CT gl yX2_becomeLike cX2_becomeLike 3 none 1 21 Z [.ref (zg Z b), .ref (zg Z c)] v w (Qv Z (fun u => PQ u.1 b q (v (c + 1)) (v (c + 2)) ∧ (u.1, w) = u ∧ frQ v u.1 b)) := by
  refine g_met (by decide) (Nat.le_of_ble_eq_true rfl) ?_
  intro gp ge gs gm ga gb gh gc X h ls hl
  have hx := X.1
  have hb := X.2.1
  have hl : lv_has ls 3 [(0, .ref (zg Z b)), (1, .ref (zg Z c))] := hl
  refine lv_aload_n hx hb dX2_becomeLike_0 rfl (lv_at hl 0 rfl) ?_
  refine lv_aload_n hx hb dX2_becomeLike_1 rfl (lv_at hl 1 rfl) ?_
  refine g_geti X h (k := 2) (cQ_0 hQ2) fr_RX2_24 rfl (by decide) dX2_becomeLike_2 ?_
  refine lv_aload_n hx hb dX2_becomeLike_5 rfl (lv_at hl 0 rfl) ?_
  refine g_getr X h (k := 0) (t := (b + 1)) (cQ_0 hQ) fr_RX2_15 rfl (by decide) (by decide) (by decide) dX2_becomeLike_6 ?_
  refine g_alen X h (cQ_1 hQ) (by decide) (by decide) dX2_becomeLike_9 ?_
  refine g_min X hl.1 ml_RX2_32 ⟨Nat.le_of_ble_eq_true rfl, Nat.le_of_ble_eq_true rfl⟩ (Nat.le_of_ble_eq_true rfl) dX2_becomeLike_10 ?_
  refine g_puti X h (k := 2) (cQ_0 hQ) fp_RX2_24 rfl (by decide) dX2_becomeLike_13 (fun v13 H locs ev13 h => ?_)
  have hv13 : v13 b 2 = nI q := by
    rw [ev13, up2_same, hq]
    show (if nI cap < nI q then _ else _) = _
    rw [if_neg (nI_nlt hqc (by omega))]
  refine lv_iconst (v := 0) hx hb dX2_becomeLike_16 (by decide) ?_
  refine lv_istore_n (lv' := [(2, .int 0), (0, .ref (zg Z b)), (1, .ref (zg Z c))]) hx hb dX2_becomeLike_17 rfl hl (by decide) rfl (fun ls hl => ?_)
  have L18 : ∀ (n18 : Nat) (i : Nat) (x2 : Int32) (va : VV), (x2 = nI i) → (i ≤ q) → (va b 2 = nI q) → (frQ v va b) → (∀ k, k < i → va (b + 1) k = v (c + 1) k ∧ va (b + 2) k = v (c + 2) k) → q - i < n18 → ∀ (H : Heap) (locs : List Loc), HS Z gs va w H locs → ∀ ls : Array Slot, lv_has ls 3 [(0, .ref (zg Z b)), (1, .ref (zg Z c)), (2, .int x2)] → W gp gl ge (rmm 1 21) gs gm ga gb gh gc H locs 0 0 (MQ gb (Qv Z (fun u => PQ u.1 b q (v (c + 1)) (v (c + 2)) ∧ (u.1, w) = u ∧ frQ v u.1 b)) ga gs 0 0 (zA Z)) (F0 gm 18 ls []) := by
    intro n18
    induction n18 with
    | zero => intro i x2 va hx2 hi hva hfa hcp hmu; exact absurd hmu (Nat.not_lt_zero _)
    | succ n18 ih18 =>
      intro i x2 va hx2 hi hva hfa hcp hmu18 H locs h ls hl
      refine lv_iload_n hx hb dX2_becomeLike_18 rfl (lv_at hl 2 rfl) ?_
      refine lv_aload_n hx hb dX2_becomeLike_19 rfl (lv_at hl 0 rfl) ?_
      refine g_geti X h (k := 2) (cQ_0 hQ) fr_RX2_24 rfl (by decide) dX2_becomeLike_20 ?_
      refine lv_icmp_ge (tgt := 56) hx hb dX2_becomeLike_23 (by decide) (fun c_23 => ?_) (fun c_23 => ?_)
      · skip
        have hin := nI_le1 (a := q) (b := i) hva hx2 (by omega) (by omega) c_23
        exact g_vret X h dX2_becomeLike_56 ⟨⟨hva, fun k hk => hcp k (by omega)⟩, rfl, hfa⟩
      · skip
        have hin := nI_le0 (a := q) (b := i) hva hx2 (by omega) (by omega) c_23
        refine lv_aload_n hx hb dX2_becomeLike_26 rfl (lv_at hl 0 rfl) ?_
        refine g_getr X h (k := 0) (t := (b + 1)) (cQ_0 hQ) fr_RX2_15 rfl (by decide) (by decide) (by decide) dX2_becomeLike_27 ?_
        refine lv_iload_n hx hb dX2_becomeLike_30 rfl (lv_at hl 2 rfl) ?_
        refine lv_aload_n hx hb dX2_becomeLike_31 rfl (lv_at hl 1 rfl) ?_
        refine g_getr X h (k := 0) (t := (c + 1)) (cQ_0 hQ2) fr_RX2_15 rfl (by decide) (by decide) (by decide) dX2_becomeLike_32 ?_
        refine lv_iload_n hx hb dX2_becomeLike_35 rfl (lv_at hl 2 rfl) ?_
        refine g_iald X h (k := i) (cQ_1 hQ2) hx2 (by omega) (by omega) dX2_becomeLike_36 ?_
        refine g_tr (y := (v (c + 1) i)) (by rw [hfa (c + 1) (by omega) (by omega) (by omega)]) ?_
        refine g_iast X h (k := i) (cQ_1 hQ) hx2 (by omega) (by omega) dX2_becomeLike_37 (fun v37 H locs ev37 h => ?_)
        refine lv_aload_n hx hb dX2_becomeLike_38 rfl (lv_at hl 0 rfl) ?_
        refine g_getr X h (k := 1) (t := (b + 2)) (cQ_0 hQ) fr_RX2_21 rfl (by decide) (by decide) (by decide) dX2_becomeLike_39 ?_
        refine lv_iload_n hx hb dX2_becomeLike_42 rfl (lv_at hl 2 rfl) ?_
        refine lv_aload_n hx hb dX2_becomeLike_43 rfl (lv_at hl 1 rfl) ?_
        refine g_getr X h (k := 1) (t := (c + 2)) (cQ_0 hQ2) fr_RX2_21 rfl (by decide) (by decide) (by decide) dX2_becomeLike_44 ?_
        refine lv_iload_n hx hb dX2_becomeLike_47 rfl (lv_at hl 2 rfl) ?_
        refine g_iald X h (k := i) (cQ_2 hQ2) hx2 (by omega) (by omega) dX2_becomeLike_48 ?_
        refine g_tr (y := (v (c + 2) i)) (by rw [ev37, up2_ne (by omega), hfa (c + 2) (by omega) (by omega) (by omega)]) ?_
        refine g_iast X h (k := i) (cQ_2 hQ) hx2 (by omega) (by omega) dX2_becomeLike_49 (fun v49 H locs ev49 h => ?_)
        refine lv_iinc (v := (x2 + 1)) (lv' := [(2, .int (x2 + 1)), (0, .ref (zg Z b)), (1, .ref (zg Z c))]) hx hb dX2_becomeLike_50 hl (k := 2) rfl rfl (by decide) rfl (fun ls hl => ?_)
        refine lv_goto (tgt := 18) hx hb dX2_becomeLike_53 (by decide) ?_
        exact ih18 (i + 1) (x2 + 1) v49 (by rw [hx2]; exact nI_1 _) (by omega) (by rw [ev49, up2_ne (by omega), ev37, up2_ne (by omega)]; exact hva) (fun k a e f => by rw [ev49, up2_ne f, ev37, up2_ne e]; exact hfa k a e f) (fun k hk => cpk_s ev37 ev49 hcp k hk) (by omega) _ _ h ls (lv_sub hl [1, 2, 0] rfl)
  exact L18 (q - 0 + 1) 0 0 v13 rfl (Nat.zero_le _) hv13 (fun k a _ _ => by rw [ev13, up2_ne a]) (fun k hk => absurd hk (Nat.not_lt_zero _)) (Nat.lt_succ_self _) _ _ h ls (lv_sub hl [1, 2, 0] rfl)

set_option maxRecDepth 100000 in
set_option maxHeartbeats 1000000 in
theorem c_X6_startAs (gl : Launch) (Z : PL) (v : VV) (w : WV) (b : Nat) (hW : isW b) (c : Nat) (hW2 : isW c) (hbc : b ≠ c) (n : Nat) (j : Nat) (h6 : n ≤ 6) (hj7 : j < 7) (hland : v c 6 = nI j) (hst : stW v c j) : CT gl yX6_startAs cX6_startAs 2 none 2 81 Z [.ref (zg Z b), .ref (zg Z c)] v w (Qv Z (fun u => xC u.1 b n = xC v c n ∧ (u.1, w) = u ∧ u.1 b 6 = nI j ∧ frT v u.1 b ∧ stW u.1 b j)) := by
  refine g_met (by decide) (Nat.le_of_ble_eq_true rfl) ?_
  intro gp ge gs gm ga gb gh gc X h ls hl
  have hx := X.1
  have hb := X.2.1
  have hl : lv_has ls 2 [(0, .ref (zg Z b)), (1, .ref (zg Z c))] := hl
  have hbr := isW_r hW
  have hrc := isW_r hW2
  have hbcd := isW_bc hW hW2 hbc
  have hlandc : (v c 6).toNatClampNeg = j := by rw [hland]; exact nI_clamp (by omega)
  refine lv_aload_n hx hb dX6_startAs_0 rfl (lv_at hl 0 rfl) ?_
  refine g_getr X h (k := 0) (t := (b + 1)) (cW_0 hW) fr_RX6_12 rfl (by decide) (by decide) (by decide) dX6_startAs_1 ?_
  refine lv_aload_n hx hb dX6_startAs_4 rfl (lv_at hl 1 rfl) ?_
  refine g_getr X h (k := 0) (t := (c + 1)) (cW_0 hW2) fr_RX6_12 rfl (by decide) (by decide) (by decide) dX6_startAs_5 ?_
  refine g_kv h (g_runV X h (As := [.ref (zg Z (c + 1))]) (rest := []) (c_X3_becomeLike gl Z v w (b + 1) (isWE hW) (c + 1) (isWE hW2) (by omega)) mi_X3_becomeLike ml_RX6_172 (cW_1 hW) (by decide) kl3 rfl ⟨Nat.le_of_ble_eq_true rfl, Nat.le_of_ble_eq_true rfl⟩ rfl hl.1 rfl (Nat.le_of_ble_eq_true rfl) dX6_startAs_8) (fun v8 w8 H locs hp8 h => ?_)
  obtain ⟨ev8, rfl⟩ := Prod.mk.inj hp8
  replace ev8 := ev8.symm
  have hbl8 : ∀ i, (i < b + 1 ∨ b + 7 < i) → v8 i = v i := fun i hi => by rw [ev8]; exact blP_ne hi
  refine lv_aload_n hx hb dX6_startAs_11 rfl (lv_at hl 0 rfl) ?_
  refine lv_aload_n hx hb dX6_startAs_12 rfl (lv_at hl 1 rfl) ?_
  refine g_geti X h (k := 1) (cW_0 hW2) fr_RX6_18 rfl (by decide) dX6_startAs_13 ?_
  refine g_tr (y := (v c 1)) (by rw [hbl8 c (by omega)]) ?_
  refine g_puti X h (k := 1) (cW_0 hW) fp_RX6_18 rfl (by decide) dX6_startAs_16 (fun v16 H locs ev16 h => ?_)
  refine lv_aload_n hx hb dX6_startAs_19 rfl (lv_at hl 0 rfl) ?_
  refine lv_aload_n hx hb dX6_startAs_20 rfl (lv_at hl 1 rfl) ?_
  refine g_geti X h (k := 2) (cW_0 hW2) fr_RX6_72 rfl (by decide) dX6_startAs_21 ?_
  refine g_tr (y := (v c 2)) (by rw [ev16, up2_ne (by omega), hbl8 c (by omega)]) ?_
  refine g_puti X h (k := 2) (cW_0 hW) fp_RX6_72 rfl (by decide) dX6_startAs_24 (fun v24 H locs ev24 h => ?_)
  refine lv_aload_n hx hb dX6_startAs_27 rfl (lv_at hl 0 rfl) ?_
  refine lv_aload_n hx hb dX6_startAs_28 rfl (lv_at hl 1 rfl) ?_
  refine g_geti X h (k := 3) (cW_0 hW2) fr_RX6_78 rfl (by decide) dX6_startAs_29 ?_
  refine g_tr (y := (v c 3)) (by rw [ev24, up2_ne (by omega), ev16, up2_ne (by omega), hbl8 c (by omega)]) ?_
  refine g_puti X h (k := 3) (cW_0 hW) fp_RX6_78 rfl (by decide) dX6_startAs_32 (fun v32 H locs ev32 h => ?_)
  refine lv_aload_n hx hb dX6_startAs_35 rfl (lv_at hl 1 rfl) ?_
  refine g_getr X h (k := 4) (t := (c + 8)) (cW_0 hW2) fr_RX6_22 rfl (by decide) (by decide) (by decide) dX6_startAs_36 ?_
  refine lv_iconst (v := 0) hx hb dX6_startAs_39 (by decide) ?_
  refine lv_aload_n hx hb dX6_startAs_40 rfl (lv_at hl 0 rfl) ?_
  refine g_getr X h (k := 4) (t := (b + 8)) (cW_0 hW) fr_RX6_22 rfl (by decide) (by decide) (by decide) dX6_startAs_41 ?_
  refine lv_iconst (v := 0) hx hb dX6_startAs_44 (by decide) ?_
  refine lv_bipush (v := 6) hx hb dX6_startAs_45 (by decide) ?_
  refine g_copyi X h hl.1 ml_RX6_176 (a := 0) (b := 0) (n := 6) (cW_8 hW2) (cW_8 hW) rfl rfl rfl (by omega) (by omega) (by omega) (by omega) ⟨Nat.le_of_ble_eq_true rfl, Nat.le_of_ble_eq_true rfl⟩ (Nat.le_of_ble_eq_true rfl) dX6_startAs_47 (fun v47 H locs ev47 h => ?_)
  refine lv_aload_n hx hb dX6_startAs_50 rfl (lv_at hl 0 rfl) ?_
  refine lv_aload_n hx hb dX6_startAs_51 rfl (lv_at hl 1 rfl) ?_
  refine g_geti X h (k := 5) (cW_0 hW2) fr_RX6_147 rfl (by decide) dX6_startAs_52 ?_
  refine g_tr (y := (v c 5)) (by rw [ev47, upc_ne (by omega), ev32, up2_ne (by omega), ev24, up2_ne (by omega), ev16, up2_ne (by omega), hbl8 c (by omega)]) ?_
  refine g_puti X h (k := 5) (cW_0 hW) fp_RX6_147 rfl (by decide) dX6_startAs_55 (fun v55 H locs ev55 h => ?_)
  refine lv_aload_n hx hb dX6_startAs_58 rfl (lv_at hl 0 rfl) ?_
  refine lv_aload_n hx hb dX6_startAs_59 rfl (lv_at hl 1 rfl) ?_
  refine g_getl X h (k := 6) (j := j) (cW_0 hW2) fr_RX6_48 rfl (by decide) (by rw [ev55, up2_ne (by omega), ev47, upc_ne (by omega), ev32, up2_ne (by omega), ev24, up2_ne (by omega), ev16, up2_ne (by omega), hbl8 c (by omega)]; exact hlandc) dX6_startAs_60 ?_
  refine g_kv h (g_runV X h (As := [.ref (zg Z (2 + 7 * j))]) (rest := []) (c_X6_settle gl Z v55 w b hW j hj7) mi_X6_settle ml_RX6_44 (cW_0 hW) (by decide) kl6 rfl ⟨Nat.le_of_ble_eq_true rfl, Nat.le_of_ble_eq_true rfl⟩ rfl hl.1 rfl (Nat.le_of_ble_eq_true rfl) dX6_startAs_63) (fun v63 w63 H locs hp63 h => ?_)
  obtain ⟨ev63, rfl⟩ := Prod.mk.inj hp63
  replace ev63 := ev63.symm
  exact g_vret X h dX6_startAs_66 (by obtain ⟨a1, a2, a3, a4⟩ := stA_x hW hW2 hbc hj7 h6 hst ev8 ev16 ev24 ev32 ev47 ev55 ev63; exact ⟨a1, rfl, a2, a3, a4⟩)

set_option maxRecDepth 100000 in
set_option maxHeartbeats 1000000 in
theorem c_X6_becomeAs (gl : Launch) (Z : PL) (v : VV) (w : WV) (b : Nat) (hW : isW b) (c : Nat) (hW2 : isW c) (hbc : b ≠ c) (n : Nat) (j : Nat) (h6 : n ≤ 6) (hj7 : j < 7) (hland : v c 6 = nI j) (hst : stW v c j) (zs : Nat) (zw : Nat) (zb : Nat) (hzs : v (c + 10) 2 = nI zs ∧ zs ≤ 5) (hzw : v (c + 13) 2 = nI zw ∧ zw ≤ 10) (hzb : v (c + 16) 2 = nI zb ∧ zb ≤ 8) : CT gl yX6_becomeAs cX6_becomeAs 2 none 3 102 Z [.ref (zg Z b), .ref (zg Z c)] v w (Qv Z (fun u => (xC u.1 b n = xC v c n ∧ u.1 b 6 = nI j ∧ stW u.1 b j) ∧ (u.1, w) = u ∧ PQ u.1 (b + 10) zs (v (c + 11)) (v (c + 12)) ∧ PQ u.1 (b + 13) zw (v (c + 14)) (v (c + 15)) ∧ PQ u.1 (b + 16) zb (v (c + 17)) (v (c + 18)) ∧ ∀ i, (i < b ∨ i = b + 2 ∨ b + 18 < i) → u.1 i = v i)) := by
  refine g_met (by decide) (Nat.le_of_ble_eq_true rfl) ?_
  intro gp ge gs gm ga gb gh gc X h ls hl
  have hx := X.1
  have hb := X.2.1
  have hl : lv_has ls 2 [(0, .ref (zg Z b)), (1, .ref (zg Z c))] := hl
  have hbr := isW_r hW
  have hrc := isW_r hW2
  have hbcd := isW_bc hW hW2 hbc
  refine lv_aload_n hx hb dX6_becomeAs_0 rfl (lv_at hl 0 rfl) ?_
  refine lv_aload_n hx hb dX6_becomeAs_1 rfl (lv_at hl 1 rfl) ?_
  refine g_kv h (g_runV X h (As := [.ref (zg Z c)]) (rest := []) (c_X6_startAs gl Z v w b hW c hW2 hbc n j h6 hj7 hland hst) mi_X6_startAs ml_RX6_182 (cW_0 hW) (by decide) kl6 rfl ⟨Nat.le_of_ble_eq_true rfl, Nat.le_of_ble_eq_true rfl⟩ rfl hl.1 rfl (Nat.le_of_ble_eq_true rfl) dX6_becomeAs_2) (fun v2 w2 H locs hp2 h => ?_)
  obtain ⟨hx2, hw2, hl62, hft2, hsw2⟩ := hp2
  obtain ⟨-, rfl⟩ := Prod.mk.inj hw2
  replace hx2 : xC v2 _ _ = _ := hx2
  replace hl62 : v2 _ 6 = _ := hl62
  replace hft2 : frT _ v2 _ := hft2
  replace hsw2 : stW v2 _ _ := hsw2
  refine lv_aload_n hx hb dX6_becomeAs_5 rfl (lv_at hl 0 rfl) ?_
  refine g_getr X h (k := 11) (t := (b + 10)) (cW_0 hW) fr_RX6_34 rfl (by decide) (by decide) (by decide) dX6_becomeAs_6 ?_
  refine lv_aload_n hx hb dX6_becomeAs_9 rfl (lv_at hl 1 rfl) ?_
  refine g_getr X h (k := 11) (t := (c + 10)) (cW_0 hW2) fr_RX6_34 rfl (by decide) (by decide) (by decide) dX6_becomeAs_10 ?_
  refine g_kv h (g_runV X h (As := [.ref (zg Z (c + 10))]) (rest := []) (c_X2_becomeLike gl Z v2 w (b + 10) 5 (isWQ10 hW) zs (c + 10) (isWQ10 hW2) (by omega) (by rw [hft2 (c + 10) (by omega)]; exact hzs.1) hzs.2 (by omega)) mi_X2_becomeLike ml_RX6_186 (cW_10 hW) (by decide) kl2 rfl ⟨Nat.le_of_ble_eq_true rfl, Nat.le_of_ble_eq_true rfl⟩ rfl hl.1 rfl (Nat.le_of_ble_eq_true rfl) dX6_becomeAs_13) (fun v13 w13 H locs hp13 h => ?_)
  obtain ⟨hx13, hw13, hfq13⟩ := hp13
  obtain ⟨-, rfl⟩ := Prod.mk.inj hw13
  replace hx13 : PQ v13 _ _ _ _ := hx13
  replace hfq13 : frQ _ v13 _ := hfq13
  refine lv_aload_n hx hb dX6_becomeAs_16 rfl (lv_at hl 0 rfl) ?_
  refine g_getr X h (k := 12) (t := (b + 13)) (cW_0 hW) fr_RX6_38 rfl (by decide) (by decide) (by decide) dX6_becomeAs_17 ?_
  refine lv_aload_n hx hb dX6_becomeAs_20 rfl (lv_at hl 1 rfl) ?_
  refine g_getr X h (k := 12) (t := (c + 13)) (cW_0 hW2) fr_RX6_38 rfl (by decide) (by decide) (by decide) dX6_becomeAs_21 ?_
  refine g_kv h (g_runV X h (As := [.ref (zg Z (c + 13))]) (rest := []) (c_X2_becomeLike gl Z v13 w (b + 13) 10 (isWQ13 hW) zw (c + 13) (isWQ13 hW2) (by omega) (by rw [hfq13 (c + 13) (by omega) (by omega) (by omega), hft2 (c + 13) (by omega)]; exact hzw.1) hzw.2 (by omega)) mi_X2_becomeLike ml_RX6_186 (cW_13 hW) (by decide) kl2 rfl ⟨Nat.le_of_ble_eq_true rfl, Nat.le_of_ble_eq_true rfl⟩ rfl hl.1 rfl (Nat.le_of_ble_eq_true rfl) dX6_becomeAs_24) (fun v24 w24 H locs hp24 h => ?_)
  obtain ⟨hx24, hw24, hfq24⟩ := hp24
  obtain ⟨-, rfl⟩ := Prod.mk.inj hw24
  replace hx24 : PQ v24 _ _ _ _ := hx24
  replace hfq24 : frQ _ v24 _ := hfq24
  refine lv_aload_n hx hb dX6_becomeAs_27 rfl (lv_at hl 0 rfl) ?_
  refine g_getr X h (k := 13) (t := (b + 16)) (cW_0 hW) fr_RX6_41 rfl (by decide) (by decide) (by decide) dX6_becomeAs_28 ?_
  refine lv_aload_n hx hb dX6_becomeAs_31 rfl (lv_at hl 1 rfl) ?_
  refine g_getr X h (k := 13) (t := (c + 16)) (cW_0 hW2) fr_RX6_41 rfl (by decide) (by decide) (by decide) dX6_becomeAs_32 ?_
  refine g_kv h (g_runV X h (As := [.ref (zg Z (c + 16))]) (rest := []) (c_X2_becomeLike gl Z v24 w (b + 16) 8 (isWQ16 hW) zb (c + 16) (isWQ16 hW2) (by omega) (by rw [hfq24 (c + 16) (by omega) (by omega) (by omega), hfq13 (c + 16) (by omega) (by omega) (by omega), hft2 (c + 16) (by omega)]; exact hzb.1) hzb.2 (by omega)) mi_X2_becomeLike ml_RX6_186 (cW_16 hW) (by decide) kl2 rfl ⟨Nat.le_of_ble_eq_true rfl, Nat.le_of_ble_eq_true rfl⟩ rfl hl.1 rfl (Nat.le_of_ble_eq_true rfl) dX6_becomeAs_35) (fun v35 w35 H locs hp35 h => ?_)
  obtain ⟨hx35, hw35, hfq35⟩ := hp35
  obtain ⟨-, rfl⟩ := Prod.mk.inj hw35
  replace hx35 : PQ v35 _ _ _ _ := hx35
  replace hfq35 : frQ _ v35 _ := hfq35
  exact g_vret X h dX6_becomeAs_38 (bA_x hbr.1 hrc.1 hrc.2 hbr.2 hbcd hj7 hx2 hl62 hft2 hsw2 hx13 hfq13 hx24 hfq24 hx35 hfq35)
