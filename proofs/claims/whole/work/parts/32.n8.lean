/-! the class: what is asked of now, tried in the trial -/
def scC (v u : VV) : Prop := ∀ i, i ≠ 60 → (i < 70 ∨ i = 72 ∨ 79 < i) → (∀ q, q < 7 → i ≠ 2 + 7 * q + 6) → u i = v i
theorem scC_refl (v : VV) : scC v v := fun _ _ _ _ => rfl
theorem scC_trans {a b c : VV} (h1 : scC a b) (h2 : scC b c) : scC a c := fun i x y z => (h2 i x y z).trans (h1 i x y z)
theorem scC_T {v u : VV} (h : frT v u 70) : scC v u := fun i _ b _ => h i (by omega)
theorem scC_D {v u : VV} {j : Nat} (hj : j < 7) (h : frD v u 70 j) : scC v u := fun i _ b c => h.1 i (by omega) (by omega) (by omega) (by omega) (c j hj)
theorem scC_S {v u : VV} {j : Nat} (hj : j < 7) (h : frS v u 70 j) : scC v u := fun i _ b c => h.1 i (by omega) (by omega) (by omega) (by omega) (by omega) (c j hj)
theorem scC_L0 {v u : VV} {j : Nat} (hj : j < 7) (h : frL v u 51 j) : scC v u := fun i a _ c => h i a (c j hj)
theorem scC_L1 {v u : VV} {j : Nat} (hj : j < 7) (h : frL v u 70 j) : scC v u := fun i _ b c => h i (by omega) (c j hj)
theorem scC_up {v u : VV} {i k : Nat} {x : Int32} (h : scC v u) (hi : 70 ≤ i ∧ i ≤ 79 ∧ i ≠ 72) : scC v (up2 u i k x) := fun q a b c => (up2_ne (by omega)).trans (h q a b c)
theorem sq_at {v u : VV} (h : scC v u) {i : Nat} (h1 : i ≠ 60) (h2 : i < 70 ∨ i = 72 ∨ 79 < i) (h3 : 50 < i) : u i = v i := h i h1 h2 (fun q hq => by omega)
theorem xC_sc {v u : VV} {n : Nat} (h : scC v u) : xC u 51 n = xC v 51 n := xC_cong (fun k _ => by rw [sq_at h (by omega) (by omega) (by omega)]) (fun i _ _ _ => sq_at h (by omega) (by omega) (by omega))
theorem stW_sc {v u : VV} {j : Nat} (hj : j < 7) (h : scC v u) (hs : stW v 51 j) : stW u 51 j := by
  obtain ⟨a, b, c⟩ := hs
  have e1 : u 51 = v 51 := sq_at h (by omega) (by omega) (by omega)
  have e2 : u (2 + 7 * j) = v (2 + 7 * j) := h _ (by omega) (by omega) (fun q hq => by omega)
  exact ⟨by rw [e1, e2]; exact a, by rw [e1, e2]; exact b, by rw [e1, e2]; exact c⟩
/-- now is well, and the trial can be begun -/
def CN (v : VV) (n B j : Nat) (L : LND) : Prop := CW v 51 n B j L ∧ stW v 51 j ∧ ∀ p, p < 6 → v 72 p = nI p
theorem CW_any {u w : VV} {b n B B' j : Nat} {L : LND} (hb : 51 ≤ b) (h : CW u b n B j L) (h1 : ∀ i, (i < b ∧ (∀ q, q < 7 → i ≠ 2 + 7 * q + 6)) ∨ i = b + 2 → w i = u i) (h2 : w b 6 = u b 6) (h3 : w (b + 1) 0 = u (b + 1) 0) (hr : RX n B' (xC w b n)) (hB : B' < 1000000) : CW w b n B' j L := by
  obtain ⟨⟨c1, c2⟩, c3, ⟨c4, c5, c6⟩, c7, c8, c9⟩ := h
  exact ⟨⟨by rw [h3]; exact c1, c2⟩, c3, ⟨c4, by rw [h2]; exact c5, repC_cong (fun i _ _ => h1 i (Or.inl ⟨by omega, fun q hq => by omega⟩)) c6⟩, (fun p hp => by rw [h1 _ (Or.inr rfl)]; exact c7 p hp), hr, hB⟩
theorem CN_sc {v u : VV} {n B j : Nat} {L : LND} (hs : scC v u) (h : CN v n B j L) : CN u n B j L := by
  obtain ⟨h1, h2, h3⟩ := h
  have hj := h1.2.2.1.1
  refine ⟨?_, stW_sc hj hs h2, fun p hp => by rw [sq_at hs (by omega) (by omega) (by omega)]; exact h3 p hp⟩
  obtain ⟨⟨c1, c2⟩, c3, ⟨c4, c5, c6⟩, c7, c8, c9⟩ := h1
  exact ⟨⟨by rw [sq_at hs (by omega) (by omega) (by omega)]; exact c1, c2⟩, c3, ⟨c4, by rw [sq_at hs (by omega) (by omega) (by omega)]; exact c5, repC_cong (fun i _ _ => hs i (by omega) (by omega) (fun q hq => by omega)) c6⟩, (fun p hp => by rw [sq_at hs (by omega) (by omega) (by omega)]; exact c7 p hp), by rw [xC_sc hs]; exact c8, c9⟩
theorem CN.f {v : VV} {n B j : Nat} {L : LND} (h : CN v n B j L) : v 52 0 = nI n ∧ n ≤ 6 ∧ j < 7 ∧ v 51 6 = nI j ∧ stW v 51 j ∧ RX n B (xC v 51 n) ∧ B < 1000000 := ⟨h.1.1.1, h.1.1.2, h.1.2.2.1.1, h.1.2.2.1.2.1, h.2.1, h.1.2.2.2.2.1, h.1.2.2.2.2.2⟩
/-- the trial, just begun -/
theorem TC_start {v va u : VV} {n B j : Nat} {L : LND} (hs : scC v va) (hcn : CN v n B j L) (hx : xC u 70 n = xC va 51 n) (hl : u 70 6 = nI j) (hft : frT va u 70) : scC v u ∧ CW u 70 n B j L ∧ xC u 70 n = xC v 51 n := by
  have h2 := CN_sc hs hcn
  exact ⟨scC_trans hs (scC_T hft), frT_CW isW1 isW0 (by decide) h2.1 h2.2.2 hft hx hl, hx.trans (xC_sc hs)⟩
theorem days_0 (X : VV) (L : LND) (n : Nat) : daysS X L n 0 = X := rfl
theorem up2_comm {v : VV} {a b c d : Nat} {x y : Int32} (h : a ≠ c ∨ b ≠ d) : up2 (up2 v a b x) c d y = up2 (up2 v c d y) a b x := by
  funext i k
  simp only [up2]
  grind
theorem days_n {X : VV} {L : LND} {n : Nat} : ∀ k, daysS X L n k 0 0 = X 0 0 ∧ daysS X L n k 0 4 = X 0 4
  | 0 => ⟨rfl, rfl⟩
  | k + 1 => by
    obtain ⟨a, b⟩ := days_n (X := X) (L := L) (n := n) k
    show dayS (daysS X L n k) L n 0 0 = _ ∧ dayS (daysS X L n k) L n 0 4 = _
    generalize daysS X L n k = Y at *
    have e : ∀ q, giveS Y 0 q = Y 0 q := by
      intro q
      unfold giveS
      split
      · dsimp only
        split
        · simp [up2]
        · rfl
      · rfl
    unfold dayS
    split
    · exact ⟨a, b⟩
    · simp only [up2]
      rw [fgS_ne n (Or.inl (by decide)), fgS_ne n (Or.inl (by decide)), e, e]
      simp [a, b]
def sOf (X : VV) (L : LND) (n : Nat) (x y : Int32) : Int32 :=
  if isP (nI n) x then (if y = 0 then X 1 x.toNatClampNeg else if y = 1 then X 2 x.toNatClampNeg else if y = 2 then X 3 x.toNatClampNeg else if y = 3 then X 4 x.toNatClampNeg else if y = 4 then X 5 x.toNatClampNeg else if y = 5 then welS X L x.toNatClampNeg else if y = 6 then bI (letS X L x.toNatClampNeg) else if y = 7 then prayS X L x.toNatClampNeg else if inR y 10 109 then tforS X x.toNatClampNeg (y - 10) else -10001) else -10001
theorem bits_nat {X : VV} {L : LND} {n : Nat} (h6 : n ≤ 6) : ∀ p, p < n → bt (bitsS X L n) p = letS X L p := fun p hp => by rw [bits_b n (by omega) p (by omega), decide_eq_true hp, Bool.true_and]
/-- the answer's case of on -/
theorem isP_sub {n : Nat} {x : Int32} {c : Nat} (hn : n ≤ 6) (hc : c ≤ 20) (h : isP (nI n) (x - nI c) = true) : ∃ k, x = nI (k + c) ∧ k < n ∧ (x - nI c).toNatClampNeg = k := by
  obtain ⟨k, e, hk, ek⟩ := isP_nat (by omega) h
  exact ⟨k, sub_back e, hk, ek⟩
theorem isP_lo {n : Nat} {x : Int32} {c : Nat} (hn : n ≤ 6) (hc : c ≤ 20) (h : x < nI c) : isP (nI n) (x - nI c) = false := by
  cases hq : isP (nI n) (x - nI c) with
  | false => rfl
  | true =>
    obtain ⟨k, e, hk, -⟩ := isP_sub hn hc hq
    have := nI_lt1 (a := k + c) (b := c) e rfl (by omega) (by omega) h
    omega
theorem worst_s {X : VV} {L : LND} {n i : Nat} {x3 x4 y3 y4 x5 h : Int32} (hi : 1 ≤ i) (hw : (x3, x4) = worstF X L n (i - 1)) (hh : h = daysS X L n (i - 1 + 1) 0 1) (h5 : x5 = nI i) (hc : (x3 ≤ h ∧ y3 = x3 ∧ y4 = x4) ∨ (¬ x3 ≤ h ∧ y3 = h ∧ y4 = x5)) : (y3, y4) = worstF X L n (i + 1 - 1) := by
  obtain ⟨i, rfl⟩ : ∃ q, i = q + 1 := ⟨i - 1, by omega⟩
  show _ = worstF X L n (i + 1)
  rw [worstF, ← show (x3, x4) = worstF X L n i from hw, helS, ← show h = daysS X L n (i + 1) 0 1 from hh]
  rcases hc with ⟨a, rfl, rfl⟩ | ⟨a, rfl, rfl⟩
  · rw [if_neg (Int32.not_lt.mpr a)]
  · rw [if_pos (Int32.not_le.mp a), h5]
set_option maxRecDepth 100000 in
set_option maxHeartbeats 1000000 in
theorem c_X7_isPerson (gl : Launch) (Z : PL) (v : VV) (w : WV) (x0 : Int32) (n : Nat) (hn : v 52 0 = nI n) (h6 : n ≤ 6) : CT gl yX7_isPerson cX7_isPerson 2 (some .boolean) 0 0 Z [.ref (zg Z 0), .int x0] v w (Qi Z (fun r u => r = bI (isP (nI n) x0) ∧ (v, w) = u)) := by
  refine g_met (by decide) (Nat.le_of_ble_eq_true rfl) ?_
  intro gp ge gs gm ga gb gh gc X h ls hl
  have hx := X.1
  have hb := X.2.1
  have hl : lv_has ls 2 [(0, .ref (zg Z 0)), (1, .int x0)] := hl
  refine lv_iload_n hx hb dX7_isPerson_0 rfl (lv_at hl 1 rfl) ?_
  refine lv_if_lt (tgt := 22) hx hb dX7_isPerson_1 (by decide) (fun c_1 => ?_) (fun c_1 => ?_)
  · skip
    refine lv_iconst (v := 0) hx hb dX7_isPerson_22 (by decide) ?_
    exact g_nret X h dX7_isPerson_23 rfl ⟨by rw [isP, decide_eq_false (Int32.not_le.mpr c_1)]; rfl, rfl⟩
  · skip
    refine lv_iload_n hx hb dX7_isPerson_4 rfl (lv_at hl 1 rfl) ?_
    refine lv_aload_n hx hb dX7_isPerson_5 rfl (lv_at hl 0 rfl) ?_
    refine g_getr X h (k := 1) (t := 51) (cc_0) fr_RX7_23 rfl (by decide) (by decide) (by decide) dX7_isPerson_6 ?_
    refine g_getr X h (k := 0) (t := 52) (cc_51) fr_RX7_62 rfl (by decide) (by decide) (by decide) dX7_isPerson_9 ?_
    refine g_geti X h (k := 0) (cc_52) fr_RX7_66 rfl (by decide) dX7_isPerson_12 ?_
    refine lv_icmp_ge (tgt := 22) hx hb dX7_isPerson_15 (by decide) (fun c_15 => ?_) (fun c_15 => ?_)
    · skip
      refine lv_iconst (v := 0) hx hb dX7_isPerson_22 (by decide) ?_
      exact g_nret X h dX7_isPerson_23 rfl ⟨by rw [hn] at c_15; rw [isP, decide_eq_true (Int32.not_lt.mp c_1), decide_eq_false (Int32.not_lt.mpr c_15)]; rfl, rfl⟩
    · skip
      refine lv_iconst (v := 1) hx hb dX7_isPerson_18 (by decide) ?_
      refine lv_goto (tgt := 23) hx hb dX7_isPerson_19 (by decide) ?_
      exact g_nret X h dX7_isPerson_23 rfl ⟨by rw [hn] at c_15; rw [isP, decide_eq_true (Int32.not_lt.mp c_1), decide_eq_true (Int32.not_le.mp c_15)]; rfl, rfl⟩

set_option maxRecDepth 100000 in
set_option maxHeartbeats 1000000 in
theorem c_X7_told (gl : Launch) (Z : PL) (v : VV) (w : WV) (x0 : Int32) (n : Nat) (B : Nat) (j : Nat) (L : LND) (hcn : CN v n B j L) : CT gl yX7_told cX7_told 2 (some .int) 3 79 Z [.ref (zg Z 0), .int x0] v w (Qi Z (fun r u => r = toldS (xC v 51 n) L n x0 ∧ (u.1, w) = u ∧ scC v u.1)) := by
  refine g_met (by decide) (Nat.le_of_ble_eq_true rfl) ?_
  intro gp ge gs gm ga gb gh gc X h ls hl
  have hx := X.1
  have hb := X.2.1
  have hl : lv_has ls 2 [(0, .ref (zg Z 0)), (1, .int x0)] := hl
  obtain ⟨hn, h6, hj7, hland, hst, hrx, hB⟩ := CN.f hcn
  obtain ⟨q, hq6, hq, hqr⟩ := id hrx.2.2.2.2.1
  replace hq : v 51 5 = nI q := hq
  refine lv_iload_n hx hb dX7_told_0 rfl (lv_at hl 1 rfl) ?_
  by_cases t1_0 : x0 = 0
  · refine lv_tableIn (off := 47) (tgt := 48) hx hb dX7_told_1 (by rw [t1_0]; decide) (by rw [t1_0]; decide) (by rw [t1_0]; rfl) (by decide) ?_
    refine lv_aload_n hx hb dX7_told_48 rfl (lv_at hl 0 rfl) ?_
    refine g_getr X h (k := 1) (t := 51) (cc_0) fr_RX7_23 rfl (by decide) (by decide) (by decide) dX7_told_49 ?_
    refine g_geti X h (k := 3) (cc_51) fr_RX7_147 rfl (by decide) dX7_told_52 ?_
    exact g_iret X h dX7_told_55 ⟨by rw [toldS, if_pos t1_0]; rfl, rfl, scC_refl v⟩
  · skip
    by_cases t1_1 : x0 = 1
    · refine lv_tableIn (off := 55) (tgt := 56) hx hb dX7_told_1 (by rw [t1_1]; decide) (by rw [t1_1]; decide) (by rw [t1_1]; rfl) (by decide) ?_
      refine lv_aload_n hx hb dX7_told_56 rfl (lv_at hl 0 rfl) ?_
      refine g_getr X h (k := 1) (t := 51) (cc_0) fr_RX7_23 rfl (by decide) (by decide) (by decide) dX7_told_57 ?_
      refine g_geti X h (k := 1) (cc_51) fr_RX7_117 rfl (by decide) dX7_told_60 ?_
      exact g_iret X h dX7_told_63 ⟨by rw [toldS, if_neg t1_0, if_pos t1_1]; rfl, rfl, scC_refl v⟩
    · skip
      by_cases t1_2 : x0 = 2
      · refine lv_tableIn (off := 63) (tgt := 64) hx hb dX7_told_1 (by rw [t1_2]; decide) (by rw [t1_2]; decide) (by rw [t1_2]; rfl) (by decide) ?_
        refine lv_aload_n hx hb dX7_told_64 rfl (lv_at hl 0 rfl) ?_
        refine g_getr X h (k := 1) (t := 51) (cc_0) fr_RX7_23 rfl (by decide) (by decide) (by decide) dX7_told_65 ?_
        refine g_geti X h (k := 2) (cc_51) fr_RX7_120 rfl (by decide) dX7_told_68 ?_
        exact g_iret X h dX7_told_71 ⟨by rw [toldS, if_neg t1_0, if_neg t1_1, if_pos t1_2]; rfl, rfl, scC_refl v⟩
      · skip
        by_cases t1_3 : x0 = 3
        · refine lv_tableIn (off := 71) (tgt := 72) hx hb dX7_told_1 (by rw [t1_3]; decide) (by rw [t1_3]; decide) (by rw [t1_3]; rfl) (by decide) ?_
          refine lv_aload_n hx hb dX7_told_72 rfl (lv_at hl 0 rfl) ?_
          refine g_getr X h (k := 1) (t := 51) (cc_0) fr_RX7_23 rfl (by decide) (by decide) (by decide) dX7_told_73 ?_
          refine g_geti X h (k := 7) (cc_51) fr_RX7_150 rfl (by decide) dX7_told_76 ?_
          exact g_iret X h dX7_told_79 ⟨by rw [toldS, if_neg t1_0, if_neg t1_1, if_neg t1_2, if_pos t1_3]; rfl, rfl, scC_refl v⟩
        · skip
          by_cases t1_4 : x0 = 4
          · refine lv_tableIn (off := 79) (tgt := 80) hx hb dX7_told_1 (by rw [t1_4]; decide) (by rw [t1_4]; decide) (by rw [t1_4]; rfl) (by decide) ?_
            refine lv_aload_n hx hb dX7_told_80 rfl (lv_at hl 0 rfl) ?_
            refine g_getr X h (k := 1) (t := 51) (cc_0) fr_RX7_23 rfl (by decide) (by decide) (by decide) dX7_told_81 ?_
            refine g_geti X h (k := 8) (cc_51) fr_RX7_153 rfl (by decide) dX7_told_84 ?_
            exact g_iret X h dX7_told_87 ⟨by rw [toldS, if_neg t1_0, if_neg t1_1, if_neg t1_2, if_neg t1_3, if_pos t1_4]; rfl, rfl, scC_refl v⟩
          · skip
            by_cases t1_5 : x0 = 5
            · refine lv_tableIn (off := 87) (tgt := 88) hx hb dX7_told_1 (by rw [t1_5]; decide) (by rw [t1_5]; decide) (by rw [t1_5]; rfl) (by decide) ?_
              refine lv_aload_n hx hb dX7_told_88 rfl (lv_at hl 0 rfl) ?_
              refine g_getr X h (k := 1) (t := 51) (cc_0) fr_RX7_23 rfl (by decide) (by decide) (by decide) dX7_told_89 ?_
              refine g_geti X h (k := 9) (cc_51) fr_RX7_156 rfl (by decide) dX7_told_92 ?_
              exact g_iret X h dX7_told_95 ⟨by rw [toldS, if_neg t1_0, if_neg t1_1, if_neg t1_2, if_neg t1_3, if_neg t1_4, if_pos t1_5]; rfl, rfl, scC_refl v⟩
            · skip
              by_cases t1_6 : x0 = 6
              · refine lv_tableIn (off := 95) (tgt := 96) hx hb dX7_told_1 (by rw [t1_6]; decide) (by rw [t1_6]; decide) (by rw [t1_6]; rfl) (by decide) ?_
                refine lv_aload_n hx hb dX7_told_96 rfl (lv_at hl 0 rfl) ?_
                refine g_getr X h (k := 1) (t := 51) (cc_0) fr_RX7_23 rfl (by decide) (by decide) (by decide) dX7_told_97 ?_
                refine g_ki h (g_runV X h (As := []) (rest := []) (c_X6_letIn gl Z v w 51 isW0 n B j L hcn.1) mi_X6_letIn ml_RX7_96 (cc_51) (by decide) kl6 rfl ⟨Nat.le_of_ble_eq_true rfl, Nat.le_of_ble_eq_true rfl⟩ rfl hl.1 rfl (Nat.le_of_ble_eq_true rfl) dX7_told_100) (fun r100 v100 w100 H locs hp100 h => ?_)
                obtain ⟨hr100, hw100, hfl100, hwl100⟩ := hp100
                obtain ⟨-, rfl⟩ := Prod.mk.inj hw100
                replace hfl100 : frL _ v100 _ _ := hfl100
                exact g_iret X h dX7_told_103 ⟨by rw [toldS, if_neg t1_0, if_neg t1_1, if_neg t1_2, if_neg t1_3, if_neg t1_4, if_neg t1_5, if_pos t1_6]; exact hr100, rfl, scC_L0 hj7 hfl100⟩
              · skip
                by_cases t1_7 : x0 = 7
                · refine lv_tableIn (off := 103) (tgt := 104) hx hb dX7_told_1 (by rw [t1_7]; decide) (by rw [t1_7]; decide) (by rw [t1_7]; rfl) (by decide) ?_
                  refine lv_aload_n hx hb dX7_told_104 rfl (lv_at hl 0 rfl) ?_
                  refine g_getr X h (k := 1) (t := 51) (cc_0) fr_RX7_23 rfl (by decide) (by decide) (by decide) dX7_told_105 ?_
                  refine lv_aload_n hx hb dX7_told_108 rfl (lv_at hl 0 rfl) ?_
                  refine g_getr X h (k := 1) (t := 51) (cc_0) fr_RX7_23 rfl (by decide) (by decide) (by decide) dX7_told_109 ?_
                  refine g_ki h (g_runV X h (As := []) (rest := [.ref (zg Z 51)]) (c_X6_letIn gl Z v w 51 isW0 n B j L hcn.1) mi_X6_letIn ml_RX7_96 (cc_51) (by decide) kl6 rfl ⟨Nat.le_of_ble_eq_true rfl, Nat.le_of_ble_eq_true rfl⟩ rfl hl.1 rfl (Nat.le_of_ble_eq_true rfl) dX7_told_112) (fun r112 v112 w112 H locs hp112 h => ?_)
                  obtain ⟨hr112, hw112, hfl112, hwl112⟩ := hp112
                  obtain ⟨-, rfl⟩ := Prod.mk.inj hw112
                  replace hfl112 : frL _ v112 _ _ := hfl112
                  have hx112 : xC v112 51 n = xC v 51 n := xC_frL (by decide) hj7 hfl112
                  refine g_ki h (g_runV X h (As := [.int r112]) (rest := []) (c_X6_prayers gl Z v112 w r112 51 isW0 n B L (CW.pw (CW_frL (by decide) hj7 hcn.1 hfl112)) (by rw [hx112, hr112]; exact bits_nat h6)) mi_X6_prayers ml_RX7_159 (cc_51) (by decide) kl6 rfl ⟨Nat.le_of_ble_eq_true rfl, Nat.le_of_ble_eq_true rfl⟩ rfl hl.1 rfl (Nat.le_of_ble_eq_true rfl) dX7_told_115) (fun r115 v115 w115 H locs hp115 h => ?_)
                  obtain ⟨hr115, hu115⟩ := hp115; obtain ⟨rfl, rfl⟩ := Prod.mk.inj hu115
                  exact g_iret X h dX7_told_118 ⟨by rw [toldS, if_neg t1_0, if_neg t1_1, if_neg t1_2, if_neg t1_3, if_neg t1_4, if_neg t1_5, if_neg t1_6, if_pos t1_7, hr115, hx112], rfl, scC_L0 hj7 hfl112⟩
                · skip
                  have q0 := lv_neT t1_0 (a := 0) (by decide)
                  have q1 := lv_neT t1_1 (a := 1) (by decide)
                  have q2 := lv_neT t1_2 (a := 2) (by decide)
                  have q3 := lv_neT t1_3 (a := 3) (by decide)
                  have q4 := lv_neT t1_4 (a := 4) (by decide)
                  have q5 := lv_neT t1_5 (a := 5) (by decide)
                  have q6 := lv_neT t1_6 (a := 6) (by decide)
                  have q7 := lv_neT t1_7 (a := 7) (by decide)
                  refine lv_tableOut (tgt := 119) hx hb dX7_told_1 (by omega) (by decide) ?_
                  refine lv_iload_n hx hb dX7_told_119 rfl (lv_at hl 1 rfl) ?_
                  refine lv_bipush (v := 10) hx hb dX7_told_120 (by decide) ?_
                  refine lv_bipush (v := 9) hx hb dX7_told_122 (by decide) ?_
                  refine lv_aload_n hx hb dX7_told_124 rfl (lv_at hl 0 rfl) ?_
                  refine g_getr X h (k := 1) (t := 51) (cc_0) fr_RX7_23 rfl (by decide) (by decide) (by decide) dX7_told_125 ?_
                  refine g_geti X h (k := 5) (cc_51) fr_RX7_123 rfl (by decide) dX7_told_128 ?_
                  refine lv_iadd hx hb dX7_told_131 ?_
                  refine g_ki h (g_runS X h (As := [.int x0, .int 10, .int (9 + (v 51 5))]) (rest := []) (c_X7_isWithin gl Z v w x0 10 (9 + (v 51 5))) ms_X7_isWithin ml_RX7_58 ⟨Nat.le_of_ble_eq_true rfl, Nat.le_of_ble_eq_true rfl⟩ rfl hl.1 rfl (Nat.le_of_ble_eq_true rfl) dX7_told_132) (fun r132 v132 w132 H locs hp132 h => ?_)
                  obtain ⟨hr132, hu132⟩ := hp132; obtain ⟨rfl, rfl⟩ := Prod.mk.inj hu132
                  refine lv_if_eq (tgt := 153) hx hb dX7_told_135 (by decide) (fun c_135 => ?_) (fun c_135 => ?_)
                  · skip
                    rw [hr132, bI_0] at c_135
                    refine lv_iconst (v := (-1)) hx hb dX7_told_153 (by decide) ?_
                    exact g_iret X h dX7_told_154 ⟨by rw [toldS, if_neg t1_0, if_neg t1_1, if_neg t1_2, if_neg t1_3, if_neg t1_4, if_neg t1_5, if_neg t1_6, if_neg t1_7, if_neg (by rw [show xC v 51 n 0 4 = v 51 5 from rfl, c_135]; simp)], rfl, scC_refl v⟩
                  · skip
                    rw [hr132, bI_n] at c_135
                    obtain ⟨kx, hkx1, hkx2, hkx3, hkx4⟩ := inR_nat (a := 10) (b := 9 + q) rfl (by rw [hq]; exact nI_add 9 q) (by omega) c_135
                    have hkx : (x0 - 10).toNatClampNeg = kx - 10 := by rw [hkx1, show (10 : Int32) = nI 10 from rfl, pk_sub hkx2, nI_clamp (by omega)]
                    refine lv_aload_n hx hb dX7_told_138 rfl (lv_at hl 0 rfl) ?_
                    refine g_getr X h (k := 1) (t := 51) (cc_0) fr_RX7_23 rfl (by decide) (by decide) (by decide) dX7_told_139 ?_
                    refine g_getr X h (k := 4) (t := 59) (cc_51) fr_RX7_126 rfl (by decide) (by decide) (by decide) dX7_told_142 ?_
                    refine lv_iload_n hx hb dX7_told_145 rfl (lv_at hl 1 rfl) ?_
                    refine lv_bipush (v := 10) hx hb dX7_told_146 (by decide) ?_
                    refine lv_isub hx hb dX7_told_148 ?_
                    refine g_iald X h (k := (kx - 10)) (cc_59) (by rw [hkx1]; exact pk_sub hkx2) (by omega) (by decide) dX7_told_149 ?_
                    refine lv_goto (tgt := 154) hx hb dX7_told_150 (by decide) ?_
                    exact g_iret X h dX7_told_154 ⟨by rw [toldS, if_neg t1_0, if_neg t1_1, if_neg t1_2, if_neg t1_3, if_neg t1_4, if_neg t1_5, if_neg t1_6, if_neg t1_7, show xC v 51 n 0 4 = v 51 5 from rfl, if_pos c_135, hkx]; exact (xC_rnd (v := v) (b := 51) (n := n) (by omega)).symm, rfl, scC_refl v⟩

set_option maxRecDepth 100000 in
set_option maxHeartbeats 1000000 in
theorem c_X7_of (gl : Launch) (Z : PL) (v : VV) (w : WV) (x0 : Int32) (x1 : Int32) (n : Nat) (B : Nat) (j : Nat) (L : LND) (hcn : CN v n B j L) : CT gl yX7_of cX7_of 4 (some .int) 3 79 Z [.ref (zg Z 0), .int x0, .int x1] v w (Qi Z (fun r u => r = sOf (xC v 51 n) L n x0 x1 ∧ (u.1, w) = u ∧ scC v u.1)) := by
  refine g_met (by decide) (Nat.le_of_ble_eq_true rfl) ?_
  intro gp ge gs gm ga gb gh gc X h ls hl
  have hx := X.1
  have hb := X.2.1
  have hl : lv_has ls 4 [(0, .ref (zg Z 0)), (1, .int x0), (2, .int x1)] := hl
  obtain ⟨hn, h6, hj7, hland, hst, hrx, hB⟩ := CN.f hcn
  refine lv_aload_n hx hb dX7_of_0 rfl (lv_at hl 0 rfl) ?_
  refine lv_iload_n hx hb dX7_of_1 rfl (lv_at hl 1 rfl) ?_
  refine g_ki h (g_runV X h (As := [.int x0]) (rest := []) (c_X7_isPerson gl Z v w x0 n hn h6) mi_X7_isPerson ml_RX7_76 (cc_0) (by decide) kl7 rfl ⟨Nat.le_of_ble_eq_true rfl, Nat.le_of_ble_eq_true rfl⟩ rfl hl.1 rfl (Nat.le_of_ble_eq_true rfl) dX7_of_2) (fun r2 v2 w2 H locs hp2 h => ?_)
  obtain ⟨hr2, hu2⟩ := hp2; obtain ⟨rfl, rfl⟩ := Prod.mk.inj hu2
  refine lv_if_ne (tgt := 12) hx hb dX7_of_5 (by decide) (fun c_5 => ?_) (fun c_5 => ?_)
  · skip
    rw [hr2, bI_n] at c_5
    obtain ⟨k, hk, hkn, hkc⟩ := isP_nat (by omega) c_5
    refine lv_aload_n hx hb dX7_of_12 rfl (lv_at hl 0 rfl) ?_
    refine g_getr X h (k := 1) (t := 51) (cc_0) fr_RX7_23 rfl (by decide) (by decide) (by decide) dX7_of_13 ?_
    refine g_getr X h (k := 0) (t := 52) (cc_51) fr_RX7_62 rfl (by decide) (by decide) (by decide) dX7_of_16 ?_
    refine lv_astore_n (lv' := [(3, .ref (zg Z 52)), (0, .ref (zg Z 0)), (1, .int x0), (2, .int x1)]) hx hb dX7_of_19 rfl hl (by decide) rfl (fun ls hl => ?_)
    refine lv_iload_n hx hb dX7_of_20 rfl (lv_at hl 3 rfl) ?_
    by_cases t21_0 : x1 = 0
    · refine lv_tableIn (off := 47) (tgt := 68) hx hb dX7_of_21 (by rw [t21_0]; decide) (by rw [t21_0]; decide) (by rw [t21_0]; rfl) (by decide) ?_
      refine lv_aload_n hx hb dX7_of_68 rfl (lv_at hl 0 rfl) ?_
      refine g_getr X h (k := 2) (t := 54) (cc_52) fr_RX7_80 rfl (by decide) (by decide) (by decide) dX7_of_69 ?_
      refine lv_iload_n hx hb dX7_of_72 rfl (lv_at hl 2 rfl) ?_
      refine g_iald X h (k := k) (cc_54) hk (by omega) (by decide) dX7_of_73 ?_
      exact g_iret X h dX7_of_74 ⟨by rw [sOf, if_pos c_5, hkc, if_pos t21_0]; exact (xC_kd (v := v) (b := 51) hkn).symm, rfl, scC_refl v⟩
    · skip
      by_cases t21_1 : x1 = 1
      · refine lv_tableIn (off := 54) (tgt := 75) hx hb dX7_of_21 (by rw [t21_1]; decide) (by rw [t21_1]; decide) (by rw [t21_1]; rfl) (by decide) ?_
        refine lv_aload_n hx hb dX7_of_75 rfl (lv_at hl 0 rfl) ?_
        refine g_getr X h (k := 3) (t := 55) (cc_52) fr_RX7_84 rfl (by decide) (by decide) (by decide) dX7_of_76 ?_
        refine lv_iload_n hx hb dX7_of_79 rfl (lv_at hl 2 rfl) ?_
        refine g_iald X h (k := k) (cc_55) hk (by omega) (by decide) dX7_of_80 ?_
        exact g_iret X h dX7_of_81 ⟨by rw [sOf, if_pos c_5, hkc, if_neg t21_0, if_pos t21_1]; exact (xC_v (v := v) (b := 51) (n := n) (k := k) (by omega)).symm, rfl, scC_refl v⟩
      · skip
        by_cases t21_2 : x1 = 2
        · refine lv_tableIn (off := 61) (tgt := 82) hx hb dX7_of_21 (by rw [t21_2]; decide) (by rw [t21_2]; decide) (by rw [t21_2]; rfl) (by decide) ?_
          refine lv_aload_n hx hb dX7_of_82 rfl (lv_at hl 0 rfl) ?_
          refine g_getr X h (k := 4) (t := 56) (cc_52) fr_RX7_87 rfl (by decide) (by decide) (by decide) dX7_of_83 ?_
          refine lv_iload_n hx hb dX7_of_86 rfl (lv_at hl 2 rfl) ?_
          refine g_iald X h (k := k) (cc_56) hk (by omega) (by decide) dX7_of_87 ?_
          exact g_iret X h dX7_of_88 ⟨by rw [sOf, if_pos c_5, hkc, if_neg t21_0, if_neg t21_1, if_pos t21_2]; exact (xC_th (v := v) (b := 51) (n := n) (k := k) (by omega)).symm, rfl, scC_refl v⟩
        · skip
          by_cases t21_3 : x1 = 3
          · refine lv_tableIn (off := 68) (tgt := 89) hx hb dX7_of_21 (by rw [t21_3]; decide) (by rw [t21_3]; decide) (by rw [t21_3]; rfl) (by decide) ?_
            refine lv_aload_n hx hb dX7_of_89 rfl (lv_at hl 0 rfl) ?_
            refine g_getr X h (k := 5) (t := 57) (cc_52) fr_RX7_90 rfl (by decide) (by decide) (by decide) dX7_of_90 ?_
            refine lv_iload_n hx hb dX7_of_93 rfl (lv_at hl 2 rfl) ?_
            refine g_iald X h (k := k) (cc_57) hk (by omega) (by decide) dX7_of_94 ?_
            exact g_iret X h dX7_of_95 ⟨by rw [sOf, if_pos c_5, hkc, if_neg t21_0, if_neg t21_1, if_neg t21_2, if_pos t21_3]; exact (xC_got (v := v) (b := 51) (n := n) (k := k) (by omega)).symm, rfl, scC_refl v⟩
          · skip
            by_cases t21_4 : x1 = 4
            · refine lv_tableIn (off := 75) (tgt := 96) hx hb dX7_of_21 (by rw [t21_4]; decide) (by rw [t21_4]; decide) (by rw [t21_4]; rfl) (by decide) ?_
              refine lv_aload_n hx hb dX7_of_96 rfl (lv_at hl 0 rfl) ?_
              refine lv_iload_n hx hb dX7_of_97 rfl (lv_at hl 2 rfl) ?_
              refine g_ki h (g_runV X h (As := [.int x0]) (rest := []) (c_X3_isDead gl Z v w x0 k hk (by omega) 52 (isWE isW0)) mi_X3_isDead ml_RX7_93 (cc_52) (by decide) kl3 rfl ⟨Nat.le_of_ble_eq_true rfl, Nat.le_of_ble_eq_true rfl⟩ rfl hl.1 rfl (Nat.le_of_ble_eq_true rfl) dX7_of_98) (fun r98 v98 w98 H locs hp98 h => ?_)
              obtain ⟨hr98, hu98⟩ := hp98; obtain ⟨rfl, rfl⟩ := Prod.mk.inj hu98
              refine lv_if_eq (tgt := 108) hx hb dX7_of_101 (by decide) (fun c_101 => ?_) (fun c_101 => ?_)
              · skip
                rw [hr98, bI_0] at c_101
                refine lv_iconst (v := 0) hx hb dX7_of_108 (by decide) ?_
                exact g_iret X h dX7_of_109 ⟨by rw [sOf, if_pos c_5, hkc, if_neg t21_0, if_neg t21_1, if_neg t21_2, if_neg t21_3, if_pos t21_4, xC_dead (by omega)]; show _ = bI (bt (v 52 7) k); rw [c_101]; rfl, rfl, scC_refl v⟩
              · skip
                rw [hr98, bI_n] at c_101
                refine lv_iconst (v := 1) hx hb dX7_of_104 (by decide) ?_
                refine lv_goto (tgt := 109) hx hb dX7_of_105 (by decide) ?_
                exact g_iret X h dX7_of_109 ⟨by rw [sOf, if_pos c_5, hkc, if_neg t21_0, if_neg t21_1, if_neg t21_2, if_neg t21_3, if_pos t21_4, xC_dead (by omega)]; show _ = bI (bt (v 52 7) k); rw [c_101]; rfl, rfl, scC_refl v⟩
            · skip
              by_cases t21_5 : x1 = 5
              · refine lv_tableIn (off := 89) (tgt := 110) hx hb dX7_of_21 (by rw [t21_5]; decide) (by rw [t21_5]; decide) (by rw [t21_5]; rfl) (by decide) ?_
                refine lv_aload_n hx hb dX7_of_110 rfl (lv_at hl 1 rfl) ?_
                refine g_getr X h (k := 1) (t := 51) (cc_0) fr_RX7_23 rfl (by decide) (by decide) (by decide) dX7_of_111 ?_
                refine g_ki h (g_runV X h (As := []) (rest := []) (c_X6_letIn gl Z v w 51 isW0 n B j L hcn.1) mi_X6_letIn ml_RX7_96 (cc_51) (by decide) kl6 rfl ⟨Nat.le_of_ble_eq_true rfl, Nat.le_of_ble_eq_true rfl⟩ rfl hl.1 rfl (Nat.le_of_ble_eq_true rfl) dX7_of_114) (fun r114 v114 w114 H locs hp114 h => ?_)
                obtain ⟨hr114, hw114, hfl114, hwl114⟩ := hp114
                obtain ⟨-, rfl⟩ := Prod.mk.inj hw114
                replace hfl114 : frL _ v114 _ _ := hfl114
                refine lv_pop hx hb dX7_of_117 rfl ?_
                refine lv_aload_n hx hb dX7_of_118 rfl (lv_at hl 1 rfl) ?_
                refine g_getr X h (k := 1) (t := 51) (cc_0) fr_RX7_23 rfl (by decide) (by decide) (by decide) dX7_of_119 ?_
                refine g_getr X h (k := 10) (t := 60) (cc_51) fr_RX7_100 rfl (by decide) (by decide) (by decide) dX7_of_122 ?_
                refine lv_iload_n hx hb dX7_of_125 rfl (lv_at hl 2 rfl) ?_
                refine g_iald X h (k := k) (cc_60) hk (by omega) (by decide) dX7_of_126 ?_
                exact g_iret X h dX7_of_127 ⟨by rw [sOf, if_pos c_5, hkc, if_neg t21_0, if_neg t21_1, if_neg t21_2, if_neg t21_3, if_neg t21_4, if_pos t21_5]; exact hwl114 k hkn, rfl, scC_L0 hj7 hfl114⟩
              · skip
                by_cases t21_6 : x1 = 6
                · refine lv_tableIn (off := 107) (tgt := 128) hx hb dX7_of_21 (by rw [t21_6]; decide) (by rw [t21_6]; decide) (by rw [t21_6]; rfl) (by decide) ?_
                  refine lv_aload_n hx hb dX7_of_128 rfl (lv_at hl 1 rfl) ?_
                  refine g_getr X h (k := 1) (t := 51) (cc_0) fr_RX7_23 rfl (by decide) (by decide) (by decide) dX7_of_129 ?_
                  refine g_ki h (g_runV X h (As := []) (rest := []) (c_X6_letIn gl Z v w 51 isW0 n B j L hcn.1) mi_X6_letIn ml_RX7_96 (cc_51) (by decide) kl6 rfl ⟨Nat.le_of_ble_eq_true rfl, Nat.le_of_ble_eq_true rfl⟩ rfl hl.1 rfl (Nat.le_of_ble_eq_true rfl) dX7_of_132) (fun r132 v132 w132 H locs hp132 h => ?_)
                  obtain ⟨hr132, hw132, hfl132, hwl132⟩ := hp132
                  obtain ⟨-, rfl⟩ := Prod.mk.inj hw132
                  replace hfl132 : frL _ v132 _ _ := hfl132
                  refine lv_iload_n hx hb dX7_of_135 rfl (lv_at hl 2 rfl) ?_
                  refine lv_ishr hx hb dX7_of_136 ?_
                  refine lv_iconst (v := 1) hx hb dX7_of_137 (by decide) ?_
                  refine lv_iand hx hb dX7_of_138 ?_
                  exact g_iret X h dX7_of_139 ⟨by rw [sOf, if_pos c_5, hkc, if_neg t21_0, if_neg t21_1, if_neg t21_2, if_neg t21_3, if_neg t21_4, if_neg t21_5, if_pos t21_6, hk, b1_n (by omega), hr132, bits_nat h6 k hkn]; skip, rfl, scC_L0 hj7 hfl132⟩
                · skip
                  by_cases t21_7 : x1 = 7
                  · refine lv_tableIn (off := 119) (tgt := 140) hx hb dX7_of_21 (by rw [t21_7]; decide) (by rw [t21_7]; decide) (by rw [t21_7]; rfl) (by decide) ?_
                    refine lv_aload_n hx hb dX7_of_140 rfl (lv_at hl 1 rfl) ?_
                    refine g_getr X h (k := 1) (t := 51) (cc_0) fr_RX7_23 rfl (by decide) (by decide) (by decide) dX7_of_141 ?_
                    refine lv_iload_n hx hb dX7_of_144 rfl (lv_at hl 2 rfl) ?_
                    refine lv_aload_n hx hb dX7_of_145 rfl (lv_at hl 1 rfl) ?_
                    refine g_getr X h (k := 1) (t := 51) (cc_0) fr_RX7_23 rfl (by decide) (by decide) (by decide) dX7_of_146 ?_
                    refine g_ki h (g_runV X h (As := []) (rest := [.int x0, .ref (zg Z 51)]) (c_X6_letIn gl Z v w 51 isW0 n B j L hcn.1) mi_X6_letIn ml_RX7_96 (cc_51) (by decide) kl6 rfl ⟨Nat.le_of_ble_eq_true rfl, Nat.le_of_ble_eq_true rfl⟩ rfl hl.1 rfl (Nat.le_of_ble_eq_true rfl) dX7_of_149) (fun r149 v149 w149 H locs hp149 h => ?_)
                    obtain ⟨hr149, hw149, hfl149, hwl149⟩ := hp149
                    obtain ⟨-, rfl⟩ := Prod.mk.inj hw149
                    replace hfl149 : frL _ v149 _ _ := hfl149
                    have hx149 : xC v149 51 n = xC v 51 n := xC_frL (by decide) hj7 hfl149
                    refine g_ki h (g_runV X h (As := [.int x0, .int r149]) (rest := []) (c_X6_prayerOf gl Z v149 w x0 k hk r149 51 isW0 n B L (CW.pw (CW_frL (by decide) hj7 hcn.1 hfl149)) hkn (by rw [hx149, hr149]; exact bits_nat h6 k hkn)) mi_X6_prayerOf ml_RX7_103 (cc_51) (by decide) kl6 rfl ⟨Nat.le_of_ble_eq_true rfl, Nat.le_of_ble_eq_true rfl⟩ rfl hl.1 rfl (Nat.le_of_ble_eq_true rfl) dX7_of_152) (fun r152 v152 w152 H locs hp152 h => ?_)
                    obtain ⟨hr152, hu152⟩ := hp152; obtain ⟨rfl, rfl⟩ := Prod.mk.inj hu152
                    exact g_iret X h dX7_of_155 ⟨by rw [sOf, if_pos c_5, hkc, if_neg t21_0, if_neg t21_1, if_neg t21_2, if_neg t21_3, if_neg t21_4, if_neg t21_5, if_neg t21_6, if_pos t21_7, hr152, hx149]; skip, rfl, scC_L0 hj7 hfl149⟩
                  · skip
                    have q0 := lv_neT t21_0 (a := 0) (by decide)
                    have q1 := lv_neT t21_1 (a := 1) (by decide)
                    have q2 := lv_neT t21_2 (a := 2) (by decide)
                    have q3 := lv_neT t21_3 (a := 3) (by decide)
                    have q4 := lv_neT t21_4 (a := 4) (by decide)
                    have q5 := lv_neT t21_5 (a := 5) (by decide)
                    have q6 := lv_neT t21_6 (a := 6) (by decide)
                    have q7 := lv_neT t21_7 (a := 7) (by decide)
                    refine lv_tableOut (tgt := 156) hx hb dX7_of_21 (by omega) (by decide) ?_
                    refine lv_iload_n hx hb dX7_of_156 rfl (lv_at hl 3 rfl) ?_
                    refine lv_bipush (v := 10) hx hb dX7_of_157 (by decide) ?_
                    refine lv_bipush (v := 109) hx hb dX7_of_159 (by decide) ?_
                    refine g_ki h (g_runS X h (As := [.int x1, .int 10, .int 109]) (rest := []) (c_X7_isWithin gl Z v w x1 10 109) ms_X7_isWithin ml_RX7_58 ⟨Nat.le_of_ble_eq_true rfl, Nat.le_of_ble_eq_true rfl⟩ rfl hl.1 rfl (Nat.le_of_ble_eq_true rfl) dX7_of_161) (fun r161 v161 w161 H locs hp161 h => ?_)
                    obtain ⟨hr161, hu161⟩ := hp161; obtain ⟨rfl, rfl⟩ := Prod.mk.inj hu161
                    refine lv_if_eq (tgt := 179) hx hb dX7_of_164 (by decide) (fun c_164 => ?_) (fun c_164 => ?_)
                    · skip
                      rw [hr161, bI_0] at c_164
                      refine lv_sipush (v := (-10001)) hx hb dX7_of_179 (by decide) ?_
                      exact g_iret X h dX7_of_182 ⟨by rw [sOf, if_pos c_5, hkc, if_neg t21_0, if_neg t21_1, if_neg t21_2, if_neg t21_3, if_neg t21_4, if_neg t21_5, if_neg t21_6, if_neg t21_7, if_neg (by rw [c_164]; simp)]; skip, rfl, scC_refl v⟩
                    · skip
                      rw [hr161, bI_n] at c_164
                      refine lv_aload_n hx hb dX7_of_167 rfl (lv_at hl 0 rfl) ?_
                      refine lv_iload_n hx hb dX7_of_168 rfl (lv_at hl 2 rfl) ?_
                      refine lv_iload_n hx hb dX7_of_169 rfl (lv_at hl 3 rfl) ?_
                      refine lv_bipush (v := 10) hx hb dX7_of_170 (by decide) ?_
                      refine lv_isub hx hb dX7_of_172 ?_
                      refine g_ki h (g_runV X h (As := [.int x0, .int (x1 - 10)]) (rest := []) (c_X3_thanksFor gl Z v w x0 k hk (x1 - 10) (by omega) 52 (isWE isW0)) mi_X3_thanksFor ml_RX7_107 (cc_52) (by decide) kl3 rfl ⟨Nat.le_of_ble_eq_true rfl, Nat.le_of_ble_eq_true rfl⟩ rfl hl.1 rfl (Nat.le_of_ble_eq_true rfl) dX7_of_173) (fun r173 v173 w173 H locs hp173 h => ?_)
                      obtain ⟨hr173, hu173⟩ := hp173; obtain ⟨rfl, rfl⟩ := Prod.mk.inj hu173
                      refine lv_goto (tgt := 182) hx hb dX7_of_176 (by decide) ?_
                      exact g_iret X h dX7_of_182 ⟨by rw [sOf, if_pos c_5, hkc, if_neg t21_0, if_neg t21_1, if_neg t21_2, if_neg t21_3, if_neg t21_4, if_neg t21_5, if_neg t21_6, if_neg t21_7, if_pos c_164, hr173, ← tfC_S, xC_kd hkn, xC_v (by omega)]; skip, rfl, scC_refl v⟩
  · skip
    rw [hr2, bI_0] at c_5
    refine lv_sipush (v := (-10001)) hx hb dX7_of_8 (by decide) ?_
    exact g_iret X h dX7_of_11 ⟨by rw [sOf, if_neg (by rw [c_5]; simp)], rfl, scC_refl v⟩

set_option maxRecDepth 100000 in
set_option maxHeartbeats 1000000 in
theorem c_X7_pass (gl : Launch) (Z : PL) (v : VV) (w : WV) (x0 : Int32) (n : Nat) (B : Nat) (j : Nat) (L : LND) (hcn : CN v n B j L) (hB60 : B + 60 < 1000000) : CT gl yX7_pass cX7_pass 2 (some .int) 5 124 Z [.ref (zg Z 0), .int x0] v w (Qi Z (fun r u => r = sPass (xC v 51 n) L n x0 ∧ (u.1, w) = u ∧ frD v u.1 51 j ∧ xC u.1 51 n = (if okPass (xC v 51 n) x0 then daysS (xC v 51 n) L n x0.toNatClampNeg else xC v 51 n))) := by
  refine g_met (by decide) (Nat.le_of_ble_eq_true rfl) ?_
  intro gp ge gs gm ga gb gh gc X h ls hl
  have hx := X.1
  have hb := X.2.1
  have hl : lv_has ls 2 [(0, .ref (zg Z 0)), (1, .int x0)] := hl
  obtain ⟨hn, h6, hj7, hland, hst, hrx, hB⟩ := CN.f hcn
  refine lv_iload_n hx hb dX7_pass_0 rfl (lv_at hl 1 rfl) ?_
  refine lv_iconst (v := 0) hx hb dX7_pass_1 (by decide) ?_
  refine lv_bipush (v := 60) hx hb dX7_pass_2 (by decide) ?_
  refine g_ki h (g_runS X h (As := [.int x0, .int 0, .int 60]) (rest := []) (c_X7_isWithin gl Z v w x0 0 60) ms_X7_isWithin ml_RX7_58 ⟨Nat.le_of_ble_eq_true rfl, Nat.le_of_ble_eq_true rfl⟩ rfl hl.1 rfl (Nat.le_of_ble_eq_true rfl) dX7_pass_4) (fun r4 v4 w4 H locs hp4 h => ?_)
  obtain ⟨hr4, hu4⟩ := hp4; obtain ⟨rfl, rfl⟩ := Prod.mk.inj hu4
  refine lv_if_ne (tgt := 13) hx hb dX7_pass_7 (by decide) (fun c_7 => ?_) (fun c_7 => ?_)
  · skip
    rw [hr4, bI_n] at c_7
    obtain ⟨k, hk, hk0, hk60, hkc⟩ := inR_nat (a := 0) (b := 60) rfl rfl (by decide) c_7
    refine lv_aload_n hx hb dX7_pass_13 rfl (lv_at hl 0 rfl) ?_
    refine g_getr X h (k := 1) (t := 51) (cc_0) fr_RX7_23 rfl (by decide) (by decide) (by decide) dX7_pass_14 ?_
    refine g_ki h (g_runV X h (As := []) (rest := []) (c_X6_isGone gl Z v w 51 isW0 n B hrx) mi_X6_isGone ml_RX7_162 (cc_51) (by decide) kl6 rfl ⟨Nat.le_of_ble_eq_true rfl, Nat.le_of_ble_eq_true rfl⟩ rfl hl.1 rfl (Nat.le_of_ble_eq_true rfl) dX7_pass_17) (fun r17 v17 w17 H locs hp17 h => ?_)
    obtain ⟨hr17, hu17⟩ := hp17; obtain ⟨rfl, rfl⟩ := Prod.mk.inj hu17
    refine lv_if_ne (tgt := 38) hx hb dX7_pass_20 (by decide) (fun c_20 => ?_) (fun c_20 => ?_)
    · skip
      rw [hr17, bI_n] at c_20
      refine lv_bipush (v := (-3)) hx hb dX7_pass_38 (by decide) ?_
      exact g_iret X h dX7_pass_40 (by have z0 := of_decide_eq_true c_20; exact ⟨by rw [sPass, if_pos c_7, if_pos z0], rfl, frD_refl _ _ _, by rw [if_neg (by simp [okPass, z0])]⟩)
    · skip
      rw [hr17, bI_0] at c_20
      refine lv_aload_n hx hb dX7_pass_23 rfl (lv_at hl 0 rfl) ?_
      refine g_getr X h (k := 1) (t := 51) (cc_0) fr_RX7_23 rfl (by decide) (by decide) (by decide) dX7_pass_24 ?_
      refine g_geti X h (k := 3) (cc_51) fr_RX7_147 rfl (by decide) dX7_pass_27 ?_
      refine lv_iload_n hx hb dX7_pass_30 rfl (lv_at hl 1 rfl) ?_
      refine lv_iadd hx hb dX7_pass_31 ?_
      refine lv_sipush (v := 9999) hx hb dX7_pass_32 (by decide) ?_
      refine lv_icmp_le (tgt := 41) hx hb dX7_pass_35 (by decide) (fun c_35 => ?_) (fun c_35 => ?_)
      · skip
        refine lv_aload_n hx hb dX7_pass_41 rfl (lv_at hl 0 rfl) ?_
        refine g_getr X h (k := 1) (t := 51) (cc_0) fr_RX7_23 rfl (by decide) (by decide) (by decide) dX7_pass_42 ?_
        refine lv_iload_n hx hb dX7_pass_45 rfl (lv_at hl 1 rfl) ?_
        refine g_kv h (g_runV X h (As := [.int x0]) (rest := []) (c_X6_goDays gl Z v w x0 k hk 51 isW0 n B j L hcn.1 (by omega)) mi_X6_goDays ml_RX7_165 (cc_51) (by decide) kl6 rfl ⟨Nat.le_of_ble_eq_true rfl, Nat.le_of_ble_eq_true rfl⟩ rfl hl.1 rfl (Nat.le_of_ble_eq_true rfl) dX7_pass_46) (fun v46 w46 H locs hp46 h => ?_)
        obtain ⟨hx46, hw46, hfd46⟩ := hp46
        obtain ⟨-, rfl⟩ := Prod.mk.inj hw46
        replace hx46 : xC v46 _ _ = _ := hx46
        replace hfd46 : frD _ v46 _ _ := hfd46
        refine lv_aload_n hx hb dX7_pass_49 rfl (lv_at hl 0 rfl) ?_
        refine g_getr X h (k := 1) (t := 51) (cc_0) fr_RX7_23 rfl (by decide) (by decide) (by decide) dX7_pass_50 ?_
        refine g_geti X h (k := 1) (cc_51) fr_RX7_117 rfl (by decide) dX7_pass_53 ?_
        exact g_iret X h dX7_pass_56 (by have z0 := of_decide_eq_false c_20; have z1 : ¬ 9999 < xC v 51 n 0 3 + x0 := Int32.not_lt.mpr c_35; exact ⟨by rw [sPass, if_pos c_7, if_neg z0, if_neg z1, hkc, helS, ← hx46]; rfl, rfl, hfd46, by show xC v46 51 n = _; rw [if_pos (by simp [okPass, c_7, z0, Int32.not_lt.mp z1]), hkc]; exact hx46⟩)
      · skip
        refine lv_bipush (v := (-3)) hx hb dX7_pass_38 (by decide) ?_
        exact g_iret X h dX7_pass_40 (by have z0 := of_decide_eq_false c_20; have z1 : 9999 < xC v 51 n 0 3 + x0 := Int32.not_le.mp c_35; exact ⟨by rw [sPass, if_pos c_7, if_neg z0, if_pos z1], rfl, frD_refl _ _ _, by rw [if_neg (by simp [okPass, z1])]⟩)
  · skip
    rw [hr4, bI_0] at c_7
    refine lv_bipush (v := (-2)) hx hb dX7_pass_10 (by decide) ?_
    exact g_iret X h dX7_pass_12 ⟨by simp [sPass, c_7], rfl, frD_refl _ _ _, by simp [okPass, c_7]⟩

set_option maxRecDepth 100000 in
set_option maxHeartbeats 1000000 in
theorem c_X7_dies (gl : Launch) (Z : PL) (v : VV) (w : WV) (n : Nat) (B : Nat) (j : Nat) (L : LND) (hcn : CN v n B j L) (hB1 : B + 100 < 1000000) : CT gl yX7_dies cX7_dies 2 (some .int) 4 102 Z [.ref (zg Z 0)] v w (Qi Z (fun r u => r = diesF (xC v 51 n) L n 100 0 ∧ (u.1, w) = u ∧ scC v u.1)) := by
  refine g_met (by decide) (Nat.le_of_ble_eq_true rfl) ?_
  intro gp ge gs gm ga gb gh gc X h ls hl
  have hx := X.1
  have hb := X.2.1
  have hl : lv_has ls 2 [(0, .ref (zg Z 0))] := hl
  obtain ⟨hn, h6, hj7, hland, hst, hrx, hB⟩ := CN.f hcn
  refine lv_aload_n hx hb dX7_dies_0 rfl (lv_at hl 0 rfl) ?_
  refine g_getr X h (k := 2) (t := 70) (cc_0) fr_RX7_27 rfl (by decide) (by decide) (by decide) dX7_dies_1 ?_
  refine lv_aload_n hx hb dX7_dies_4 rfl (lv_at hl 0 rfl) ?_
  refine g_getr X h (k := 1) (t := 51) (cc_0) fr_RX7_23 rfl (by decide) (by decide) (by decide) dX7_dies_5 ?_
  refine g_kv h (g_runV X h (As := [.ref (zg Z 51)]) (rest := []) (c_X6_startAs gl Z v w 70 isW1 51 isW0 (by decide) n j h6 hj7 (CN.f hcn).2.2.2.1 (CN.f hcn).2.2.2.2.1) mi_X6_startAs ml_RX7_169 (cc_70) (by decide) kl6 rfl ⟨Nat.le_of_ble_eq_true rfl, Nat.le_of_ble_eq_true rfl⟩ rfl hl.1 rfl (Nat.le_of_ble_eq_true rfl) dX7_dies_8) (fun v8 w8 H locs hp8 h => ?_)
  obtain ⟨hx8, hw8, hl68, hft8, hsw8⟩ := hp8
  obtain ⟨-, rfl⟩ := Prod.mk.inj hw8
  replace hx8 : xC v8 _ _ = _ := hx8
  replace hl68 : v8 _ 6 = _ := hl68
  replace hft8 : frT _ v8 _ := hft8
  replace hsw8 : stW v8 _ _ := hsw8
  obtain ⟨hs8, hc8, hX8⟩ := TC_start (scC_refl v) hcn hx8 hl68 hft8
  refine lv_iconst (v := 0) hx hb dX7_dies_11 (by decide) ?_
  refine lv_istore_n (lv' := [(1, .int 0), (0, .ref (zg Z 0))]) hx hb dX7_dies_12 rfl hl (by decide) rfl (fun ls hl => ?_)
  have L13 : ∀ (n13 : Nat) (i : Nat) (x1 : Int32) (va : VV), (x1 = nI i) → (i ≤ 100) → (diesF (xC v 51 n) L n 100 0 = diesF (xC v 51 n) L n (100 - i) i) → (scC v va) → (CW va 70 n (B + i) j L) → (xC va 70 n = daysS (xC v 51 n) L n i) → 100 - i < n13 → ∀ (H : Heap) (locs : List Loc), HS Z gs va w H locs → ∀ ls : Array Slot, lv_has ls 2 [(0, .ref (zg Z 0)), (1, .int x1)] → W gp gl ge (rmm 4 102) gs gm ga gb gh gc H locs 0 0 (MQ gb (Qi Z (fun r u => r = diesF (xC v 51 n) L n 100 0 ∧ (u.1, w) = u ∧ scC v u.1)) ga gs 0 0 (zA Z)) (F0 gm 13 ls []) := by
    intro n13
    induction n13 with
    | zero => intro i x1 va hi1 hi hdi hsa hca hxa hmu; exact absurd hmu (Nat.not_lt_zero _)
    | succ n13 ih13 =>
      intro i x1 va hi1 hi hdi hsa hca hxa hmu13 H locs h ls hl
      refine lv_iload_n hx hb dX7_dies_13 rfl (lv_at hl 1 rfl) ?_
      refine lv_bipush (v := 99) hx hb dX7_dies_14 (by decide) ?_
      refine lv_icmp_gt (tgt := 44) hx hb dX7_dies_16 (by decide) (fun c_16 => ?_) (fun c_16 => ?_)
      · skip
        have hi9 := nI_lt1 (a := 99) (b := i) rfl hi1 (by omega) (by omega) c_16
        refine lv_bipush (v := (-5)) hx hb dX7_dies_44 (by decide) ?_
        exact g_iret X h dX7_dies_46 ⟨by rw [hdi, show i = 100 by omega]; rfl, rfl, hsa⟩
      · skip
        have hi9 := nI_lt0 (a := 99) (b := i) rfl hi1 (by omega) (by omega) c_16
        refine lv_aload_n hx hb dX7_dies_19 rfl (lv_at hl 0 rfl) ?_
        refine g_getr X h (k := 2) (t := 70) (cc_0) fr_RX7_27 rfl (by decide) (by decide) (by decide) dX7_dies_20 ?_
        refine g_ki h (g_runV X h (As := []) (rest := []) (c_X6_isGone gl Z va w 70 isW1 n (B + i) hca.2.2.2.2.1) mi_X6_isGone ml_RX7_162 (cc_70) (by decide) kl6 rfl ⟨Nat.le_of_ble_eq_true rfl, Nat.le_of_ble_eq_true rfl⟩ rfl hl.1 rfl (Nat.le_of_ble_eq_true rfl) dX7_dies_23) (fun r23 v23 w23 H locs hp23 h => ?_)
        obtain ⟨hr23, hu23⟩ := hp23; obtain ⟨rfl, rfl⟩ := Prod.mk.inj hu23
        refine lv_if_eq (tgt := 31) hx hb dX7_dies_26 (by decide) (fun c_26 => ?_) (fun c_26 => ?_)
        · skip
          rw [hr23, bI_0] at c_26
          refine lv_aload_n hx hb dX7_dies_31 rfl (lv_at hl 0 rfl) ?_
          refine g_getr X h (k := 2) (t := 70) (cc_0) fr_RX7_27 rfl (by decide) (by decide) (by decide) dX7_dies_32 ?_
          refine g_kv h (g_runV X h (As := []) (rest := []) (c_X6_goDay gl Z va w 70 isW1 n (B + i) j L hca) mi_X6_goDay ml_RX7_173 (cc_70) (by decide) kl6 rfl ⟨Nat.le_of_ble_eq_true rfl, Nat.le_of_ble_eq_true rfl⟩ rfl hl.1 rfl (Nat.le_of_ble_eq_true rfl) dX7_dies_35) (fun v35 w35 H locs hp35 h => ?_)
          obtain ⟨hx35, hw35, hfd35⟩ := hp35
          obtain ⟨-, rfl⟩ := Prod.mk.inj hw35
          replace hx35 : xC v35 _ _ = _ := hx35
          replace hfd35 : frD _ v35 _ _ := hfd35
          refine lv_iinc (v := (x1 + 1)) (lv' := [(1, .int (x1 + 1)), (0, .ref (zg Z 0))]) hx hb dX7_dies_38 hl (k := 1) rfl rfl (by decide) rfl (fun ls hl => ?_)
          refine lv_goto (tgt := 13) hx hb dX7_dies_41 (by decide) ?_
          exact ih13 (i + 1) (x1 + 1) v35 (by rw [hi1]; exact nI_1 _) (by omega) (by rw [hdi, show 100 - i = (99 - i) + 1 by omega, show 100 - (i + 1) = 99 - i by omega]; rw [hxa] at c_26; exact if_neg (of_decide_eq_false c_26)) (scC_trans hsa (scC_D hj7 hfd35)) (CW_day (B := B + i) (k := 1) (by decide) hca hfd35 hx35 (by omega)) (by rw [hx35, hxa]; rfl) (by omega) _ _ h ls (lv_sub hl [1, 0] rfl)
        · skip
          rw [hr23, bI_n] at c_26
          refine lv_iload_n hx hb dX7_dies_29 rfl (lv_at hl 1 rfl) ?_
          exact g_iret X h dX7_dies_30 ⟨by rw [hdi, show 100 - i = (99 - i) + 1 by omega]; rw [hxa] at c_26; exact ((if_pos (of_decide_eq_true c_26)).trans hi1.symm).symm, rfl, hsa⟩
  exact L13 (100 - 0 + 1) 0 0 v8 rfl (by omega) rfl hs8 hc8 hX8 (Nat.lt_succ_self _) _ _ h ls (lv_sub hl [1, 0] rfl)

set_option maxRecDepth 100000 in
set_option maxHeartbeats 1000000 in
theorem c_X7_worst (gl : Launch) (Z : PL) (v : VV) (w : WV) (x0 : Int32) (x1 : Int32) (n : Nat) (B : Nat) (j : Nat) (L : LND) (hcn : CN v n B j L) (hB61 : B + 61 < 1000000) : CT gl yX7_worst cX7_worst 6 (some .int) 4 102 Z [.ref (zg Z 0), .int x0, .int x1] v w (Qi Z (fun r u => r = sWorst (xC v 51 n) L n x0 x1 ∧ (u.1, w) = u ∧ scC v u.1)) := by
  refine g_met (by decide) (Nat.le_of_ble_eq_true rfl) ?_
  intro gp ge gs gm ga gb gh gc X h ls hl
  have hx := X.1
  have hb := X.2.1
  have hl : lv_has ls 6 [(0, .ref (zg Z 0)), (1, .int x0), (2, .int x1)] := hl
  obtain ⟨hn, h6, hj7, hland, hst, hrx, hB⟩ := CN.f hcn
  refine lv_iload_n hx hb dX7_worst_0 rfl (lv_at hl 2 rfl) ?_
  refine lv_iconst (v := 0) hx hb dX7_worst_1 (by decide) ?_
  refine lv_iconst (v := 1) hx hb dX7_worst_2 (by decide) ?_
  refine g_ki h (g_runS X h (As := [.int x1, .int 0, .int 1]) (rest := []) (c_X7_isWithin gl Z v w x1 0 1) ms_X7_isWithin ml_RX7_58 ⟨Nat.le_of_ble_eq_true rfl, Nat.le_of_ble_eq_true rfl⟩ rfl hl.1 rfl (Nat.le_of_ble_eq_true rfl) dX7_worst_3) (fun r3 v3 w3 H locs hp3 h => ?_)
  obtain ⟨hr3, hu3⟩ := hp3; obtain ⟨rfl, rfl⟩ := Prod.mk.inj hu3
  refine lv_if_ne (tgt := 11) hx hb dX7_worst_6 (by decide) (fun c_6 => ?_) (fun c_6 => ?_)
  · skip
    rw [hr3, bI_n] at c_6
    refine lv_iload_n hx hb dX7_worst_11 rfl (lv_at hl 1 rfl) ?_
    refine lv_iconst (v := 0) hx hb dX7_worst_12 (by decide) ?_
    refine lv_bipush (v := 60) hx hb dX7_worst_13 (by decide) ?_
    refine g_ki h (g_runS X h (As := [.int x0, .int 0, .int 60]) (rest := []) (c_X7_isWithin gl Z v w x0 0 60) ms_X7_isWithin ml_RX7_58 ⟨Nat.le_of_ble_eq_true rfl, Nat.le_of_ble_eq_true rfl⟩ rfl hl.1 rfl (Nat.le_of_ble_eq_true rfl) dX7_worst_15) (fun r15 v15 w15 H locs hp15 h => ?_)
    obtain ⟨hr15, hu15⟩ := hp15; obtain ⟨rfl, rfl⟩ := Prod.mk.inj hu15
    refine lv_if_ne (tgt := 24) hx hb dX7_worst_18 (by decide) (fun c_18 => ?_) (fun c_18 => ?_)
    · skip
      rw [hr15, bI_n] at c_18
      obtain ⟨k, hk, hk0, hk60, hkc⟩ := inR_nat (a := 0) (b := 60) rfl rfl (by decide) c_18
      refine lv_aload_n hx hb dX7_worst_24 rfl (lv_at hl 0 rfl) ?_
      refine g_getr X h (k := 2) (t := 70) (cc_0) fr_RX7_27 rfl (by decide) (by decide) (by decide) dX7_worst_25 ?_
      refine lv_aload_n hx hb dX7_worst_28 rfl (lv_at hl 0 rfl) ?_
      refine g_getr X h (k := 1) (t := 51) (cc_0) fr_RX7_23 rfl (by decide) (by decide) (by decide) dX7_worst_29 ?_
      refine g_kv h (g_runV X h (As := [.ref (zg Z 51)]) (rest := []) (c_X6_startAs gl Z v w 70 isW1 51 isW0 (by decide) n j h6 hj7 (CN.f hcn).2.2.2.1 (CN.f hcn).2.2.2.2.1) mi_X6_startAs ml_RX7_169 (cc_70) (by decide) kl6 rfl ⟨Nat.le_of_ble_eq_true rfl, Nat.le_of_ble_eq_true rfl⟩ rfl hl.1 rfl (Nat.le_of_ble_eq_true rfl) dX7_worst_32) (fun v32 w32 H locs hp32 h => ?_)
      obtain ⟨hx32, hw32, hl632, hft32, hsw32⟩ := hp32
      obtain ⟨-, rfl⟩ := Prod.mk.inj hw32
      replace hx32 : xC v32 _ _ = _ := hx32
      replace hl632 : v32 _ 6 = _ := hl632
      replace hft32 : frT _ v32 _ := hft32
      replace hsw32 : stW v32 _ _ := hsw32
      obtain ⟨hs32, hc32, hX32⟩ := TC_start (scC_refl v) hcn hx32 hl632 hft32
      refine lv_aload_n hx hb dX7_worst_35 rfl (lv_at hl 0 rfl) ?_
      refine g_getr X h (k := 2) (t := 70) (cc_0) fr_RX7_27 rfl (by decide) (by decide) (by decide) dX7_worst_36 ?_
      refine g_geti X h (k := 1) (cc_70) fr_RX7_117 rfl (by decide) dX7_worst_39 ?_
      refine lv_topi (fun x3_42 ex3_42 => ?_)
      refine lv_istore_n (lv' := [(3, .int x3_42), (0, .ref (zg Z 0)), (1, .int x0), (2, .int x1)]) hx hb dX7_worst_42 rfl hl (by decide) rfl (fun ls hl => ?_)
      refine lv_iconst (v := 0) hx hb dX7_worst_43 (by decide) ?_
      refine lv_istore (lv' := [(4, .int 0), (3, .int x3_42), (0, .ref (zg Z 0)), (1, .int x0), (2, .int x1)]) hx hb dX7_worst_44 hl (by decide) rfl (fun ls hl => ?_)
      refine lv_iconst (v := 1) hx hb dX7_worst_46 (by decide) ?_
      refine lv_istore (lv' := [(5, .int 1), (4, .int 0), (3, .int x3_42), (0, .ref (zg Z 0)), (1, .int x0), (2, .int x1)]) hx hb dX7_worst_47 hl (by decide) rfl (fun ls hl => ?_)
      have L49 : ∀ (n49 : Nat) (i : Nat) (x3 x4 x5 : Int32) (va : VV), (x5 = nI i) → (1 ≤ i) → (i ≤ k + 1) → ((x3, x4) = worstF (xC v 51 n) L n (i - 1)) → (scC v va) → (CW va 70 n (B + (i - 1)) j L) → (xC va 70 n = daysS (xC v 51 n) L n (i - 1)) → k + 1 - i < n49 → ∀ (H : Heap) (locs : List Loc), HS Z gs va w H locs → ∀ ls : Array Slot, lv_has ls 6 [(0, .ref (zg Z 0)), (1, .int x0), (2, .int x1), (3, .int x3), (4, .int x4), (5, .int x5)] → W gp gl ge (rmm 4 102) gs gm ga gb gh gc H locs 0 0 (MQ gb (Qi Z (fun r u => r = sWorst (xC v 51 n) L n x0 x1 ∧ (u.1, w) = u ∧ scC v u.1)) ga gs 0 0 (zA Z)) (F0 gm 49 ls []) := by
        intro n49
        induction n49 with
        | zero => intro i x3 x4 x5 va hi5 hi1 hi hwo hsa hca hxa hmu; exact absurd hmu (Nat.not_lt_zero _)
        | succ n49 ih49 =>
          intro i x3 x4 x5 va hi5 hi1 hi hwo hsa hca hxa hmu49 H locs h ls hl
          refine lv_iload hx hb dX7_worst_49 (lv_at hl 5 rfl) ?_
          refine lv_iload_n hx hb dX7_worst_51 rfl (lv_at hl 1 rfl) ?_
          refine lv_icmp_gt (tgt := 91) hx hb dX7_worst_52 (by decide) (fun c_52 => ?_) (fun c_52 => ?_)
          · skip
            have hik := nI_lt1 (a := k) (b := i) hk hi5 (by omega) (by omega) c_52
            refine lv_iload_n hx hb dX7_worst_91 rfl (lv_at hl 2 rfl) ?_
            refine lv_if_ne (tgt := 99) hx hb dX7_worst_92 (by decide) (fun c_92 => ?_) (fun c_92 => ?_)
            · skip
              refine lv_iload hx hb dX7_worst_99 (lv_at hl 4 rfl) ?_
              exact g_iret X h dX7_worst_101 ⟨by rw [sWorst, if_pos c_6, if_pos c_18, hkc, if_neg c_92, show k = i - 1 by omega, ← hwo], rfl, hsa⟩
            · skip
              refine lv_iload_n hx hb dX7_worst_95 rfl (lv_at hl 3 rfl) ?_
              refine lv_goto (tgt := 101) hx hb dX7_worst_96 (by decide) ?_
              exact g_iret X h dX7_worst_101 ⟨by rw [sWorst, if_pos c_6, if_pos c_18, hkc, if_pos c_92, show k = i - 1 by omega, ← hwo], rfl, hsa⟩
          · skip
            have hik := nI_lt0 (a := k) (b := i) hk hi5 (by omega) (by omega) c_52
            refine lv_aload_n hx hb dX7_worst_55 rfl (lv_at hl 0 rfl) ?_
            refine g_getr X h (k := 2) (t := 70) (cc_0) fr_RX7_27 rfl (by decide) (by decide) (by decide) dX7_worst_56 ?_
            refine g_kv h (g_runV X h (As := []) (rest := []) (c_X6_goDay gl Z va w 70 isW1 n (B + (i - 1)) j L hca) mi_X6_goDay ml_RX7_173 (cc_70) (by decide) kl6 rfl ⟨Nat.le_of_ble_eq_true rfl, Nat.le_of_ble_eq_true rfl⟩ rfl hl.1 rfl (Nat.le_of_ble_eq_true rfl) dX7_worst_59) (fun v59 w59 H locs hp59 h => ?_)
            obtain ⟨hx59, hw59, hfd59⟩ := hp59
            obtain ⟨-, rfl⟩ := Prod.mk.inj hw59
            replace hx59 : xC v59 _ _ = _ := hx59
            replace hfd59 : frD _ v59 _ _ := hfd59
            have hxb : xC v59 70 n = daysS (xC v 51 n) L n (i - 1 + 1) := by rw [hx59, hxa]; rfl
            refine lv_aload_n hx hb dX7_worst_62 rfl (lv_at hl 0 rfl) ?_
            refine g_getr X h (k := 2) (t := 70) (cc_0) fr_RX7_27 rfl (by decide) (by decide) (by decide) dX7_worst_63 ?_
            refine g_geti X h (k := 1) (cc_70) fr_RX7_117 rfl (by decide) dX7_worst_66 ?_
            refine lv_iload_n hx hb dX7_worst_69 rfl (lv_at hl 3 rfl) ?_
            refine lv_icmp_ge (tgt := 85) hx hb dX7_worst_70 (by decide) (fun c_70 => ?_) (fun c_70 => ?_)
            · skip
              refine lv_iinc (v := (x5 + 1)) (lv' := [(5, .int (x5 + 1)), (0, .ref (zg Z 0)), (1, .int x0), (2, .int x1), (3, .int x3), (4, .int x4)]) hx hb dX7_worst_85 hl (k := 5) rfl rfl (by decide) rfl (fun ls hl => ?_)
              refine lv_goto (tgt := 49) hx hb dX7_worst_88 (by decide) ?_
              exact ih49 (i + 1) x3 x4 (x5 + 1) v59 (by rw [hi5]; exact nI_1 _) (by omega) (by omega) (worst_s hi1 hwo (show v59 70 1 = _ from (congrFun (congrFun hxb 0) 1)) hi5 (Or.inl ⟨c_70, rfl, rfl⟩)) (scC_trans hsa (scC_D hj7 hfd59)) (by have z := CW_day (k := 1) (by decide) hca hfd59 hx59 (by omega); rw [show B + (i - 1) + 1 = B + (i + 1 - 1) by omega] at z; exact z) (by rw [show i + 1 - 1 = (i - 1) + 1 by omega]; exact hxb) (by omega) _ _ h ls (lv_sub hl [1, 2, 3, 4, 5, 0] rfl)
            · skip
              refine lv_aload_n hx hb dX7_worst_73 rfl (lv_at hl 0 rfl) ?_
              refine g_getr X h (k := 2) (t := 70) (cc_0) fr_RX7_27 rfl (by decide) (by decide) (by decide) dX7_worst_74 ?_
              refine g_geti X h (k := 1) (cc_70) fr_RX7_117 rfl (by decide) dX7_worst_77 ?_
              refine lv_topi (fun x3_80 ex3_80 => ?_)
              refine lv_istore_n (lv' := [(3, .int x3_80), (0, .ref (zg Z 0)), (1, .int x0), (2, .int x1), (4, .int x4), (5, .int x5)]) hx hb dX7_worst_80 rfl hl (by decide) rfl (fun ls hl => ?_)
              refine lv_iload hx hb dX7_worst_81 (lv_at hl 5 rfl) ?_
              refine lv_istore (lv' := [(4, .int x5), (3, .int x3_80), (0, .ref (zg Z 0)), (1, .int x0), (2, .int x1), (5, .int x5)]) hx hb dX7_worst_83 hl (by decide) rfl (fun ls hl => ?_)
              refine lv_iinc (v := (x5 + 1)) (lv' := [(5, .int (x5 + 1)), (4, .int x5), (3, .int x3_80), (0, .ref (zg Z 0)), (1, .int x0), (2, .int x1)]) hx hb dX7_worst_85 hl (k := 5) rfl rfl (by decide) rfl (fun ls hl => ?_)
              refine lv_goto (tgt := 49) hx hb dX7_worst_88 (by decide) ?_
              exact ih49 (i + 1) x3_80 x5 (x5 + 1) v59 (by rw [hi5]; exact nI_1 _) (by omega) (by omega) (worst_s hi1 hwo (show v59 70 1 = _ from (congrFun (congrFun hxb 0) 1)) hi5 (Or.inr ⟨c_70, ex3_80, rfl⟩)) (scC_trans hsa (scC_D hj7 hfd59)) (by have z := CW_day (k := 1) (by decide) hca hfd59 hx59 (by omega); rw [show B + (i - 1) + 1 = B + (i + 1 - 1) by omega] at z; exact z) (by rw [show i + 1 - 1 = (i - 1) + 1 by omega]; exact hxb) (by omega) _ _ h ls (lv_sub hl [3, 4, 5, 2, 1, 0] rfl)
      exact L49 (k + 1 - 1 + 1) 1 x3_42 0 1 v32 rfl (by omega) (by omega) (by rw [show x3_42 = xC v32 70 n 0 1 from ex3_42, hX32]; rfl) hs32 hc32 hX32 (Nat.lt_succ_self _) _ _ h ls (lv_sub hl [3, 4, 5, 2, 1, 0] rfl)
    · skip
      rw [hr15, bI_0] at c_18
      refine lv_bipush (v := (-2)) hx hb dX7_worst_21 (by decide) ?_
      exact g_iret X h dX7_worst_23 ⟨by simp [sWorst, c_6, c_18], rfl, scC_refl v⟩
  · skip
    rw [hr3, bI_0] at c_6
    refine lv_iconst (v := (-1)) hx hb dX7_worst_9 (by decide) ?_
    exact g_iret X h dX7_worst_10 ⟨by simp [sWorst, c_6], rfl, scC_refl v⟩
