theorem curM_ne {v : VV} {L : LND} (h : curM v L) (h1 : ¬ v 116 15 = -1) : ∃ j, j < 6 ∧ v 116 15 = nI j ∧ repM v j L := by
  rcases h with h | h
  · exact absurd h.1 h1
  · exact h
theorem curM_eq {v : VV} {L : LND} (h : curM v L) (h1 : v 116 15 = -1) : L = [] := by
  rcases h with h | ⟨j, hj, h2, -⟩
  · exact h.2
  · exfalso
    rw [h1] at h2
    have := congrArg Int32.toInt h2
    rw [nI_toInt (by omega)] at this
    have e : (-1 : Int32).toInt = -1 := by decide
    omega
theorem st_push {h t : Nat} {b : Nat → Bool} {s : Nat × (Nat → Bool)} {g : Nat → Int32} {x : Int32} (hst : ∀ j, j < h → g j = bI (s.2 j)) (hs : s.1 = h) (ht : 3 ≤ t) (hx : x = bI (b (t - 3))) : ∀ j, j < hstep t h → upd g h x j = bI ((mstep b t s).2 j) := by
  intro j hj
  rw [hstep, if_pos ht] at hj
  rw [mstep, if_pos ht, hs]
  by_cases e : j = h
  · subst e; simp [upd, updB, hx]
  · simp only [upd, updB, if_neg e]
    exact hst j (by omega)
theorem st_not {h t : Nat} {b : Nat → Bool} {s : Nat × (Nat → Bool)} {g : Nat → Int32} {x : Int32} (hst : ∀ j, j < h → g j = bI (s.2 j)) (hs : s.1 = h) (ht : t = 2) (h1 : 1 ≤ h) (hx : x = bI (!s.2 (h - 1))) : ∀ j, j < hstep t h → upd g (h - 1) x j = bI ((mstep b t s).2 j) := by
  intro j hj
  subst ht
  have hj2 : j < h := by simpa [hstep] using hj
  simp only [mstep, hs]
  by_cases e : j = h - 1
  · subst e; simp [upd, updB, hx]
  · simp only [upd, if_neg e]
    rw [hst j hj2]
    simp [updB, e]
theorem st_bin {h t : Nat} {b : Nat → Bool} {s : Nat × (Nat → Bool)} {g : Nat → Int32} {x : Int32} (hst : ∀ j, j < h → g j = bI (s.2 j)) (hs : s.1 = h) (ht : t < 2) (h1 : 2 ≤ h) (hx : x = bI (if t = 0 then s.2 (h - 2) && s.2 (h - 1) else s.2 (h - 2) || s.2 (h - 1))) : ∀ j, j < hstep t h → upd g (h - 2) x j = bI ((mstep b t s).2 j) := by
  intro j hj
  have h3 : ¬ 3 ≤ t := by omega
  have h2 : ¬ t = 2 := by omega
  rw [hstep, if_neg h3, if_neg h2] at hj
  rw [mstep, if_neg h3, if_neg h2, hs]
  by_cases e : j = h - 2
  · subst e; simp only [upd, updB, if_pos]; exact hx
  · simp only [upd, updB, if_neg e]
    exact hst j (by omega)
theorem vz1 : vp_nar .boolean 1 = 1 := by decide
theorem vz0 : vp_nar .boolean 0 = 0 := by decide
theorem nI_sub3 {t : Nat} (h : 3 ≤ t) : nI t - 3 = nI (t - 3) := pk_sub h
theorem nI_d300 {t : Nat} (h : t < 2 ^ 31) : nI t / 300 = nI (t / 300) := pk_div h (by decide) (by decide)
theorem nI_d100 {t : Nat} (h : t < 2 ^ 31) : nI t / 100 = nI (t / 100) := pk_div h (by decide) (by decide)
theorem nI_m100 {t : Nat} (h : t < 2 ^ 31) : nI t - nI t / 100 * 100 = nI (t % 100) := pk_rem (d := 100) h (by decide) (by decide)
theorem nI_m3 {t : Nat} (h : t < 2 ^ 31) : nI t - nI t / 3 * 3 = nI (t % 3) := pk_rem (d := 3) h (by decide) (by decide)
theorem nI_lt1 {a b : Nat} {x y : Int32} (hx : x = nI a) (hy : y = nI b) (ha : a < 2 ^ 31) (hb : b < 2 ^ 31) (h : x < y) : a < b := (nI_ltI ha hb).mp (by rw [← hx, ← hy]; exact h)
theorem nI_lt0 {a b : Nat} {x y : Int32} (hx : x = nI a) (hy : y = nI b) (ha : a < 2 ^ 31) (hb : b < 2 ^ 31) (h : ¬ x < y) : b ≤ a := by
  rcases Nat.lt_or_ge a b with q | q
  · exact absurd (by rw [hx, hy]; exact nI_lt q hb) h
  · exact q
theorem nI_le1 {a b : Nat} {x y : Int32} (hx : x = nI a) (hy : y = nI b) (ha : a < 2 ^ 31) (hb : b < 2 ^ 31) (h : x ≤ y) : a ≤ b := (nI_leI ha hb).mp (by rw [← hx, ← hy]; exact h)
theorem nI_le0 {a b : Nat} {x y : Int32} (hx : x = nI a) (hy : y = nI b) (ha : a < 2 ^ 31) (hb : b < 2 ^ 31) (h : ¬ x ≤ y) : b < a := by
  rcases Nat.lt_or_ge b a with q | q
  · exact q
  · exact absurd (by rw [hx, hy]; exact nI_le q hb) h
theorem nI_eq1 {a b : Nat} {x y : Int32} (hx : x = nI a) (hy : y = nI b) (ha : a < 2 ^ 31) (hb : b < 2 ^ 31) (h : x = y) : a = b := nI_inj ha hb (by rw [← hx, ← hy]; exact h)
theorem nI_eq0 {a b : Nat} {x y : Int32} (hx : x = nI a) (hy : y = nI b) (h : ¬ x = y) : a ≠ b := fun e => h (by rw [hx, hy, e])
theorem getD_of {α : Type} {l : List α} {d : α} {k : Nat} (h : l = []) : l.length = 0 ∧ l.getD k d = d := by subst h; exact ⟨rfl, rfl⟩
theorem hrun_le {tk : List Nat} {T : Nat → Nat} {k : Nat} (hw : ∀ k, k < tk.length → tk.getD k 0 < 1803 ∧ (3 ≤ tk.getD k 0 → hrun (fun k => tk.getD k 0) k < 11) ∧ (tk.getD k 0 = 2 → 1 ≤ hrun (fun k => tk.getD k 0) k) ∧ (tk.getD k 0 < 2 → 2 ≤ hrun (fun k => tk.getD k 0) k)) (hT : T = fun k => tk.getD k 0) (hk : k ≤ tk.length) : hrun T k < 12 := by
  subst hT
  induction k with
  | zero => simp [hrun]
  | succ k ih =>
    have h1 := hw k hk
    have h2 := ih (by omega)
    simp only [hrun, hstep]
    split
    · have := h1.2.1 (by assumption); omega
    · split <;> omega
theorem binx {h : Nat} (h2 : 2 ≤ h) : nI h + (-1) - 1 = nI (h - 2) := by
  rw [sb_m1 (by omega)]
  exact pk_sub (a := h - 1) (b := 1) (by omega)
theorem u131 (v : VV) (f : Nat → Int32) (j : Nat) (h : j ≠ 131) : upc v 131 f j = v j := upc_ne h
theorem RX_day {n B : Nat} {X : VV} (h : RX n B X) (hB : B < 1000000) : ∃ d : Nat, X 0 3 = nI d ∧ d ≤ B ∧ X 0 3 - X 0 3 / 4 * 4 = nI (d % 4) := by
  obtain ⟨d, e, hd, h31⟩ := i_nat h.2.2.2.1.1
  have := h.2.2.2.1.2
  refine ⟨d, e, by omega, ?_⟩
  rw [e]
  exact pk_rem (d := 4) (by omega) (by decide) (by decide)
theorem v2_ne {x : Int32} (h : 0 ≤ x.toInt ∧ x.toInt ≤ 9) : ¬ x + 2 = 0 := by
  intro q
  obtain ⟨k, e, hk, -⟩ := i_nat h.1
  rw [e, show (2 : Int32) = nI 2 from rfl, nI_add] at q
  have := nI_inj (b := 0) (by omega) (by omega) q
  omega
set_option maxRecDepth 100000 in
set_option maxHeartbeats 1000000 in
theorem c_X8_letterOf (gl : Launch) (Z : PL) (v : VV) (w : WV) (x0 : Int32) (p : Nat) (hp : x0 = nI p) (x1 : Int32) (lt : Nat) (hlt : x1 = nI lt) (n : Nat) (B : Nat) (L : LND) (hd : DM v n B L) (hpn : p < n) (hlt5 : lt ≤ 5) : CT gl yX8_letterOf cX8_letterOf 3 (some .int) 0 0 Z [.ref (zg Z 116), .int x0, .int x1] v w (Qi Z (fun r u => r = lettS (xM v n L) p lt ∧ (v, w) = u)) := by
  refine g_met (by decide) (Nat.le_of_ble_eq_true rfl) ?_
  intro gp ge gs gm ga gb gh gc X h ls hl
  have hx := X.1
  have hb := X.2.1
  have hl : lv_has ls 3 [(0, .ref (zg Z 116)), (1, .int x0), (2, .int x1)] := hl
  obtain ⟨hn, h6, hwf, hcur, hrx, hB⟩ := id hd
  refine lv_iload_n hx hb dX8_letterOf_0 rfl (lv_at hl 2 rfl) ?_
  by_cases t1_0 : x1 = 0
  · refine lv_tableIn (off := 35) (tgt := 36) hx hb dX8_letterOf_1 (by rw [t1_0]; decide) (by rw [t1_0]; decide) (by rw [t1_0]; rfl) (by decide) ?_
    refine lv_iload_n hx hb dX8_letterOf_36 rfl (lv_at hl 1 rfl) ?_
    exact g_iret X h dX8_letterOf_37 ⟨by rw [hp, lettS, if_pos (nI_eq1 (b := 0) hlt rfl (by omega) (by omega) t1_0)], rfl⟩
  · skip
    by_cases t1_1 : x1 = 1
    · refine lv_tableIn (off := 37) (tgt := 38) hx hb dX8_letterOf_1 (by rw [t1_1]; decide) (by rw [t1_1]; decide) (by rw [t1_1]; rfl) (by decide) ?_
      refine lv_aload_n hx hb dX8_letterOf_38 rfl (lv_at hl 0 rfl) ?_
      refine g_getr X h (k := 1) (t := 117) (cc_116) fr_RX8_9 rfl (by decide) (by decide) (by decide) dX8_letterOf_39 ?_
      refine lv_iload_n hx hb dX8_letterOf_42 rfl (lv_at hl 1 rfl) ?_
      refine g_iald X h (k := p) (cc_117) hp (by omega) (by decide) dX8_letterOf_43 ?_
      exact g_iret X h dX8_letterOf_44 (by have e := nI_eq1 (b := 1) hlt rfl (by omega) (by omega) t1_1; subst e; exact ⟨by simp [lettS, xM_kd hpn], rfl⟩)
    · skip
      by_cases t1_2 : x1 = 2
      · refine lv_tableIn (off := 44) (tgt := 45) hx hb dX8_letterOf_1 (by rw [t1_2]; decide) (by rw [t1_2]; decide) (by rw [t1_2]; rfl) (by decide) ?_
        refine lv_aload_n hx hb dX8_letterOf_45 rfl (lv_at hl 0 rfl) ?_
        refine g_getr X h (k := 2) (t := 118) (cc_116) fr_RX8_15 rfl (by decide) (by decide) (by decide) dX8_letterOf_46 ?_
        refine lv_iload_n hx hb dX8_letterOf_49 rfl (lv_at hl 1 rfl) ?_
        refine g_iald X h (k := p) (cc_118) hp (by omega) (by decide) dX8_letterOf_50 ?_
        exact g_iret X h dX8_letterOf_51 (by have e := nI_eq1 (b := 2) hlt rfl (by omega) (by omega) t1_2; subst e; exact ⟨by simp [lettS, xM_v (show p < 6 by omega)], rfl⟩)
      · skip
        by_cases t1_3 : x1 = 3
        · refine lv_tableIn (off := 51) (tgt := 52) hx hb dX8_letterOf_1 (by rw [t1_3]; decide) (by rw [t1_3]; decide) (by rw [t1_3]; rfl) (by decide) ?_
          refine lv_aload_n hx hb dX8_letterOf_52 rfl (lv_at hl 0 rfl) ?_
          refine g_getr X h (k := 3) (t := 119) (cc_116) fr_RX8_18 rfl (by decide) (by decide) (by decide) dX8_letterOf_53 ?_
          refine lv_iload_n hx hb dX8_letterOf_56 rfl (lv_at hl 1 rfl) ?_
          refine g_iald X h (k := p) (cc_119) hp (by omega) (by decide) dX8_letterOf_57 ?_
          refine lv_bipush (v := 10) hx hb dX8_letterOf_58 (by decide) ?_
          refine lv_idiv hx hb dX8_letterOf_60 (by decide) ?_
          exact g_iret X h dX8_letterOf_61 (by have e := nI_eq1 (b := 3) hlt rfl (by omega) (by omega) t1_3; subst e; exact ⟨by simp [lettS, xM_th (show p < 6 by omega)], rfl⟩)
        · skip
          by_cases t1_4 : x1 = 4
          · refine lv_tableIn (off := 61) (tgt := 62) hx hb dX8_letterOf_1 (by rw [t1_4]; decide) (by rw [t1_4]; decide) (by rw [t1_4]; rfl) (by decide) ?_
            refine lv_aload_n hx hb dX8_letterOf_62 rfl (lv_at hl 0 rfl) ?_
            refine g_geti X h (k := 8) (cc_116) fr_RX8_136 rfl (by decide) dX8_letterOf_63 ?_
            refine lv_bipush (v := 10) hx hb dX8_letterOf_66 (by decide) ?_
            refine lv_idiv hx hb dX8_letterOf_68 (by decide) ?_
            exact g_iret X h dX8_letterOf_69 (by have e := nI_eq1 (b := 4) hlt rfl (by omega) (by omega) t1_4; subst e; exact ⟨by simp [lettS, xM_02], rfl⟩)
          · skip
            have q0 := lv_neT t1_0 (a := 0) (by decide)
            have q1 := lv_neT t1_1 (a := 1) (by decide)
            have q2 := lv_neT t1_2 (a := 2) (by decide)
            have q3 := lv_neT t1_3 (a := 3) (by decide)
            have q4 := lv_neT t1_4 (a := 4) (by decide)
            refine lv_tableOut (tgt := 70) hx hb dX8_letterOf_1 (by omega) (by decide) ?_
            refine lv_aload_n hx hb dX8_letterOf_70 rfl (lv_at hl 0 rfl) ?_
            refine g_geti X h (k := 11) (cc_116) fr_RX8_224 rfl (by decide) dX8_letterOf_71 ?_
            refine lv_bipush (v := 10) hx hb dX8_letterOf_74 (by decide) ?_
            refine lv_irem hx hb dX8_letterOf_76 (by decide) ?_
            exact g_iret X h dX8_letterOf_77 (by have e0 := nI_eq0 (b := 0) hlt rfl t1_0; have e1 := nI_eq0 (b := 1) hlt rfl t1_1; have e2 := nI_eq0 (b := 2) hlt rfl t1_2; have e3 := nI_eq0 (b := 3) hlt rfl t1_3; have e4 := nI_eq0 (b := 4) hlt rfl t1_4; exact ⟨by simp [lettS, e0, e1, e2, e3, e4, xM_03, imod], rfl⟩)

set_option maxRecDepth 100000 in
set_option maxHeartbeats 1000000 in
theorem c_X8_isTrue (gl : Launch) (Z : PL) (v : VV) (w : WV) (x0 : Int32) (p : Nat) (hp : x0 = nI p) (x1 : Int32) (c : Nat) (hc : x1 = nI c) (n : Nat) (B : Nat) (L : LND) (hd : DM v n B L) (hpn : p < n) (hc60 : c < 60) (tk : List Nat) (o : Nat) (hb8 : v 128 c = nI o) (hl9 : v 129 c = nI tk.length) (ho : o + tk.length ≤ 1000) (hcd : ∀ k, k < tk.length → v 130 (o + k) = nI (tk.getD k 0)) (hwt : wft tk) : CT gl yX8_isTrue cX8_isTrue 9 (some .boolean) 1 22 Z [.ref (zg Z 116), .int x0, .int x1] v w (Qi Z (fun r u => r = bI (hldS (xM v n L) p tk) ∧ ∃ f, (upc v 131 f, w) = u)) := by
  refine g_met (by decide) (Nat.le_of_ble_eq_true rfl) ?_
  intro gp ge gs gm ga gb gh gc X h ls hl
  have hx := X.1
  have hb := X.2.1
  have hl : lv_has ls 9 [(0, .ref (zg Z 116)), (1, .int x0), (2, .int x1)] := hl
  obtain ⟨hn, h6, hwf, hcur, hrx, hB⟩ := id hd
  obtain ⟨XX, hX⟩ : ∃ Y : VV, Y = xM v n L := ⟨_, rfl⟩
  obtain ⟨T, hT⟩ : ∃ Y : Nat → Nat, Y = fun k => tk.getD k 0 := ⟨_, rfl⟩
  obtain ⟨hw1, hw2⟩ := id hwt
  refine lv_iconst (v := 0) hx hb dX8_isTrue_0 (by decide) ?_
  refine lv_istore_n (lv' := [(3, .int 0), (0, .ref (zg Z 116)), (1, .int x0), (2, .int x1)]) hx hb dX8_isTrue_1 rfl hl (by decide) rfl (fun ls hl => ?_)
  refine lv_aload_n hx hb dX8_isTrue_2 rfl (lv_at hl 1 rfl) ?_
  refine g_getr X h (k := 19) (t := 128) (cc_116) fr_RX8_45 rfl (by decide) (by decide) (by decide) dX8_isTrue_3 ?_
  refine lv_iload_n hx hb dX8_isTrue_6 rfl (lv_at hl 3 rfl) ?_
  refine g_iald X h (k := c) (cc_128) hc (by omega) (by decide) dX8_isTrue_7 ?_
  refine lv_topi (fun x4_8 ex4_8 => ?_)
  refine lv_istore (lv' := [(4, .int x4_8), (3, .int 0), (0, .ref (zg Z 116)), (1, .int x0), (2, .int x1)]) hx hb dX8_isTrue_8 hl (by decide) rfl (fun ls hl => ?_)
  have L10 : ∀ (n10 : Nat) (k : Nat) (x3 x4 : Int32) (f : Nat → Int32) (va : VV), (x4 = nI (o + k)) → (x3 = nI (hrun T k)) → (k ≤ tk.length) → (va = upc v 131 f) → (∀ j, j < hrun T k → va 131 j = bI ((mrun (tstS XX p) T k).2 j)) → tk.length - k < n10 → ∀ (H : Heap) (locs : List Loc), HS Z gs va w H locs → ∀ ls : Array Slot, lv_has ls 9 [(0, .ref (zg Z 116)), (1, .int x0), (2, .int x1), (3, .int x3), (4, .int x4)] → W gp gl ge (rmm 1 22) gs gm ga gb gh gc H locs 0 0 (MQ gb (Qi Z (fun r u => r = bI (hldS (xM v n L) p tk) ∧ ∃ f, (upc v 131 f, w) = u)) ga gs 0 0 (zA Z)) (F0 gm 10 ls []) := by
    intro n10
    induction n10 with
    | zero => intro k x3 x4 f va hx4 hx3 hk hva hst hmu; exact absurd hmu (Nat.not_lt_zero _)
    | succ n10 ih10 =>
      intro k x3 x4 f va hx4 hx3 hk hva hst hmu10 H locs h ls hl
      refine lv_iload hx hb dX8_isTrue_10 (lv_at hl 4 rfl) ?_
      refine lv_aload_n hx hb dX8_isTrue_12 rfl (lv_at hl 0 rfl) ?_
      refine g_getr X h (k := 19) (t := 128) (cc_116) fr_RX8_45 rfl (by decide) (by decide) (by decide) dX8_isTrue_13 ?_
      refine lv_iload_n hx hb dX8_isTrue_16 rfl (lv_at hl 2 rfl) ?_
      refine g_iald X h (k := c) (cc_128) hc (by omega) (by decide) dX8_isTrue_17 ?_
      refine g_tr (y := (v 128 c)) (by simp [hva, up2, upc]) ?_
      refine lv_aload_n hx hb dX8_isTrue_18 rfl (lv_at hl 0 rfl) ?_
      refine g_getr X h (k := 20) (t := 129) (cc_116) fr_RX8_48 rfl (by decide) (by decide) (by decide) dX8_isTrue_19 ?_
      refine lv_iload_n hx hb dX8_isTrue_22 rfl (lv_at hl 2 rfl) ?_
      refine g_iald X h (k := c) (cc_129) hc (by omega) (by decide) dX8_isTrue_23 ?_
      refine g_tr (y := (v 129 c)) (by simp [hva, up2, upc]) ?_
      refine lv_iadd hx hb dX8_isTrue_24 ?_
      refine lv_icmp_ge (tgt := 251) hx hb dX8_isTrue_25 (by decide) (fun c_25 => ?_) (fun c_25 => ?_)
      · skip
        have hkl : k = tk.length := by
          have z := nI_le1 (a := (o + tk.length)) (b := (o + k)) (by rw [hb8, hl9]; exact nI_add _ _) hx4 (by omega) (by omega) c_25
          omega
        refine lv_aload_n hx hb dX8_isTrue_251 rfl (lv_at hl 0 rfl) ?_
        refine g_getr X h (k := 27) (t := 131) (cc_116) fr_RX8_54 rfl (by decide) (by decide) (by decide) dX8_isTrue_252 ?_
        refine lv_iconst (v := 0) hx hb dX8_isTrue_255 (by decide) ?_
        refine g_zald X h (k := 0) (cc_131) rfl (by omega) (by decide) dX8_isTrue_256 ?_
        exact g_nret X h dX8_isTrue_257 (by rw [hva] at hst ⊢; subst hkl; rw [hst 0 (by rw [hT, hw1]; omega)]; exact nar_bI _) (by refine ⟨?_, f, by rw [hva]⟩; subst hkl; rw [hst 0 (by rw [hT, hw1]; omega), hX, hT]; rfl)
      · skip
        have hkl := nI_le0 (a := (o + tk.length)) (b := (o + k)) (by rw [hb8, hl9]; exact nI_add _ _) hx4 (by omega) (by omega) c_25
        have hkl : k < tk.length := by omega
        obtain ⟨hq1, hq2, hq3, hq4⟩ := hw2 k hkl
        have hTk : T k = tk.getD k 0 := by rw [hT]
        rw [← hT] at hq2 hq3 hq4
        rw [← hTk] at hq1 hq2 hq3 hq4
        refine lv_aload_n hx hb dX8_isTrue_28 rfl (lv_at hl 0 rfl) ?_
        refine g_getr X h (k := 21) (t := 130) (cc_116) fr_RX8_51 rfl (by decide) (by decide) (by decide) dX8_isTrue_29 ?_
        refine lv_iload hx hb dX8_isTrue_32 (lv_at hl 4 rfl) ?_
        refine g_iald X h (k := (o + k)) (cc_130) hx4 (by omega) (by decide) dX8_isTrue_34 ?_
        refine g_tr (y := (v 130 (o + k))) (by simp [hva, up2, upc]) ?_
        refine lv_topi (fun x5_35 ex5_35 => ?_)
        refine lv_istore (lv' := [(5, .int x5_35), (0, .ref (zg Z 116)), (1, .int x0), (2, .int x1), (3, .int x3), (4, .int x4)]) hx hb dX8_isTrue_35 hl (by decide) rfl (fun ls hl => ?_)
        have hx5 : x5_35 = nI (T k) := by rw [ex5_35, hcd k hkl, hTk]
        refine lv_iload hx hb dX8_isTrue_37 (lv_at hl 0 rfl) ?_
        refine lv_iconst (v := 3) hx hb dX8_isTrue_39 (by decide) ?_
        refine lv_icmp_lt (tgt := 143) hx hb dX8_isTrue_40 (by decide) (fun c_40 => ?_) (fun c_40 => ?_)
        · skip
          have ht3 := nI_lt1 (a := (T k)) (b := 3) hx5 rfl (by omega) (by omega) c_40
          refine lv_iload hx hb dX8_isTrue_143 (lv_at hl 0 rfl) ?_
          refine lv_iconst (v := 2) hx hb dX8_isTrue_145 (by decide) ?_
          refine lv_icmp_ne (tgt := 176) hx hb dX8_isTrue_146 (by decide) (fun c_146 => ?_) (fun c_146 => ?_)
          · skip
            have ht2 := nI_eq0 (a := (T k)) (b := 2) hx5 rfl c_146
            have ht1 : T k < 2 := by omega
            have hh2 := hq4 ht1
            refine lv_iinc (v := (x3 + (-1))) (lv' := [(3, .int (x3 + (-1))), (5, .int x5_35), (0, .ref (zg Z 116)), (1, .int x0), (2, .int x1), (4, .int x4)]) hx hb dX8_isTrue_176 hl (k := 4) rfl rfl (by decide) rfl (fun ls hl => ?_)
            refine lv_aload_n hx hb dX8_isTrue_179 rfl (lv_at hl 2 rfl) ?_
            refine g_getr X h (k := 27) (t := 131) (cc_116) fr_RX8_54 rfl (by decide) (by decide) (by decide) dX8_isTrue_180 ?_
            refine lv_iload_n hx hb dX8_isTrue_183 rfl (lv_at hl 0 rfl) ?_
            refine lv_iconst (v := 1) hx hb dX8_isTrue_184 (by decide) ?_
            refine lv_isub hx hb dX8_isTrue_185 ?_
            refine lv_iload hx hb dX8_isTrue_186 (lv_at hl 1 rfl) ?_
            refine lv_if_ne (tgt := 219) hx hb dX8_isTrue_188 (by decide) (fun c_188 => ?_) (fun c_188 => ?_)
            · skip
              have ht0 := nI_eq0 (a := (T k)) (b := 0) hx5 rfl c_188
              have hh12 : hrun T k < 12 := hrun_le hw2 hT (Nat.le_of_lt hkl)
              refine lv_aload_n hx hb dX8_isTrue_219 rfl (lv_at hl 2 rfl) ?_
              refine g_getr X h (k := 27) (t := 131) (cc_116) fr_RX8_54 rfl (by decide) (by decide) (by decide) dX8_isTrue_220 ?_
              refine lv_iload_n hx hb dX8_isTrue_223 rfl (lv_at hl 0 rfl) ?_
              refine lv_iconst (v := 1) hx hb dX8_isTrue_224 (by decide) ?_
              refine lv_isub hx hb dX8_isTrue_225 ?_
              refine g_zald X h (k := (hrun T k - 2)) (cc_131) (by rw [hx3]; exact binx hh2) (by omega) (by decide) dX8_isTrue_226 ?_
              refine lv_if_ne (tgt := 239) hx hb dX8_isTrue_227 (by decide) (fun c_227 => ?_) (fun c_227 => ?_)
              · skip
                refine lv_iconst (v := 1) hx hb dX8_isTrue_239 (by decide) ?_
                refine lv_goto (tgt := 244) hx hb dX8_isTrue_240 (by decide) ?_
                refine g_zast X h (k := (hrun T k - 2)) (cc_131) (by rw [hx3]; exact binx hh2) (by omega) (by decide) dX8_isTrue_244 (fun v244 H locs ev244 h => ?_)
                refine lv_iinc (v := (x4 + 1)) (lv' := [(4, .int (x4 + 1)), (3, .int (x3 + (-1))), (5, .int x5_35), (0, .ref (zg Z 116)), (1, .int x0), (2, .int x1)]) hx hb dX8_isTrue_245 hl (k := 5) rfl rfl (by decide) rfl (fun ls hl => ?_)
                refine lv_goto (tgt := 10) hx hb dX8_isTrue_248 (by decide) ?_
                exact ih10 (k + 1) (x3 + (-1)) (x4 + 1) (upd f (hrun T k - 2) (vp_nar .boolean 1)) v244 (by rw [hx4]; exact nI_1 _) (by rw [hx3]; show nI _ + (-1) = nI (hstep _ _); rw [hstep, if_neg (by omega), if_neg (by omega)]; exact sb_m1 (by omega)) (by omega) (by rw [ev244, hva, up2_upc]) (by rw [ev244, up2_row]; exact st_bin hst (mrun_h _ _ _) ht1 hh2 (by rw [vz1]; rw [hst _ (by omega)] at c_227; replace c_227 := bI_n.mp c_227; simp [ht0, c_227, bI])) (by omega) _ _ h ls (lv_sub hl [3, 4, 5, 1, 0] rfl)
              · skip
                refine lv_aload_n hx hb dX8_isTrue_230 rfl (lv_at hl 2 rfl) ?_
                refine g_getr X h (k := 27) (t := 131) (cc_116) fr_RX8_54 rfl (by decide) (by decide) (by decide) dX8_isTrue_231 ?_
                refine lv_iload_n hx hb dX8_isTrue_234 rfl (lv_at hl 0 rfl) ?_
                refine g_zald X h (k := (hrun T k - 1)) (cc_131) (by rw [hx3]; exact sb_m1 (by omega)) (by omega) (by decide) dX8_isTrue_235 ?_
                refine lv_if_eq (tgt := 243) hx hb dX8_isTrue_236 (by decide) (fun c_236 => ?_) (fun c_236 => ?_)
                · skip
                  refine lv_iconst (v := 0) hx hb dX8_isTrue_243 (by decide) ?_
                  refine g_zast X h (k := (hrun T k - 2)) (cc_131) (by rw [hx3]; exact binx hh2) (by omega) (by decide) dX8_isTrue_244 (fun v244 H locs ev244 h => ?_)
                  refine lv_iinc (v := (x4 + 1)) (lv' := [(4, .int (x4 + 1)), (3, .int (x3 + (-1))), (5, .int x5_35), (0, .ref (zg Z 116)), (1, .int x0), (2, .int x1)]) hx hb dX8_isTrue_245 hl (k := 5) rfl rfl (by decide) rfl (fun ls hl => ?_)
                  refine lv_goto (tgt := 10) hx hb dX8_isTrue_248 (by decide) ?_
                  exact ih10 (k + 1) (x3 + (-1)) (x4 + 1) (upd f (hrun T k - 2) (vp_nar .boolean 0)) v244 (by rw [hx4]; exact nI_1 _) (by rw [hx3]; show nI _ + (-1) = nI (hstep _ _); rw [hstep, if_neg (by omega), if_neg (by omega)]; exact sb_m1 (by omega)) (by omega) (by rw [ev244, hva, up2_upc]) (by rw [ev244, up2_row]; exact st_bin hst (mrun_h _ _ _) ht1 hh2 (by rw [vz0]; rw [hst _ (by omega)] at c_227; replace c_227 := bI_0.mp c_227; rw [hst _ (by omega)] at c_236; replace c_236 := bI_0.mp c_236; simp [ht0, c_227, c_236, bI])) (by omega) _ _ h ls (lv_sub hl [3, 4, 5, 1, 0] rfl)
                · skip
                  refine lv_iconst (v := 1) hx hb dX8_isTrue_239 (by decide) ?_
                  refine lv_goto (tgt := 244) hx hb dX8_isTrue_240 (by decide) ?_
                  refine g_zast X h (k := (hrun T k - 2)) (cc_131) (by rw [hx3]; exact binx hh2) (by omega) (by decide) dX8_isTrue_244 (fun v244 H locs ev244 h => ?_)
                  refine lv_iinc (v := (x4 + 1)) (lv' := [(4, .int (x4 + 1)), (3, .int (x3 + (-1))), (5, .int x5_35), (0, .ref (zg Z 116)), (1, .int x0), (2, .int x1)]) hx hb dX8_isTrue_245 hl (k := 5) rfl rfl (by decide) rfl (fun ls hl => ?_)
                  refine lv_goto (tgt := 10) hx hb dX8_isTrue_248 (by decide) ?_
                  exact ih10 (k + 1) (x3 + (-1)) (x4 + 1) (upd f (hrun T k - 2) (vp_nar .boolean 1)) v244 (by rw [hx4]; exact nI_1 _) (by rw [hx3]; show nI _ + (-1) = nI (hstep _ _); rw [hstep, if_neg (by omega), if_neg (by omega)]; exact sb_m1 (by omega)) (by omega) (by rw [ev244, hva, up2_upc]) (by rw [ev244, up2_row]; exact st_bin hst (mrun_h _ _ _) ht1 hh2 (by rw [vz1]; rw [hst _ (by omega)] at c_227; replace c_227 := bI_0.mp c_227; rw [hst _ (by omega)] at c_236; replace c_236 := bI_n.mp c_236; simp [ht0, c_227, c_236, bI])) (by omega) _ _ h ls (lv_sub hl [3, 4, 5, 1, 0] rfl)
            · skip
              have ht0 := nI_eq1 (a := (T k)) (b := 0) hx5 rfl (by omega) (by omega) c_188
              have hh12 : hrun T k < 12 := hrun_le hw2 hT (Nat.le_of_lt hkl)
              refine lv_aload_n hx hb dX8_isTrue_191 rfl (lv_at hl 2 rfl) ?_
              refine g_getr X h (k := 27) (t := 131) (cc_116) fr_RX8_54 rfl (by decide) (by decide) (by decide) dX8_isTrue_192 ?_
              refine lv_iload_n hx hb dX8_isTrue_195 rfl (lv_at hl 0 rfl) ?_
              refine lv_iconst (v := 1) hx hb dX8_isTrue_196 (by decide) ?_
              refine lv_isub hx hb dX8_isTrue_197 ?_
              refine g_zald X h (k := (hrun T k - 2)) (cc_131) (by rw [hx3]; exact binx hh2) (by omega) (by decide) dX8_isTrue_198 ?_
              refine lv_if_eq (tgt := 215) hx hb dX8_isTrue_199 (by decide) (fun c_199 => ?_) (fun c_199 => ?_)
              · skip
                refine lv_iconst (v := 0) hx hb dX8_isTrue_215 (by decide) ?_
                refine lv_goto (tgt := 244) hx hb dX8_isTrue_216 (by decide) ?_
                refine g_zast X h (k := (hrun T k - 2)) (cc_131) (by rw [hx3]; exact binx hh2) (by omega) (by decide) dX8_isTrue_244 (fun v244 H locs ev244 h => ?_)
                refine lv_iinc (v := (x4 + 1)) (lv' := [(4, .int (x4 + 1)), (3, .int (x3 + (-1))), (5, .int x5_35), (0, .ref (zg Z 116)), (1, .int x0), (2, .int x1)]) hx hb dX8_isTrue_245 hl (k := 5) rfl rfl (by decide) rfl (fun ls hl => ?_)
                refine lv_goto (tgt := 10) hx hb dX8_isTrue_248 (by decide) ?_
                exact ih10 (k + 1) (x3 + (-1)) (x4 + 1) (upd f (hrun T k - 2) (vp_nar .boolean 0)) v244 (by rw [hx4]; exact nI_1 _) (by rw [hx3]; show nI _ + (-1) = nI (hstep _ _); rw [hstep, if_neg (by omega), if_neg (by omega)]; exact sb_m1 (by omega)) (by omega) (by rw [ev244, hva, up2_upc]) (by rw [ev244, up2_row]; exact st_bin hst (mrun_h _ _ _) ht1 hh2 (by rw [vz0]; rw [hst _ (by omega)] at c_199; replace c_199 := bI_0.mp c_199; simp [ht0, c_199, bI])) (by omega) _ _ h ls (lv_sub hl [3, 4, 5, 1, 0] rfl)
              · skip
                refine lv_aload_n hx hb dX8_isTrue_202 rfl (lv_at hl 2 rfl) ?_
                refine g_getr X h (k := 27) (t := 131) (cc_116) fr_RX8_54 rfl (by decide) (by decide) (by decide) dX8_isTrue_203 ?_
                refine lv_iload_n hx hb dX8_isTrue_206 rfl (lv_at hl 0 rfl) ?_
                refine g_zald X h (k := (hrun T k - 1)) (cc_131) (by rw [hx3]; exact sb_m1 (by omega)) (by omega) (by decide) dX8_isTrue_207 ?_
                refine lv_if_eq (tgt := 215) hx hb dX8_isTrue_208 (by decide) (fun c_208 => ?_) (fun c_208 => ?_)
                · skip
                  refine lv_iconst (v := 0) hx hb dX8_isTrue_215 (by decide) ?_
                  refine lv_goto (tgt := 244) hx hb dX8_isTrue_216 (by decide) ?_
                  refine g_zast X h (k := (hrun T k - 2)) (cc_131) (by rw [hx3]; exact binx hh2) (by omega) (by decide) dX8_isTrue_244 (fun v244 H locs ev244 h => ?_)
                  refine lv_iinc (v := (x4 + 1)) (lv' := [(4, .int (x4 + 1)), (3, .int (x3 + (-1))), (5, .int x5_35), (0, .ref (zg Z 116)), (1, .int x0), (2, .int x1)]) hx hb dX8_isTrue_245 hl (k := 5) rfl rfl (by decide) rfl (fun ls hl => ?_)
                  refine lv_goto (tgt := 10) hx hb dX8_isTrue_248 (by decide) ?_
                  exact ih10 (k + 1) (x3 + (-1)) (x4 + 1) (upd f (hrun T k - 2) (vp_nar .boolean 0)) v244 (by rw [hx4]; exact nI_1 _) (by rw [hx3]; show nI _ + (-1) = nI (hstep _ _); rw [hstep, if_neg (by omega), if_neg (by omega)]; exact sb_m1 (by omega)) (by omega) (by rw [ev244, hva, up2_upc]) (by rw [ev244, up2_row]; exact st_bin hst (mrun_h _ _ _) ht1 hh2 (by rw [vz0]; rw [hst _ (by omega)] at c_199; replace c_199 := bI_n.mp c_199; rw [hst _ (by omega)] at c_208; replace c_208 := bI_0.mp c_208; simp [ht0, c_199, c_208, bI])) (by omega) _ _ h ls (lv_sub hl [3, 4, 5, 1, 0] rfl)
                · skip
                  refine lv_iconst (v := 1) hx hb dX8_isTrue_211 (by decide) ?_
                  refine lv_goto (tgt := 244) hx hb dX8_isTrue_212 (by decide) ?_
                  refine g_zast X h (k := (hrun T k - 2)) (cc_131) (by rw [hx3]; exact binx hh2) (by omega) (by decide) dX8_isTrue_244 (fun v244 H locs ev244 h => ?_)
                  refine lv_iinc (v := (x4 + 1)) (lv' := [(4, .int (x4 + 1)), (3, .int (x3 + (-1))), (5, .int x5_35), (0, .ref (zg Z 116)), (1, .int x0), (2, .int x1)]) hx hb dX8_isTrue_245 hl (k := 5) rfl rfl (by decide) rfl (fun ls hl => ?_)
                  refine lv_goto (tgt := 10) hx hb dX8_isTrue_248 (by decide) ?_
                  exact ih10 (k + 1) (x3 + (-1)) (x4 + 1) (upd f (hrun T k - 2) (vp_nar .boolean 1)) v244 (by rw [hx4]; exact nI_1 _) (by rw [hx3]; show nI _ + (-1) = nI (hstep _ _); rw [hstep, if_neg (by omega), if_neg (by omega)]; exact sb_m1 (by omega)) (by omega) (by rw [ev244, hva, up2_upc]) (by rw [ev244, up2_row]; exact st_bin hst (mrun_h _ _ _) ht1 hh2 (by rw [vz1]; rw [hst _ (by omega)] at c_199; replace c_199 := bI_n.mp c_199; rw [hst _ (by omega)] at c_208; replace c_208 := bI_n.mp c_208; simp [ht0, c_199, c_208, bI])) (by omega) _ _ h ls (lv_sub hl [3, 4, 5, 1, 0] rfl)
          · skip
            have ht2 := nI_eq1 (a := (T k)) (b := 2) hx5 rfl (by omega) (by omega) c_146
            have hh1 := hq3 ht2
            have hh12 : hrun T k < 12 := hrun_le hw2 hT (Nat.le_of_lt hkl)
            refine lv_aload_n hx hb dX8_isTrue_149 rfl (lv_at hl 1 rfl) ?_
            refine g_getr X h (k := 27) (t := 131) (cc_116) fr_RX8_54 rfl (by decide) (by decide) (by decide) dX8_isTrue_150 ?_
            refine lv_iload_n hx hb dX8_isTrue_153 rfl (lv_at hl 4 rfl) ?_
            refine lv_iconst (v := 1) hx hb dX8_isTrue_154 (by decide) ?_
            refine lv_isub hx hb dX8_isTrue_155 ?_
            refine lv_aload_n hx hb dX8_isTrue_156 rfl (lv_at hl 1 rfl) ?_
            refine g_getr X h (k := 27) (t := 131) (cc_116) fr_RX8_54 rfl (by decide) (by decide) (by decide) dX8_isTrue_157 ?_
            refine lv_iload_n hx hb dX8_isTrue_160 rfl (lv_at hl 4 rfl) ?_
            refine lv_iconst (v := 1) hx hb dX8_isTrue_161 (by decide) ?_
            refine lv_isub hx hb dX8_isTrue_162 ?_
            refine g_zald X h (k := (hrun T k - 1)) (cc_131) (by rw [hx3]; exact pk_sub hh1) (by omega) (by decide) dX8_isTrue_163 ?_
            refine lv_if_ne (tgt := 171) hx hb dX8_isTrue_164 (by decide) (fun c_164 => ?_) (fun c_164 => ?_)
            · skip
              refine lv_iconst (v := 0) hx hb dX8_isTrue_171 (by decide) ?_
              refine g_zast X h (k := (hrun T k - 1)) (cc_131) (by rw [hx3]; exact pk_sub hh1) (by omega) (by decide) dX8_isTrue_172 (fun v172 H locs ev172 h => ?_)
              refine lv_goto (tgt := 245) hx hb dX8_isTrue_173 (by decide) ?_
              refine lv_iinc (v := (x4 + 1)) (lv' := [(4, .int (x4 + 1)), (5, .int x5_35), (0, .ref (zg Z 116)), (1, .int x0), (2, .int x1), (3, .int x3)]) hx hb dX8_isTrue_245 hl (k := 5) rfl rfl (by decide) rfl (fun ls hl => ?_)
              refine lv_goto (tgt := 10) hx hb dX8_isTrue_248 (by decide) ?_
              exact ih10 (k + 1) x3 (x4 + 1) (upd f (hrun T k - 1) (vp_nar .boolean 0)) v172 (by rw [hx4]; exact nI_1 _) (by rw [hx3]; show _ = nI (hstep _ _); rw [hstep, if_neg (by omega), if_pos ht2]) (by omega) (by rw [ev172, hva, up2_upc]) (by rw [ev172, up2_row]; exact st_not hst (mrun_h _ _ _) ht2 hh1 (by rw [vz0]; rw [hst _ (by omega)] at c_164; first | exact congrArg (fun b => bI (!b)) (bI_0.mp c_164).symm | exact congrArg (fun b => bI (!b)) (bI_n.mp c_164).symm)) (by omega) _ _ h ls (lv_sub hl [2, 3, 4, 5, 0] rfl)
            · skip
              refine lv_iconst (v := 1) hx hb dX8_isTrue_167 (by decide) ?_
              refine lv_goto (tgt := 172) hx hb dX8_isTrue_168 (by decide) ?_
              refine g_zast X h (k := (hrun T k - 1)) (cc_131) (by rw [hx3]; exact pk_sub hh1) (by omega) (by decide) dX8_isTrue_172 (fun v172 H locs ev172 h => ?_)
              refine lv_goto (tgt := 245) hx hb dX8_isTrue_173 (by decide) ?_
              refine lv_iinc (v := (x4 + 1)) (lv' := [(4, .int (x4 + 1)), (5, .int x5_35), (0, .ref (zg Z 116)), (1, .int x0), (2, .int x1), (3, .int x3)]) hx hb dX8_isTrue_245 hl (k := 5) rfl rfl (by decide) rfl (fun ls hl => ?_)
              refine lv_goto (tgt := 10) hx hb dX8_isTrue_248 (by decide) ?_
              exact ih10 (k + 1) x3 (x4 + 1) (upd f (hrun T k - 1) (vp_nar .boolean 1)) v172 (by rw [hx4]; exact nI_1 _) (by rw [hx3]; show _ = nI (hstep _ _); rw [hstep, if_neg (by omega), if_pos ht2]) (by omega) (by rw [ev172, hva, up2_upc]) (by rw [ev172, up2_row]; exact st_not hst (mrun_h _ _ _) ht2 hh1 (by rw [vz1]; rw [hst _ (by omega)] at c_164; first | exact congrArg (fun b => bI (!b)) (bI_0.mp c_164).symm | exact congrArg (fun b => bI (!b)) (bI_n.mp c_164).symm)) (by omega) _ _ h ls (lv_sub hl [2, 3, 4, 5, 0] rfl)
        · skip
          have ht3 := nI_lt0 (a := (T k)) (b := 3) hx5 rfl (by omega) (by omega) c_40
          have hh11 := hq2 ht3
          refine lv_aload_n hx hb dX8_isTrue_43 rfl (lv_at hl 1 rfl) ?_
          refine lv_iload_n hx hb dX8_isTrue_44 rfl (lv_at hl 2 rfl) ?_
          refine lv_iload hx hb dX8_isTrue_45 (lv_at hl 0 rfl) ?_
          refine lv_iconst (v := 3) hx hb dX8_isTrue_47 (by decide) ?_
          refine lv_isub hx hb dX8_isTrue_48 ?_
          refine lv_sipush (v := 300) hx hb dX8_isTrue_49 (by decide) ?_
          refine lv_idiv hx hb dX8_isTrue_52 (by decide) ?_
          refine g_ki h (g_runV X h (As := [.int x0, .int ((x5_35 - 3) / 300)]) (rest := []) (c_X8_letterOf gl Z va w x0 p hp ((x5_35 - 3) / 300) ((T k - 3) / 300) (by rw [hx5, nI_sub3 ht3, nI_d300 (by omega)]) n B L (DM.stk hd hva) (by first | assumption | omega) (by omega)) mi_X8_letterOf ml_RX8_227 (cc_116) (by decide) kl8 rfl ⟨Nat.le_of_ble_eq_true rfl, Nat.le_of_ble_eq_true rfl⟩ rfl hl.1 rfl (Nat.le_of_ble_eq_true rfl) dX8_isTrue_53) (fun r53 v53 w53 H locs hp53 h => ?_)
          obtain ⟨hr53, hu53⟩ := hp53; obtain ⟨rfl, rfl⟩ := Prod.mk.inj hu53
          rw [xM.stk hva] at hr53
          refine lv_istore (lv' := [(6, .int r53), (5, .int x5_35), (0, .ref (zg Z 116)), (1, .int x0), (2, .int x1), (3, .int x3), (4, .int x4)]) hx hb dX8_isTrue_56 hl (by decide) rfl (fun ls hl => ?_)
          have hx6 := hr53
          rw [← hX] at hr53
          refine lv_iload hx hb dX8_isTrue_58 (lv_at hl 1 rfl) ?_
          refine lv_iconst (v := 3) hx hb dX8_isTrue_60 (by decide) ?_
          refine lv_isub hx hb dX8_isTrue_61 ?_
          refine lv_bipush (v := 100) hx hb dX8_isTrue_62 (by decide) ?_
          refine lv_irem hx hb dX8_isTrue_64 (by decide) ?_
          refine lv_topi (fun x7_65 ex7_65 => ?_)
          refine lv_istore (lv' := [(7, .int x7_65), (6, .int r53), (5, .int x5_35), (0, .ref (zg Z 116)), (1, .int x0), (2, .int x1), (3, .int x3), (4, .int x4)]) hx hb dX8_isTrue_65 hl (by decide) rfl (fun ls hl => ?_)
          have hx7 : x7_65 = nI ((T k - 3) % 100) := by rw [ex7_65, hx5, nI_sub3 ht3, nI_m100 (by omega)]
          refine lv_iload hx hb dX8_isTrue_67 (lv_at hl 2 rfl) ?_
          refine lv_iconst (v := 3) hx hb dX8_isTrue_69 (by decide) ?_
          refine lv_isub hx hb dX8_isTrue_70 ?_
          refine lv_bipush (v := 100) hx hb dX8_isTrue_71 (by decide) ?_
          refine lv_idiv hx hb dX8_isTrue_73 (by decide) ?_
          refine lv_iconst (v := 3) hx hb dX8_isTrue_74 (by decide) ?_
          refine lv_irem hx hb dX8_isTrue_75 (by decide) ?_
          refine lv_topi (fun x8_76 ex8_76 => ?_)
          refine lv_istore (lv' := [(8, .int x8_76), (7, .int x7_65), (6, .int r53), (5, .int x5_35), (0, .ref (zg Z 116)), (1, .int x0), (2, .int x1), (3, .int x3), (4, .int x4)]) hx hb dX8_isTrue_76 hl (by decide) rfl (fun ls hl => ?_)
          have hx8 : x8_76 = nI ((T k - 3) / 100 % 3) := by rw [ex8_76, hx5, nI_sub3 ht3, nI_d100 (by omega), nI_m3 (by omega)]
          refine lv_aload_n hx hb dX8_isTrue_78 rfl (lv_at hl 4 rfl) ?_
          refine g_getr X h (k := 27) (t := 131) (cc_116) fr_RX8_54 rfl (by decide) (by decide) (by decide) dX8_isTrue_79 ?_
          refine lv_iload_n hx hb dX8_isTrue_82 rfl (lv_at hl 7 rfl) ?_
          refine lv_iinc (v := (x3 + 1)) (lv' := [(3, .int (x3 + 1)), (8, .int x8_76), (7, .int x7_65), (6, .int r53), (5, .int x5_35), (0, .ref (zg Z 116)), (1, .int x0), (2, .int x1), (4, .int x4)]) hx hb dX8_isTrue_83 hl (k := 7) rfl rfl (by decide) rfl (fun ls hl => ?_)
          refine lv_iload hx hb dX8_isTrue_86 (lv_at hl 1 rfl) ?_
          refine lv_if_ne (tgt := 106) hx hb dX8_isTrue_88 (by decide) (fun c_88 => ?_) (fun c_88 => ?_)
          · skip
            have hs0 := nI_eq0 (a := ((T k - 3) / 100 % 3)) (b := 0) hx8 rfl c_88
            refine lv_iload hx hb dX8_isTrue_106 (lv_at hl 1 rfl) ?_
            refine lv_iconst (v := 1) hx hb dX8_isTrue_108 (by decide) ?_
            refine lv_icmp_ne (tgt := 127) hx hb dX8_isTrue_109 (by decide) (fun c_109 => ?_) (fun c_109 => ?_)
            · skip
              have hs1 := nI_eq0 (a := ((T k - 3) / 100 % 3)) (b := 1) hx8 rfl c_109
              refine lv_iload hx hb dX8_isTrue_127 (lv_at hl 3 rfl) ?_
              refine lv_iload hx hb dX8_isTrue_129 (lv_at hl 2 rfl) ?_
              refine lv_icmp_le (tgt := 138) hx hb dX8_isTrue_131 (by decide) (fun c_131 => ?_) (fun c_131 => ?_)
              · skip
                refine lv_iconst (v := 0) hx hb dX8_isTrue_138 (by decide) ?_
                refine g_zast X h (k := (hrun T k)) (cc_131) hx3 (by omega) (by decide) dX8_isTrue_139 (fun v139 H locs ev139 h => ?_)
                refine lv_goto (tgt := 245) hx hb dX8_isTrue_140 (by decide) ?_
                refine lv_iinc (v := (x4 + 1)) (lv' := [(4, .int (x4 + 1)), (3, .int (x3 + 1)), (8, .int x8_76), (7, .int x7_65), (6, .int r53), (5, .int x5_35), (0, .ref (zg Z 116)), (1, .int x0), (2, .int x1)]) hx hb dX8_isTrue_245 hl (k := 8) rfl rfl (by decide) rfl (fun ls hl => ?_)
                refine lv_goto (tgt := 10) hx hb dX8_isTrue_248 (by decide) ?_
                exact ih10 (k + 1) (x3 + 1) (x4 + 1) (upd f (hrun T k) (vp_nar .boolean 0)) v139 (by rw [hx4]; exact nI_1 _) (by rw [hx3]; show nI _ + 1 = nI (hstep _ _); rw [hstep, if_pos ht3]; exact nI_1 _) (by omega) (by rw [ev139, hva, up2_upc]) (by rw [ev139, up2_row]; exact st_push hst (mrun_h _ _ _) ht3 (by rw [vz0]; exact ((congrArg bI (show tstS XX p (T k - 3) = false from (by rw [tstS, if_neg hs0, if_neg hs1, ← hr53]; exact decide_eq_false (by rw [← hx7]; exact fun z => absurd z (Int32.not_lt.mpr c_131))))).symm))) (by omega) _ _ h ls (lv_sub hl [6, 7, 8, 1, 0] rfl)
              · skip
                refine lv_iconst (v := 1) hx hb dX8_isTrue_134 (by decide) ?_
                refine lv_goto (tgt := 139) hx hb dX8_isTrue_135 (by decide) ?_
                refine g_zast X h (k := (hrun T k)) (cc_131) hx3 (by omega) (by decide) dX8_isTrue_139 (fun v139 H locs ev139 h => ?_)
                refine lv_goto (tgt := 245) hx hb dX8_isTrue_140 (by decide) ?_
                refine lv_iinc (v := (x4 + 1)) (lv' := [(4, .int (x4 + 1)), (3, .int (x3 + 1)), (8, .int x8_76), (7, .int x7_65), (6, .int r53), (5, .int x5_35), (0, .ref (zg Z 116)), (1, .int x0), (2, .int x1)]) hx hb dX8_isTrue_245 hl (k := 8) rfl rfl (by decide) rfl (fun ls hl => ?_)
                refine lv_goto (tgt := 10) hx hb dX8_isTrue_248 (by decide) ?_
                exact ih10 (k + 1) (x3 + 1) (x4 + 1) (upd f (hrun T k) (vp_nar .boolean 1)) v139 (by rw [hx4]; exact nI_1 _) (by rw [hx3]; show nI _ + 1 = nI (hstep _ _); rw [hstep, if_pos ht3]; exact nI_1 _) (by omega) (by rw [ev139, hva, up2_upc]) (by rw [ev139, up2_row]; exact st_push hst (mrun_h _ _ _) ht3 (by rw [vz1]; exact ((congrArg bI (show tstS XX p (T k - 3) = true from (by rw [tstS, if_neg hs0, if_neg hs1, ← hr53]; exact decide_eq_true (by rw [← hx7]; exact Int32.not_le.mp c_131)))).symm))) (by omega) _ _ h ls (lv_sub hl [6, 7, 8, 1, 0] rfl)
            · skip
              have hs1 := nI_eq1 (a := ((T k - 3) / 100 % 3)) (b := 1) hx8 rfl (by omega) (by omega) c_109
              refine lv_iload hx hb dX8_isTrue_112 (lv_at hl 3 rfl) ?_
              refine lv_iload hx hb dX8_isTrue_114 (lv_at hl 2 rfl) ?_
              refine lv_icmp_ne (tgt := 123) hx hb dX8_isTrue_116 (by decide) (fun c_116 => ?_) (fun c_116 => ?_)
              · skip
                refine lv_iconst (v := 0) hx hb dX8_isTrue_123 (by decide) ?_
                refine lv_goto (tgt := 139) hx hb dX8_isTrue_124 (by decide) ?_
                refine g_zast X h (k := (hrun T k)) (cc_131) hx3 (by omega) (by decide) dX8_isTrue_139 (fun v139 H locs ev139 h => ?_)
                refine lv_goto (tgt := 245) hx hb dX8_isTrue_140 (by decide) ?_
                refine lv_iinc (v := (x4 + 1)) (lv' := [(4, .int (x4 + 1)), (3, .int (x3 + 1)), (8, .int x8_76), (7, .int x7_65), (6, .int r53), (5, .int x5_35), (0, .ref (zg Z 116)), (1, .int x0), (2, .int x1)]) hx hb dX8_isTrue_245 hl (k := 8) rfl rfl (by decide) rfl (fun ls hl => ?_)
                refine lv_goto (tgt := 10) hx hb dX8_isTrue_248 (by decide) ?_
                exact ih10 (k + 1) (x3 + 1) (x4 + 1) (upd f (hrun T k) (vp_nar .boolean 0)) v139 (by rw [hx4]; exact nI_1 _) (by rw [hx3]; show nI _ + 1 = nI (hstep _ _); rw [hstep, if_pos ht3]; exact nI_1 _) (by omega) (by rw [ev139, hva, up2_upc]) (by rw [ev139, up2_row]; exact st_push hst (mrun_h _ _ _) ht3 (by rw [vz0]; exact ((congrArg bI (show tstS XX p (T k - 3) = false from (by rw [tstS, if_neg hs0, if_pos hs1, ← hr53]; exact decide_eq_false (by rw [← hx7]; exact c_116)))).symm))) (by omega) _ _ h ls (lv_sub hl [6, 7, 8, 1, 0] rfl)
              · skip
                refine lv_iconst (v := 1) hx hb dX8_isTrue_119 (by decide) ?_
                refine lv_goto (tgt := 139) hx hb dX8_isTrue_120 (by decide) ?_
                refine g_zast X h (k := (hrun T k)) (cc_131) hx3 (by omega) (by decide) dX8_isTrue_139 (fun v139 H locs ev139 h => ?_)
                refine lv_goto (tgt := 245) hx hb dX8_isTrue_140 (by decide) ?_
                refine lv_iinc (v := (x4 + 1)) (lv' := [(4, .int (x4 + 1)), (3, .int (x3 + 1)), (8, .int x8_76), (7, .int x7_65), (6, .int r53), (5, .int x5_35), (0, .ref (zg Z 116)), (1, .int x0), (2, .int x1)]) hx hb dX8_isTrue_245 hl (k := 8) rfl rfl (by decide) rfl (fun ls hl => ?_)
                refine lv_goto (tgt := 10) hx hb dX8_isTrue_248 (by decide) ?_
                exact ih10 (k + 1) (x3 + 1) (x4 + 1) (upd f (hrun T k) (vp_nar .boolean 1)) v139 (by rw [hx4]; exact nI_1 _) (by rw [hx3]; show nI _ + 1 = nI (hstep _ _); rw [hstep, if_pos ht3]; exact nI_1 _) (by omega) (by rw [ev139, hva, up2_upc]) (by rw [ev139, up2_row]; exact st_push hst (mrun_h _ _ _) ht3 (by rw [vz1]; exact ((congrArg bI (show tstS XX p (T k - 3) = true from (by rw [tstS, if_neg hs0, if_pos hs1, ← hr53]; exact decide_eq_true (by rw [← hx7]; exact c_116)))).symm))) (by omega) _ _ h ls (lv_sub hl [6, 7, 8, 1, 0] rfl)
          · skip
            have hs0 := nI_eq1 (a := ((T k - 3) / 100 % 3)) (b := 0) hx8 rfl (by omega) (by omega) c_88
            refine lv_iload hx hb dX8_isTrue_91 (lv_at hl 3 rfl) ?_
            refine lv_iload hx hb dX8_isTrue_93 (lv_at hl 2 rfl) ?_
            refine lv_icmp_ge (tgt := 102) hx hb dX8_isTrue_95 (by decide) (fun c_95 => ?_) (fun c_95 => ?_)
            · skip
              refine lv_iconst (v := 0) hx hb dX8_isTrue_102 (by decide) ?_
              refine lv_goto (tgt := 139) hx hb dX8_isTrue_103 (by decide) ?_
              refine g_zast X h (k := (hrun T k)) (cc_131) hx3 (by omega) (by decide) dX8_isTrue_139 (fun v139 H locs ev139 h => ?_)
              refine lv_goto (tgt := 245) hx hb dX8_isTrue_140 (by decide) ?_
              refine lv_iinc (v := (x4 + 1)) (lv' := [(4, .int (x4 + 1)), (3, .int (x3 + 1)), (8, .int x8_76), (7, .int x7_65), (6, .int r53), (5, .int x5_35), (0, .ref (zg Z 116)), (1, .int x0), (2, .int x1)]) hx hb dX8_isTrue_245 hl (k := 8) rfl rfl (by decide) rfl (fun ls hl => ?_)
              refine lv_goto (tgt := 10) hx hb dX8_isTrue_248 (by decide) ?_
              exact ih10 (k + 1) (x3 + 1) (x4 + 1) (upd f (hrun T k) (vp_nar .boolean 0)) v139 (by rw [hx4]; exact nI_1 _) (by rw [hx3]; show nI _ + 1 = nI (hstep _ _); rw [hstep, if_pos ht3]; exact nI_1 _) (by omega) (by rw [ev139, hva, up2_upc]) (by rw [ev139, up2_row]; exact st_push hst (mrun_h _ _ _) ht3 (by rw [vz0]; exact ((congrArg bI (show tstS XX p (T k - 3) = false from (by rw [tstS, if_pos hs0, ← hr53]; exact decide_eq_false (by rw [← hx7]; exact fun z => absurd z (Int32.not_lt.mpr c_95))))).symm))) (by omega) _ _ h ls (lv_sub hl [6, 7, 8, 1, 0] rfl)
            · skip
              refine lv_iconst (v := 1) hx hb dX8_isTrue_98 (by decide) ?_
              refine lv_goto (tgt := 139) hx hb dX8_isTrue_99 (by decide) ?_
              refine g_zast X h (k := (hrun T k)) (cc_131) hx3 (by omega) (by decide) dX8_isTrue_139 (fun v139 H locs ev139 h => ?_)
              refine lv_goto (tgt := 245) hx hb dX8_isTrue_140 (by decide) ?_
              refine lv_iinc (v := (x4 + 1)) (lv' := [(4, .int (x4 + 1)), (3, .int (x3 + 1)), (8, .int x8_76), (7, .int x7_65), (6, .int r53), (5, .int x5_35), (0, .ref (zg Z 116)), (1, .int x0), (2, .int x1)]) hx hb dX8_isTrue_245 hl (k := 8) rfl rfl (by decide) rfl (fun ls hl => ?_)
              refine lv_goto (tgt := 10) hx hb dX8_isTrue_248 (by decide) ?_
              exact ih10 (k + 1) (x3 + 1) (x4 + 1) (upd f (hrun T k) (vp_nar .boolean 1)) v139 (by rw [hx4]; exact nI_1 _) (by rw [hx3]; show nI _ + 1 = nI (hstep _ _); rw [hstep, if_pos ht3]; exact nI_1 _) (by omega) (by rw [ev139, hva, up2_upc]) (by rw [ev139, up2_row]; exact st_push hst (mrun_h _ _ _) ht3 (by rw [vz1]; exact ((congrArg bI (show tstS XX p (T k - 3) = true from (by rw [tstS, if_pos hs0, ← hr53]; exact decide_eq_true (by rw [← hx7]; exact Int32.not_le.mp c_95)))).symm))) (by omega) _ _ h ls (lv_sub hl [6, 7, 8, 1, 0] rfl)
  exact L10 (tk.length - 0 + 1) 0 0 x4_8 (v 131) v (by rw [ex4_8, hb8]; rfl) rfl (by omega) (upc_self v 131).symm (fun j hj => absurd hj (Nat.not_lt_zero _)) (Nat.lt_succ_self _) _ _ h ls (lv_sub hl [2, 3, 4, 1, 0] rfl)

set_option maxRecDepth 100000 in
set_option maxHeartbeats 1000000 in
theorem c_X8_door (gl : Launch) (Z : PL) (v : VV) (w : WV) (x0 : Int32) (p : Nat) (hp : x0 = nI p) (n : Nat) (B : Nat) (L : LND) (hd : DM v n B L) (hpn : p < n) : CT gl yX8_door cX8_door 5 (some .int) 2 50 Z [.ref (zg Z 116), .int x0] v w (Qi Z (fun r u => r = doorS (xM v n L) L p ∧ ∃ f, (upc v 131 f, w) = u)) := by
  refine g_met (by decide) (Nat.le_of_ble_eq_true rfl) ?_
  intro gp ge gs gm ga gb gh gc X h ls hl
  have hx := X.1
  have hb := X.2.1
  have hl : lv_has ls 5 [(0, .ref (zg Z 116)), (1, .int x0)] := hl
  obtain ⟨hn, h6, hwf, hcur, hrx, hB⟩ := id hd
  have hL10 := hwf.1
  refine lv_iconst (v := 0) hx hb dX8_door_0 (by decide) ?_
  refine lv_istore_n (lv' := [(2, .int 0), (0, .ref (zg Z 116)), (1, .int x0)]) hx hb dX8_door_1 rfl hl (by decide) rfl (fun ls hl => ?_)
  refine lv_iconst (v := 0) hx hb dX8_door_2 (by decide) ?_
  refine lv_istore_n (lv' := [(3, .int 0), (2, .int 0), (0, .ref (zg Z 116)), (1, .int x0)]) hx hb dX8_door_3 rfl hl (by decide) rfl (fun ls hl => ?_)
  have L4 : ∀ (n4 : Nat) (i : Nat) (x2 x3 : Int32) (f : Nat → Int32) (va : VV), (x3 = nI i) → (x2 = lsum (fun i => ctr (xM v n L) p (L.getD i dC)) i) → (i ≤ L.length) → (va = upc v 131 f) → L.length - i < n4 → ∀ (H : Heap) (locs : List Loc), HS Z gs va w H locs → ∀ ls : Array Slot, lv_has ls 5 [(0, .ref (zg Z 116)), (1, .int x0), (2, .int x2), (3, .int x3)] → W gp gl ge (rmm 2 50) gs gm ga gb gh gc H locs 0 0 (MQ gb (Qi Z (fun r u => r = doorS (xM v n L) L p ∧ ∃ f, (upc v 131 f, w) = u)) ga gs 0 0 (zA Z)) (F0 gm 4 ls []) := by
    intro n4
    induction n4 with
    | zero => intro i x2 x3 f va hx3 hx2 hi hva hmu; exact absurd hmu (Nat.not_lt_zero _)
    | succ n4 ih4 =>
      intro i x2 x3 f va hx3 hx2 hi hva hmu4 H locs h ls hl
      refine lv_aload_n hx hb dX8_door_4 rfl (lv_at hl 0 rfl) ?_
      refine g_geti X h (k := 15) (cc_116) fr_RX8_102 rfl (by decide) dX8_door_5 ?_
      refine g_tr (y := (v 116 15)) (by simp [hva, up2, upc]) ?_
      refine lv_iconst (v := (-1)) hx hb dX8_door_8 (by decide) ?_
      refine lv_icmp_eq (tgt := 94) hx hb dX8_door_9 (by decide) (fun c_9 => ?_) (fun c_9 => ?_)
      · skip
        have hLe := curM_eq hcur c_9
        refine lv_iload_n hx hb dX8_door_94 rfl (lv_at hl 2 rfl) ?_
        exact g_iret X h dX8_door_95 (by refine ⟨?_, f, by rw [hva]⟩; have e := (getD_of (d := dC) (k := 0) hLe).1; rw [hx2, show i = L.length by omega]; rfl)
      · skip
        obtain ⟨j, hj6, hj, hrp⟩ := curM_ne hcur c_9
        refine lv_iload_n hx hb dX8_door_12 rfl (lv_at hl 3 rfl) ?_
        refine lv_aload_n hx hb dX8_door_13 rfl (lv_at hl 0 rfl) ?_
        refine g_getr X h (k := 16) (t := 125) (cc_116) fr_RX8_36 rfl (by decide) (by decide) (by decide) dX8_door_14 ?_
        refine lv_aload_n hx hb dX8_door_17 rfl (lv_at hl 0 rfl) ?_
        refine g_geti X h (k := 15) (cc_116) fr_RX8_102 rfl (by decide) dX8_door_18 ?_
        refine g_tr (y := (v 116 15)) (by simp [hva, up2, upc]) ?_
        refine g_iald X h (k := j) (cc_125) hj (by omega) (by decide) dX8_door_21 ?_
        refine g_tr (y := (v 125 j)) (by simp [hva, up2, upc]) ?_
        refine lv_icmp_ge (tgt := 94) hx hb dX8_door_22 (by decide) (fun c_22 => ?_) (fun c_22 => ?_)
        · skip
          have hil := nI_le1 (a := L.length) (b := i) hrp.1 hx3 (by omega) (by omega) c_22
          refine lv_iload_n hx hb dX8_door_94 rfl (lv_at hl 2 rfl) ?_
          exact g_iret X h dX8_door_95 (by refine ⟨?_, f, by rw [hva]⟩; rw [hx2, show i = L.length by omega]; rfl)
        · skip
          have hil := nI_le0 (a := L.length) (b := i) hrp.1 hx3 (by omega) (by omega) c_22
          obtain ⟨hw1, hw2, hw4, o, hw3, ho, hcd⟩ := hrp.2 i hil
          obtain ⟨hf5, hf99, hft⟩ := hwf.2 i hil
          refine lv_bipush (v := 10) hx hb dX8_door_25 (by decide) ?_
          refine lv_aload_n hx hb dX8_door_27 rfl (lv_at hl 0 rfl) ?_
          refine g_geti X h (k := 15) (cc_116) fr_RX8_102 rfl (by decide) dX8_door_28 ?_
          refine g_tr (y := (v 116 15)) (by simp [hva, up2, upc]) ?_
          refine lv_imul hx hb dX8_door_31 ?_
          refine lv_iload_n hx hb dX8_door_32 rfl (lv_at hl 3 rfl) ?_
          refine lv_iadd hx hb dX8_door_33 ?_
          refine lv_topi (fun x4_34 ex4_34 => ?_)
          refine lv_istore (lv' := [(4, .int x4_34), (0, .ref (zg Z 116)), (1, .int x0), (2, .int x2), (3, .int x3)]) hx hb dX8_door_34 hl (by decide) rfl (fun ls hl => ?_)
          refine lv_aload_n hx hb dX8_door_36 rfl (lv_at hl 1 rfl) ?_
          refine g_getr X h (k := 17) (t := 126) (cc_116) fr_RX8_39 rfl (by decide) (by decide) (by decide) dX8_door_37 ?_
          refine lv_iload hx hb dX8_door_40 (lv_at hl 0 rfl) ?_
          refine g_iald X h (k := ((10 * j) + i)) (cc_126) (ex4_34.trans (by rw [show ((10 * (v 116 15))) = nI (10 * j) from (by rw [show (10) = nI 10 from rfl, show ((v 116 15)) = nI j from hj, pk_mul]), show (x3) = nI i from hx3, nI_add])) (by omega) (by decide) dX8_door_42 ?_
          refine g_tr (y := (v 126 ((10 * j) + i))) (by simp [hva, up2, upc]) ?_
          refine lv_iconst (v := 2) hx hb dX8_door_43 (by decide) ?_
          refine lv_icmp_ge (tgt := 88) hx hb dX8_door_44 (by decide) (fun c_44 => ?_) (fun c_44 => ?_)
          · skip
            have h44 := nI_le1 (a := 2) (b := (L.getD i dC).1) rfl hw1 (by omega) (by omega) c_44
            refine lv_iinc (v := (x3 + 1)) (lv' := [(3, .int (x3 + 1)), (4, .int x4_34), (0, .ref (zg Z 116)), (1, .int x0), (2, .int x2)]) hx hb dX8_door_88 hl (k := 4) rfl rfl (by decide) rfl (fun ls hl => ?_)
            refine lv_goto (tgt := 4) hx hb dX8_door_91 (by decide) ?_
            exact ih4 (i + 1) x2 (x3 + 1) f va (by rw [hx3]; exact nI_1 _) (by rw [hx2]; show lsum _ i = lsum _ i + ctr _ _ _; rw [ctr, if_neg (by omega)]; exact (Int32.add_zero _).symm) (by omega) hva (by omega) _ _ h ls (lv_sub hl [2, 3, 4, 0] rfl)
          · skip
            have h44 := nI_le0 (a := 2) (b := (L.getD i dC).1) rfl hw1 (by omega) (by omega) c_44
            refine lv_aload_n hx hb dX8_door_47 rfl (lv_at hl 1 rfl) ?_
            refine lv_iload_n hx hb dX8_door_48 rfl (lv_at hl 2 rfl) ?_
            refine lv_iload hx hb dX8_door_49 (lv_at hl 0 rfl) ?_
            refine g_ki h (g_runV X h (As := [.int x0, .int x4_34]) (rest := []) (c_X8_isTrue gl Z va w x0 p hp x4_34 ((10 * j) + i) (ex4_34.trans (by rw [show ((10 * (v 116 15))) = nI (10 * j) from (by rw [show (10) = nI 10 from rfl, show ((v 116 15)) = nI j from hj, pk_mul]), show (x3) = nI i from hx3, nI_add])) n B L (DM.stk hd hva) (by first | assumption | omega) (by omega) ((L.getD i dC).2.2) o (by rw [hva, u131 _ _ 128 (by decide)]; exact hw3) (by rw [hva, u131 _ _ 129 (by decide)]; exact hw4) ho (by rw [hva, u131 _ _ 130 (by decide)]; exact hcd) (hft h44)) mi_X8_isTrue ml_RX8_230 (cc_116) (by decide) kl8 rfl ⟨Nat.le_of_ble_eq_true rfl, Nat.le_of_ble_eq_true rfl⟩ rfl hl.1 rfl (Nat.le_of_ble_eq_true rfl) dX8_door_51) (fun r51 v51 w51 H locs hp51 h => ?_)
            obtain ⟨hr51, f51, hf51⟩ := hp51
            obtain ⟨ev51, rfl⟩ := Prod.mk.inj hf51
            replace ev51 := ev51.symm
            rw [xM.stk hva] at hr51
            refine lv_if_eq (tgt := 88) hx hb dX8_door_54 (by decide) (fun c_54 => ?_) (fun c_54 => ?_)
            · skip
              rw [hr51, bI_0] at c_54
              refine lv_iinc (v := (x3 + 1)) (lv' := [(3, .int (x3 + 1)), (4, .int x4_34), (0, .ref (zg Z 116)), (1, .int x0), (2, .int x2)]) hx hb dX8_door_88 hl (k := 4) rfl rfl (by decide) rfl (fun ls hl => ?_)
              refine lv_goto (tgt := 4) hx hb dX8_door_91 (by decide) ?_
              exact ih4 (i + 1) x2 (x3 + 1) f51 v51 (by rw [hx3]; exact nI_1 _) (by rw [hx2]; show lsum _ i = lsum _ i + ctr _ _ _; rw [ctr, if_neg (by rw [c_54]; simp)]; exact (Int32.add_zero _).symm) (by omega) (by rw [ev51, hva, upc_upc]) (by omega) _ _ h ls (lv_sub hl [2, 3, 4, 0] rfl)
            · skip
              rw [hr51, bI_n] at c_54
              refine lv_iload_n hx hb dX8_door_57 rfl (lv_at hl 3 rfl) ?_
              refine lv_aload_n hx hb dX8_door_58 rfl (lv_at hl 1 rfl) ?_
              refine g_getr X h (k := 17) (t := 126) (cc_116) fr_RX8_39 rfl (by decide) (by decide) (by decide) dX8_door_59 ?_
              refine lv_iload hx hb dX8_door_62 (lv_at hl 0 rfl) ?_
              refine g_iald X h (k := ((10 * j) + i)) (cc_126) (ex4_34.trans (by rw [show ((10 * (v 116 15))) = nI (10 * j) from (by rw [show (10) = nI 10 from rfl, show ((v 116 15)) = nI j from hj, pk_mul]), show (x3) = nI i from hx3, nI_add])) (by omega) (by decide) dX8_door_64 ?_
              refine g_tr (y := (v 126 ((10 * j) + i))) (by simp [ev51, hva, up2, upc]) ?_
              refine lv_if_ne (tgt := 78) hx hb dX8_door_65 (by decide) (fun c_65 => ?_) (fun c_65 => ?_)
              · skip
                have h65 := nI_eq0 (a := (L.getD i dC).1) (b := 0) hw1 rfl c_65
                refine lv_aload_n hx hb dX8_door_78 rfl (lv_at hl 1 rfl) ?_
                refine g_getr X h (k := 18) (t := 127) (cc_116) fr_RX8_42 rfl (by decide) (by decide) (by decide) dX8_door_79 ?_
                refine lv_iload hx hb dX8_door_82 (lv_at hl 0 rfl) ?_
                refine g_iald X h (k := ((10 * j) + i)) (cc_127) (ex4_34.trans (by rw [show ((10 * (v 116 15))) = nI (10 * j) from (by rw [show (10) = nI 10 from rfl, show ((v 116 15)) = nI j from hj, pk_mul]), show (x3) = nI i from hx3, nI_add])) (by omega) (by decide) dX8_door_84 ?_
                refine g_tr (y := (v 127 ((10 * j) + i))) (by simp [ev51, hva, up2, upc]) ?_
                refine lv_ineg hx hb dX8_door_85 ?_
                refine lv_iadd hx hb dX8_door_86 ?_
                refine lv_topi (fun x2_87 ex2_87 => ?_)
                refine lv_istore_n (lv' := [(2, .int x2_87), (4, .int x4_34), (0, .ref (zg Z 116)), (1, .int x0), (3, .int x3)]) hx hb dX8_door_87 rfl hl (by decide) rfl (fun ls hl => ?_)
                refine lv_iinc (v := (x3 + 1)) (lv' := [(3, .int (x3 + 1)), (2, .int x2_87), (4, .int x4_34), (0, .ref (zg Z 116)), (1, .int x0)]) hx hb dX8_door_88 hl (k := 4) rfl rfl (by decide) rfl (fun ls hl => ?_)
                refine lv_goto (tgt := 4) hx hb dX8_door_91 (by decide) ?_
                exact ih4 (i + 1) x2_87 (x3 + 1) f51 v51 (by rw [hx3]; exact nI_1 _) (by rw [ex2_87, hx2, hw2]; show _ = lsum _ i + ctr _ _ _; rw [ctr, if_pos ⟨by omega, c_54⟩, if_neg h65]) (by omega) (by rw [ev51, hva, upc_upc]) (by omega) _ _ h ls (lv_sub hl [3, 4, 1, 0] rfl)
              · skip
                have h65 := nI_eq1 (a := (L.getD i dC).1) (b := 0) hw1 rfl (by omega) (by omega) c_65
                refine lv_aload_n hx hb dX8_door_68 rfl (lv_at hl 1 rfl) ?_
                refine g_getr X h (k := 18) (t := 127) (cc_116) fr_RX8_42 rfl (by decide) (by decide) (by decide) dX8_door_69 ?_
                refine lv_iload hx hb dX8_door_72 (lv_at hl 0 rfl) ?_
                refine g_iald X h (k := ((10 * j) + i)) (cc_127) (ex4_34.trans (by rw [show ((10 * (v 116 15))) = nI (10 * j) from (by rw [show (10) = nI 10 from rfl, show ((v 116 15)) = nI j from hj, pk_mul]), show (x3) = nI i from hx3, nI_add])) (by omega) (by decide) dX8_door_74 ?_
                refine g_tr (y := (v 127 ((10 * j) + i))) (by simp [ev51, hva, up2, upc]) ?_
                refine lv_goto (tgt := 86) hx hb dX8_door_75 (by decide) ?_
                refine lv_iadd hx hb dX8_door_86 ?_
                refine lv_topi (fun x2_87 ex2_87 => ?_)
                refine lv_istore_n (lv' := [(2, .int x2_87), (4, .int x4_34), (0, .ref (zg Z 116)), (1, .int x0), (3, .int x3)]) hx hb dX8_door_87 rfl hl (by decide) rfl (fun ls hl => ?_)
                refine lv_iinc (v := (x3 + 1)) (lv' := [(3, .int (x3 + 1)), (2, .int x2_87), (4, .int x4_34), (0, .ref (zg Z 116)), (1, .int x0)]) hx hb dX8_door_88 hl (k := 4) rfl rfl (by decide) rfl (fun ls hl => ?_)
                refine lv_goto (tgt := 4) hx hb dX8_door_91 (by decide) ?_
                exact ih4 (i + 1) x2_87 (x3 + 1) f51 v51 (by rw [hx3]; exact nI_1 _) (by rw [ex2_87, hx2, hw2]; show _ = lsum _ i + ctr _ _ _; rw [ctr, if_pos ⟨by omega, c_54⟩, if_pos h65]) (by omega) (by rw [ev51, hva, upc_upc]) (by omega) _ _ h ls (lv_sub hl [3, 4, 1, 0] rfl)
  exact L4 (L.length - 0 + 1) 0 0 0 (v 131) v rfl rfl (Nat.zero_le _) (upc_self v 131).symm (Nat.lt_succ_self _) _ _ h ls (lv_sub hl [2, 3, 1, 0] rfl)

set_option maxRecDepth 100000 in
set_option maxHeartbeats 1000000 in
theorem c_X8_lastOf (gl : Launch) (Z : PL) (v : VV) (w : WV) (x0 : Int32) (wd : Nat) (hwd : x0 = nI wd) (x1 : Int32) (L : LND) (hwf : wfL L) (hcur : curM v L) (hwd5 : wd < 5) : CT gl yX8_lastOf cX8_lastOf 5 (some .int) 0 0 Z [.ref (zg Z 116), .int x0, .int x1] v w (Qi Z (fun r u => r = lastS wd x1 L ∧ (v, w) = u)) := by
  refine g_met (by decide) (Nat.le_of_ble_eq_true rfl) ?_
  intro gp ge gs gm ga gb gh gc X h ls hl
  have hx := X.1
  have hb := X.2.1
  have hl : lv_has ls 5 [(0, .ref (zg Z 116)), (1, .int x0), (2, .int x1)] := hl
  have hL10 := hwf.1
  refine lv_iload_n hx hb dX8_lastOf_0 rfl (lv_at hl 2 rfl) ?_
  refine lv_istore_n (lv' := [(3, .int x1), (0, .ref (zg Z 116)), (1, .int x0), (2, .int x1)]) hx hb dX8_lastOf_1 rfl hl (by decide) rfl (fun ls hl => ?_)
  refine lv_iconst (v := 0) hx hb dX8_lastOf_2 (by decide) ?_
  refine lv_istore (lv' := [(4, .int 0), (3, .int x1), (0, .ref (zg Z 116)), (1, .int x0), (2, .int x1)]) hx hb dX8_lastOf_3 hl (by decide) rfl (fun ls hl => ?_)
  have L5 : ∀ (n5 : Nat) (i : Nat) (x3 x4 : Int32), (x4 = nI i) → (x3 = lastN wd x1 L i) → (i ≤ L.length) → L.length - i < n5 → ∀ (H : Heap) (locs : List Loc), HS Z gs v w H locs → ∀ ls : Array Slot, lv_has ls 5 [(0, .ref (zg Z 116)), (1, .int x0), (2, .int x1), (3, .int x3), (4, .int x4)] → W gp gl ge (rmm 0 0) gs gm ga gb gh gc H locs 0 0 (MQ gb (Qi Z (fun r u => r = lastS wd x1 L ∧ (v, w) = u)) ga gs 0 0 (zA Z)) (F0 gm 5 ls []) := by
    intro n5
    induction n5 with
    | zero => intro i x3 x4 hx4 hx3 hi hmu; exact absurd hmu (Nat.not_lt_zero _)
    | succ n5 ih5 =>
      intro i x3 x4 hx4 hx3 hi hmu5 H locs h ls hl
      refine lv_aload_n hx hb dX8_lastOf_5 rfl (lv_at hl 0 rfl) ?_
      refine g_geti X h (k := 15) (cc_116) fr_RX8_102 rfl (by decide) dX8_lastOf_6 ?_
      refine lv_iconst (v := (-1)) hx hb dX8_lastOf_9 (by decide) ?_
      refine lv_icmp_eq (tgt := 68) hx hb dX8_lastOf_10 (by decide) (fun c_10 => ?_) (fun c_10 => ?_)
      · skip
        have hLe := curM_eq hcur c_10
        refine lv_iload_n hx hb dX8_lastOf_68 rfl (lv_at hl 3 rfl) ?_
        exact g_iret X h dX8_lastOf_69 (by refine ⟨?_, rfl⟩; have e := (getD_of (d := dC) (k := 0) hLe).1; rw [hx3, show i = L.length by omega]; rfl)
      · skip
        obtain ⟨j, hj6, hj, hrp⟩ := curM_ne hcur c_10
        refine lv_iload hx hb dX8_lastOf_13 (lv_at hl 4 rfl) ?_
        refine lv_aload_n hx hb dX8_lastOf_15 rfl (lv_at hl 0 rfl) ?_
        refine g_getr X h (k := 16) (t := 125) (cc_116) fr_RX8_36 rfl (by decide) (by decide) (by decide) dX8_lastOf_16 ?_
        refine lv_aload_n hx hb dX8_lastOf_19 rfl (lv_at hl 0 rfl) ?_
        refine g_geti X h (k := 15) (cc_116) fr_RX8_102 rfl (by decide) dX8_lastOf_20 ?_
        refine g_iald X h (k := j) (cc_125) hj (by omega) (by decide) dX8_lastOf_23 ?_
        refine lv_icmp_ge (tgt := 68) hx hb dX8_lastOf_24 (by decide) (fun c_24 => ?_) (fun c_24 => ?_)
        · skip
          have hil := nI_le1 (a := L.length) (b := i) hrp.1 hx4 (by omega) (by omega) c_24
          refine lv_iload_n hx hb dX8_lastOf_68 rfl (lv_at hl 3 rfl) ?_
          exact g_iret X h dX8_lastOf_69 (by refine ⟨?_, rfl⟩; rw [hx3, show i = L.length by omega]; rfl)
        · skip
          have hil := nI_le0 (a := L.length) (b := i) hrp.1 hx4 (by omega) (by omega) c_24
          obtain ⟨hw1, hw2, hw4, o, hw3, ho, hcd⟩ := hrp.2 i hil
          obtain ⟨hf5, hf99, hft⟩ := hwf.2 i hil
          refine lv_aload_n hx hb dX8_lastOf_27 rfl (lv_at hl 0 rfl) ?_
          refine g_getr X h (k := 17) (t := 126) (cc_116) fr_RX8_39 rfl (by decide) (by decide) (by decide) dX8_lastOf_28 ?_
          refine lv_bipush (v := 10) hx hb dX8_lastOf_31 (by decide) ?_
          refine lv_aload_n hx hb dX8_lastOf_33 rfl (lv_at hl 0 rfl) ?_
          refine g_geti X h (k := 15) (cc_116) fr_RX8_102 rfl (by decide) dX8_lastOf_34 ?_
          refine lv_imul hx hb dX8_lastOf_37 ?_
          refine lv_iload hx hb dX8_lastOf_38 (lv_at hl 4 rfl) ?_
          refine lv_iadd hx hb dX8_lastOf_40 ?_
          refine g_iald X h (k := ((10 * j) + i)) (cc_126) (by rw [show ((10 * (v 116 15))) = nI (10 * j) from (by rw [show (10) = nI 10 from rfl, show ((v 116 15)) = nI j from hj, pk_mul]), show (x4) = nI i from hx4, nI_add]) (by omega) (by decide) dX8_lastOf_41 ?_
          refine lv_iload_n hx hb dX8_lastOf_42 rfl (lv_at hl 1 rfl) ?_
          refine lv_icmp_ne (tgt := 62) hx hb dX8_lastOf_43 (by decide) (fun c_43 => ?_) (fun c_43 => ?_)
          · skip
            have h43 := nI_eq0 (a := (L.getD i dC).1) (b := wd) hw1 hwd c_43
            refine lv_iinc (v := (x4 + 1)) (lv' := [(4, .int (x4 + 1)), (0, .ref (zg Z 116)), (1, .int x0), (2, .int x1), (3, .int x3)]) hx hb dX8_lastOf_62 hl (k := 4) rfl rfl (by decide) rfl (fun ls hl => ?_)
            refine lv_goto (tgt := 5) hx hb dX8_lastOf_65 (by decide) ?_
            exact ih5 (i + 1) x3 (x4 + 1) (by rw [hx4]; exact nI_1 _) (by rw [hx3]; show _ = lastN _ _ _ (i + 1); rw [lastN, if_neg h43]) (by omega) (by omega) _ _ h ls (lv_sub hl [1, 2, 3, 4, 0] rfl)
          · skip
            have h43 := nI_eq1 (a := (L.getD i dC).1) (b := wd) hw1 hwd (by omega) (by omega) c_43
            refine lv_aload_n hx hb dX8_lastOf_46 rfl (lv_at hl 0 rfl) ?_
            refine g_getr X h (k := 18) (t := 127) (cc_116) fr_RX8_42 rfl (by decide) (by decide) (by decide) dX8_lastOf_47 ?_
            refine lv_bipush (v := 10) hx hb dX8_lastOf_50 (by decide) ?_
            refine lv_aload_n hx hb dX8_lastOf_52 rfl (lv_at hl 0 rfl) ?_
            refine g_geti X h (k := 15) (cc_116) fr_RX8_102 rfl (by decide) dX8_lastOf_53 ?_
            refine lv_imul hx hb dX8_lastOf_56 ?_
            refine lv_iload hx hb dX8_lastOf_57 (lv_at hl 4 rfl) ?_
            refine lv_iadd hx hb dX8_lastOf_59 ?_
            refine g_iald X h (k := ((10 * j) + i)) (cc_127) (by rw [show ((10 * (v 116 15))) = nI (10 * j) from (by rw [show (10) = nI 10 from rfl, show ((v 116 15)) = nI j from hj, pk_mul]), show (x4) = nI i from hx4, nI_add]) (by omega) (by decide) dX8_lastOf_60 ?_
            refine lv_topi (fun x3_61 ex3_61 => ?_)
            refine lv_istore_n (lv' := [(3, .int x3_61), (0, .ref (zg Z 116)), (1, .int x0), (2, .int x1), (4, .int x4)]) hx hb dX8_lastOf_61 rfl hl (by decide) rfl (fun ls hl => ?_)
            refine lv_iinc (v := (x4 + 1)) (lv' := [(4, .int (x4 + 1)), (3, .int x3_61), (0, .ref (zg Z 116)), (1, .int x0), (2, .int x1)]) hx hb dX8_lastOf_62 hl (k := 4) rfl rfl (by decide) rfl (fun ls hl => ?_)
            refine lv_goto (tgt := 5) hx hb dX8_lastOf_65 (by decide) ?_
            exact ih5 (i + 1) x3_61 (x4 + 1) (by rw [hx4]; exact nI_1 _) (by rw [ex3_61, hw2]; show _ = lastN _ _ _ (i + 1); rw [lastN, if_pos h43]) (by omega) (by omega) _ _ h ls (lv_sub hl [2, 3, 4, 1, 0] rfl)
  exact L5 (L.length - 0 + 1) 0 x1 0 rfl rfl (Nat.zero_le _) (Nat.lt_succ_self _) _ _ h ls (lv_sub hl [2, 3, 4, 1, 0] rfl)

set_option maxRecDepth 100000 in
set_option maxHeartbeats 1000000 in
theorem c_X8_cold (gl : Launch) (Z : PL) (v : VV) (w : WV) (n : Nat) (L : LND) (hwf : wfL L) (hcur : curM v L) : CT gl yX8_cold cX8_cold 1 (some .int) 1 24 Z [.ref (zg Z 116)] v w (Qi Z (fun r u => r = xM v n L 0 5 ∧ (v, w) = u)) := by
  refine g_met (by decide) (Nat.le_of_ble_eq_true rfl) ?_
  intro gp ge gs gm ga gb gh gc X h ls hl
  have hx := X.1
  have hb := X.2.1
  have hl : lv_has ls 1 [(0, .ref (zg Z 116))] := hl
  refine lv_aload_n hx hb dX8_cold_0 rfl (lv_at hl 0 rfl) ?_
  refine g_geti X h (k := 37) (cc_116) fr_RX8_105 rfl (by decide) dX8_cold_1 ?_
  refine lv_iconst (v := (-1)) hx hb dX8_cold_4 (by decide) ?_
  refine lv_icmp_ne (tgt := 17) hx hb dX8_cold_5 (by decide) (fun c_5 => ?_) (fun c_5 => ?_)
  · skip
    refine lv_aload_n hx hb dX8_cold_17 rfl (lv_at hl 0 rfl) ?_
    refine g_geti X h (k := 37) (cc_116) fr_RX8_105 rfl (by decide) dX8_cold_18 ?_
    exact g_iret X h dX8_cold_21 (by refine ⟨?_, rfl⟩; show _ = ite _ _ _; rw [if_neg c_5])
  · skip
    refine lv_aload_n hx hb dX8_cold_8 rfl (lv_at hl 0 rfl) ?_
    refine lv_iconst (v := 2) hx hb dX8_cold_9 (by decide) ?_
    refine lv_iconst (v := 5) hx hb dX8_cold_10 (by decide) ?_
    refine g_ki h (g_runV X h (As := [.int 2, .int 5]) (rest := []) (c_X8_lastOf gl Z v w 2 2 rfl 5 L hwf hcur (by omega)) mi_X8_lastOf ml_RX8_234 (cc_116) (by decide) kl8 rfl ⟨Nat.le_of_ble_eq_true rfl, Nat.le_of_ble_eq_true rfl⟩ rfl hl.1 rfl (Nat.le_of_ble_eq_true rfl) dX8_cold_11) (fun r11 v11 w11 H locs hp11 h => ?_)
    obtain ⟨hr11, hu11⟩ := hp11; obtain ⟨rfl, rfl⟩ := Prod.mk.inj hu11
    refine lv_goto (tgt := 21) hx hb dX8_cold_14 (by decide) ?_
    exact g_iret X h dX8_cold_21 (by refine ⟨?_, rfl⟩; show _ = ite _ _ _; rw [if_pos c_5, hr11])

set_option maxRecDepth 100000 in
set_option maxHeartbeats 1000000 in
theorem c_X8_pocket (gl : Launch) (Z : PL) (v : VV) (w : WV) (n : Nat) (L : LND) (hwf : wfL L) (hcur : curM v L) : CT gl yX8_pocket cX8_pocket 1 (some .int) 1 24 Z [.ref (zg Z 116)] v w (Qi Z (fun r u => r = xM v n L 0 6 ∧ (v, w) = u)) := by
  refine g_met (by decide) (Nat.le_of_ble_eq_true rfl) ?_
  intro gp ge gs gm ga gb gh gc X h ls hl
  have hx := X.1
  have hb := X.2.1
  have hl : lv_has ls 1 [(0, .ref (zg Z 116))] := hl
  refine lv_aload_n hx hb dX8_pocket_0 rfl (lv_at hl 0 rfl) ?_
  refine g_geti X h (k := 38) (cc_116) fr_RX8_108 rfl (by decide) dX8_pocket_1 ?_
  refine lv_iconst (v := (-1)) hx hb dX8_pocket_4 (by decide) ?_
  refine lv_icmp_ne (tgt := 18) hx hb dX8_pocket_5 (by decide) (fun c_5 => ?_) (fun c_5 => ?_)
  · skip
    refine lv_aload_n hx hb dX8_pocket_18 rfl (lv_at hl 0 rfl) ?_
    refine g_geti X h (k := 38) (cc_116) fr_RX8_108 rfl (by decide) dX8_pocket_19 ?_
    exact g_iret X h dX8_pocket_22 (by refine ⟨?_, rfl⟩; show _ = ite _ _ _; rw [if_neg c_5])
  · skip
    refine lv_aload_n hx hb dX8_pocket_8 rfl (lv_at hl 0 rfl) ?_
    refine lv_iconst (v := 3) hx hb dX8_pocket_9 (by decide) ?_
    refine lv_bipush (v := 10) hx hb dX8_pocket_10 (by decide) ?_
    refine g_ki h (g_runV X h (As := [.int 3, .int 10]) (rest := []) (c_X8_lastOf gl Z v w 3 3 rfl 10 L hwf hcur (by omega)) mi_X8_lastOf ml_RX8_234 (cc_116) (by decide) kl8 rfl ⟨Nat.le_of_ble_eq_true rfl, Nat.le_of_ble_eq_true rfl⟩ rfl hl.1 rfl (Nat.le_of_ble_eq_true rfl) dX8_pocket_12) (fun r12 v12 w12 H locs hp12 h => ?_)
    obtain ⟨hr12, hu12⟩ := hp12; obtain ⟨rfl, rfl⟩ := Prod.mk.inj hu12
    refine lv_goto (tgt := 22) hx hb dX8_pocket_15 (by decide) ?_
    exact g_iret X h dX8_pocket_22 (by refine ⟨?_, rfl⟩; show _ = ite _ _ _; rw [if_pos c_5, hr12])

set_option maxRecDepth 100000 in
set_option maxHeartbeats 1000000 in
theorem c_X8_welcome (gl : Launch) (Z : PL) (v : VV) (w : WV) (x0 : Int32) (p : Nat) (hp : x0 = nI p) (n : Nat) (B : Nat) (L : LND) (hd : DM v n B L) (hpn : p < n) : CT gl yX8_welcome cX8_welcome 2 (some .int) 3 74 Z [.ref (zg Z 116), .int x0] v w (Qi Z (fun r u => r = welS (xM v n L) L p ∧ ∃ f, (upc v 131 f, w) = u)) := by
  refine g_met (by decide) (Nat.le_of_ble_eq_true rfl) ?_
  intro gp ge gs gm ga gb gh gc X h ls hl
  have hx := X.1
  have hb := X.2.1
  have hl : lv_has ls 2 [(0, .ref (zg Z 116)), (1, .int x0)] := hl
  obtain ⟨hn, h6, hwf, hcur, hrx, hB⟩ := id hd
  refine lv_aload_n hx hb dX8_welcome_0 rfl (lv_at hl 0 rfl) ?_
  refine lv_iload_n hx hb dX8_welcome_1 rfl (lv_at hl 1 rfl) ?_
  refine g_ki h (g_runV X h (As := [.int x0]) (rest := []) (c_X8_door gl Z v w x0 p hp n B L hd (by first | assumption | omega)) mi_X8_door ml_RX8_237 (cc_116) (by decide) kl8 rfl ⟨Nat.le_of_ble_eq_true rfl, Nat.le_of_ble_eq_true rfl⟩ rfl hl.1 rfl (Nat.le_of_ble_eq_true rfl) dX8_welcome_2) (fun r2 v2 w2 H locs hp2 h => ?_)
  obtain ⟨hr2, f2, hf2⟩ := hp2
  obtain ⟨ev2, rfl⟩ := Prod.mk.inj hf2
  replace ev2 := ev2.symm
  refine lv_aload_n hx hb dX8_welcome_5 rfl (lv_at hl 0 rfl) ?_
  refine g_getr X h (k := 3) (t := 119) (cc_116) fr_RX8_18 rfl (by decide) (by decide) (by decide) dX8_welcome_6 ?_
  refine lv_iload_n hx hb dX8_welcome_9 rfl (lv_at hl 1 rfl) ?_
  refine g_iald X h (k := p) (cc_119) hp (by omega) (by decide) dX8_welcome_10 ?_
  refine g_tr (y := (v 119 p)) (by simp [ev2, up2, upc]) ?_
  refine lv_iadd hx hb dX8_welcome_11 ?_
  refine lv_aload_n hx hb dX8_welcome_12 rfl (lv_at hl 0 rfl) ?_
  refine g_geti X h (k := 8) (cc_116) fr_RX8_136 rfl (by decide) dX8_welcome_13 ?_
  refine g_tr (y := (v 116 8)) (by simp [ev2, up2, upc]) ?_
  refine lv_bipush (v := 10) hx hb dX8_welcome_16 (by decide) ?_
  refine lv_idiv hx hb dX8_welcome_18 (by decide) ?_
  refine lv_isub hx hb dX8_welcome_19 ?_
  exact g_iret X h dX8_welcome_20 (by refine ⟨?_, f2, by rw [ev2]⟩; rw [welS, xM_th (show p < 6 by omega), hr2, xM_02])

set_option maxRecDepth 100000 in
set_option maxHeartbeats 1000000 in
theorem c_X8_lets (gl : Launch) (Z : PL) (v : VV) (w : WV) (x0 : Int32) (p : Nat) (hp : x0 = nI p) (n : Nat) (B : Nat) (L : LND) (hd : DM v n B L) (hpn : p < n) : CT gl yX8_lets cX8_lets 2 (some .boolean) 4 95 Z [.ref (zg Z 116), .int x0] v w (Qi Z (fun r u => r = bI (letS (xM v n L) L p) ∧ ∃ f, (upc v 131 f, w) = u)) := by
  refine g_met (by decide) (Nat.le_of_ble_eq_true rfl) ?_
  intro gp ge gs gm ga gb gh gc X h ls hl
  have hx := X.1
  have hb := X.2.1
  have hl : lv_has ls 2 [(0, .ref (zg Z 116)), (1, .int x0)] := hl
  obtain ⟨hn, h6, hwf, hcur, hrx, hB⟩ := id hd
  refine lv_aload_n hx hb dX8_lets_0 rfl (lv_at hl 0 rfl) ?_
  refine g_getr X h (k := 5) (t := 121) (cc_116) fr_RX8_24 rfl (by decide) (by decide) (by decide) dX8_lets_1 ?_
  refine lv_iload_n hx hb dX8_lets_4 rfl (lv_at hl 1 rfl) ?_
  refine g_iald X h (k := p) (cc_121) hp (by omega) (by decide) dX8_lets_5 ?_
  refine lv_if_ne (tgt := 40) hx hb dX8_lets_6 (by decide) (fun c_6 => ?_) (fun c_6 => ?_)
  · skip
    refine lv_iconst (v := 0) hx hb dX8_lets_40 (by decide) ?_
    exact g_nret X h dX8_lets_41 rfl (by refine ⟨?_, v 131, by rw [upc_self]⟩; rw [letS, xM_dead (show p < 6 by omega)]; simp [c_6, bI])
  · skip
    refine lv_aload_n hx hb dX8_lets_9 rfl (lv_at hl 0 rfl) ?_
    refine lv_iload_n hx hb dX8_lets_10 rfl (lv_at hl 1 rfl) ?_
    refine g_ki h (g_runV X h (As := [.int x0]) (rest := []) (c_X8_welcome gl Z v w x0 p hp n B L hd (by first | assumption | omega)) mi_X8_welcome ml_RX8_122 (cc_116) (by decide) kl8 rfl ⟨Nat.le_of_ble_eq_true rfl, Nat.le_of_ble_eq_true rfl⟩ rfl hl.1 rfl (Nat.le_of_ble_eq_true rfl) dX8_lets_11) (fun r11 v11 w11 H locs hp11 h => ?_)
    obtain ⟨hr11, f11, hf11⟩ := hp11
    obtain ⟨ev11, rfl⟩ := Prod.mk.inj hf11
    replace ev11 := ev11.symm
    refine lv_if_lt (tgt := 40) hx hb dX8_lets_14 (by decide) (fun c_14 => ?_) (fun c_14 => ?_)
    · skip
      refine lv_iconst (v := 0) hx hb dX8_lets_40 (by decide) ?_
      exact g_nret X h dX8_lets_41 rfl (by refine ⟨?_, f11, by rw [ev11]⟩; rw [letS, xM_dead (show p < 6 by omega), ← hr11, xM_kd hpn, xM_02]; have z := Int32.not_le.mpr c_14; simp [z, bI])
    · skip
      refine lv_aload_n hx hb dX8_lets_17 rfl (lv_at hl 0 rfl) ?_
      refine g_getr X h (k := 1) (t := 117) (cc_116) fr_RX8_9 rfl (by decide) (by decide) (by decide) dX8_lets_18 ?_
      refine lv_iload_n hx hb dX8_lets_21 rfl (lv_at hl 1 rfl) ?_
      refine g_iald X h (k := p) (cc_117) hp (by omega) (by decide) dX8_lets_22 ?_
      refine g_tr (y := (v 117 p)) (by simp [ev11, up2, upc]) ?_
      refine lv_iconst (v := 2) hx hb dX8_lets_23 (by decide) ?_
      refine lv_icmp_ne (tgt := 36) hx hb dX8_lets_24 (by decide) (fun c_24 => ?_) (fun c_24 => ?_)
      · skip
        refine lv_iconst (v := 1) hx hb dX8_lets_36 (by decide) ?_
        refine lv_goto (tgt := 41) hx hb dX8_lets_37 (by decide) ?_
        exact g_nret X h dX8_lets_41 rfl (by refine ⟨?_, f11, by rw [ev11]⟩; rw [letS, xM_dead (show p < 6 by omega), ← hr11, xM_kd hpn, xM_02]; have z : (0 : Int32) ≤ r11 := Int32.not_lt.mp c_14; simp [c_6, z, c_24, bI])
      · skip
        refine lv_aload_n hx hb dX8_lets_27 rfl (lv_at hl 0 rfl) ?_
        refine g_geti X h (k := 8) (cc_116) fr_RX8_136 rfl (by decide) dX8_lets_28 ?_
        refine g_tr (y := (v 116 8)) (by simp [ev11, up2, upc]) ?_
        refine lv_bipush (v := 100) hx hb dX8_lets_31 (by decide) ?_
        refine lv_icmp_gt (tgt := 40) hx hb dX8_lets_33 (by decide) (fun c_33 => ?_) (fun c_33 => ?_)
        · skip
          refine lv_iconst (v := 0) hx hb dX8_lets_40 (by decide) ?_
          exact g_nret X h dX8_lets_41 rfl (by refine ⟨?_, f11, by rw [ev11]⟩; rw [letS, xM_dead (show p < 6 by omega), ← hr11, xM_kd hpn, xM_02]; have z : (0 : Int32) ≤ r11 := Int32.not_lt.mp c_14; have z2 := Int32.not_le.mpr c_33; simp [c_24, z2, bI])
        · skip
          refine lv_iconst (v := 1) hx hb dX8_lets_36 (by decide) ?_
          refine lv_goto (tgt := 41) hx hb dX8_lets_37 (by decide) ?_
          exact g_nret X h dX8_lets_41 rfl (by refine ⟨?_, f11, by rw [ev11]⟩; rw [letS, xM_dead (show p < 6 by omega), ← hr11, xM_kd hpn, xM_02]; have z : (0 : Int32) ≤ r11 := Int32.not_lt.mp c_14; have z2 := Int32.not_lt.mp c_33; simp [c_6, z, z2, bI])

set_option maxRecDepth 100000 in
set_option maxHeartbeats 1000000 in
theorem c_X8_prays (gl : Launch) (Z : PL) (v : VV) (w : WV) (x0 : Int32) (p : Nat) (hp : x0 = nI p) (n : Nat) (B : Nat) (L : LND) (hd : DM v n B L) (hpn : p < n) : CT gl yX8_prays cX8_prays 2 (some .int) 5 116 Z [.ref (zg Z 116), .int x0] v w (Qi Z (fun r u => r = prayS (xM v n L) L p ∧ ∃ f, (upc v 131 f, w) = u)) := by
  refine g_met (by decide) (Nat.le_of_ble_eq_true rfl) ?_
  intro gp ge gs gm ga gb gh gc X h ls hl
  have hx := X.1
  have hb := X.2.1
  have hl : lv_has ls 2 [(0, .ref (zg Z 116)), (1, .int x0)] := hl
  obtain ⟨hn, h6, hwf, hcur, hrx, hB⟩ := id hd
  obtain ⟨dy, hdy, hdB, hd4⟩ := RX_day hrx hB
  rw [xM_03] at hdy hd4
  obtain ⟨-, hv2, -, -⟩ := hrx.1 p hpn
  rw [xM_v (show p < 6 by omega)] at hv2
  refine lv_aload_n hx hb dX8_prays_0 rfl (lv_at hl 0 rfl) ?_
  refine g_getr X h (k := 5) (t := 121) (cc_116) fr_RX8_24 rfl (by decide) (by decide) (by decide) dX8_prays_1 ?_
  refine lv_iload_n hx hb dX8_prays_4 rfl (lv_at hl 1 rfl) ?_
  refine g_iald X h (k := p) (cc_121) hp (by omega) (by decide) dX8_prays_5 ?_
  refine lv_iconst (v := 1) hx hb dX8_prays_6 (by decide) ?_
  refine lv_icmp_ne (tgt := 12) hx hb dX8_prays_7 (by decide) (fun c_7 => ?_) (fun c_7 => ?_)
  · skip
    refine lv_aload_n hx hb dX8_prays_12 rfl (lv_at hl 0 rfl) ?_
    refine g_getr X h (k := 1) (t := 117) (cc_116) fr_RX8_9 rfl (by decide) (by decide) (by decide) dX8_prays_13 ?_
    refine lv_iload_n hx hb dX8_prays_16 rfl (lv_at hl 1 rfl) ?_
    refine g_iald X h (k := p) (cc_117) hp (by omega) (by decide) dX8_prays_17 ?_
    by_cases t18_1 : (v 117 p) = 1
    · refine lv_tableIn (off := 38) (tgt := 56) hx hb dX8_prays_18 (by rw [t18_1]; decide) (by rw [t18_1]; decide) (by rw [t18_1]; rfl) (by decide) ?_
      refine lv_aload_n hx hb dX8_prays_56 rfl (lv_at hl 0 rfl) ?_
      refine g_getr X h (k := 3) (t := 119) (cc_116) fr_RX8_18 rfl (by decide) (by decide) (by decide) dX8_prays_57 ?_
      refine lv_iload_n hx hb dX8_prays_60 rfl (lv_at hl 1 rfl) ?_
      refine g_iald X h (k := p) (cc_119) hp (by omega) (by decide) dX8_prays_61 ?_
      refine lv_iconst (v := 5) hx hb dX8_prays_62 (by decide) ?_
      refine lv_idiv hx hb dX8_prays_63 (by decide) ?_
      exact g_iret X h dX8_prays_64 (by refine ⟨?_, v 131, by rw [upc_self]⟩; rw [prayS, xM_dead (show p < 6 by omega), xM_kd hpn, xM_th (show p < 6 by omega)]; rw [if_neg c_7]; rw [if_pos t18_1])
    · skip
      by_cases t18_2 : (v 117 p) = 2
      · refine lv_tableIn (off := 47) (tgt := 65) hx hb dX8_prays_18 (by rw [t18_2]; decide) (by rw [t18_2]; decide) (by rw [t18_2]; rfl) (by decide) ?_
        refine lv_aload_n hx hb dX8_prays_65 rfl (lv_at hl 0 rfl) ?_
        refine g_getr X h (k := 3) (t := 119) (cc_116) fr_RX8_18 rfl (by decide) (by decide) (by decide) dX8_prays_66 ?_
        refine lv_iload_n hx hb dX8_prays_69 rfl (lv_at hl 1 rfl) ?_
        refine g_iald X h (k := p) (cc_119) hp (by omega) (by decide) dX8_prays_70 ?_
        refine lv_bipush (v := 10) hx hb dX8_prays_71 (by decide) ?_
        refine lv_idiv hx hb dX8_prays_73 (by decide) ?_
        refine lv_aload_n hx hb dX8_prays_74 rfl (lv_at hl 0 rfl) ?_
        refine lv_iload_n hx hb dX8_prays_75 rfl (lv_at hl 1 rfl) ?_
        refine g_ki h (g_runV X h (As := [.int x0]) (rest := [.int ((v 119 p) / 10)]) (c_X8_lets gl Z v w x0 p hp n B L hd (by first | assumption | omega)) mi_X8_lets ml_RX8_126 (cc_116) (by decide) kl8 rfl ⟨Nat.le_of_ble_eq_true rfl, Nat.le_of_ble_eq_true rfl⟩ rfl hl.1 rfl (Nat.le_of_ble_eq_true rfl) dX8_prays_76) (fun r76 v76 w76 H locs hp76 h => ?_)
        obtain ⟨hr76, f76, hf76⟩ := hp76
        obtain ⟨ev76, rfl⟩ := Prod.mk.inj hf76
        replace ev76 := ev76.symm
        refine lv_if_eq (tgt := 91) hx hb dX8_prays_79 (by decide) (fun c_79 => ?_) (fun c_79 => ?_)
        · skip
          rw [hr76, bI_0] at c_79
          refine lv_iconst (v := 0) hx hb dX8_prays_91 (by decide) ?_
          refine lv_iadd hx hb dX8_prays_92 ?_
          exact g_iret X h dX8_prays_93 (by refine ⟨?_, f76, by rw [ev76]⟩; rw [prayS, xM_dead (show p < 6 by omega), xM_kd hpn, xM_th (show p < 6 by omega)]; rw [if_neg c_7]; rw [if_neg t18_1, if_pos t18_2, xM_v (show p < 6 by omega), if_neg (by rw [c_79]; simp)])
        · skip
          rw [hr76, bI_n] at c_79
          refine lv_aload_n hx hb dX8_prays_82 rfl (lv_at hl 0 rfl) ?_
          refine g_getr X h (k := 2) (t := 118) (cc_116) fr_RX8_15 rfl (by decide) (by decide) (by decide) dX8_prays_83 ?_
          refine lv_iload_n hx hb dX8_prays_86 rfl (lv_at hl 1 rfl) ?_
          refine g_iald X h (k := p) (cc_118) hp (by omega) (by decide) dX8_prays_87 ?_
          refine g_tr (y := (v 118 p)) (by simp [ev76, up2, upc]) ?_
          refine lv_goto (tgt := 92) hx hb dX8_prays_88 (by decide) ?_
          refine lv_iadd hx hb dX8_prays_92 ?_
          exact g_iret X h dX8_prays_93 (by refine ⟨?_, f76, by rw [ev76]⟩; rw [prayS, xM_dead (show p < 6 by omega), xM_kd hpn, xM_th (show p < 6 by omega)]; rw [if_neg c_7]; rw [if_neg t18_1, if_pos t18_2, xM_v (show p < 6 by omega), if_pos c_79])
      · skip
        by_cases t18_3 : (v 117 p) = 3
        · refine lv_tableIn (off := 146) (tgt := 164) hx hb dX8_prays_18 (by rw [t18_3]; decide) (by rw [t18_3]; decide) (by rw [t18_3]; rfl) (by decide) ?_
          refine lv_aload_n hx hb dX8_prays_164 rfl (lv_at hl 0 rfl) ?_
          refine g_getr X h (k := 3) (t := 119) (cc_116) fr_RX8_18 rfl (by decide) (by decide) (by decide) dX8_prays_165 ?_
          refine lv_iload_n hx hb dX8_prays_168 rfl (lv_at hl 1 rfl) ?_
          refine g_iald X h (k := p) (cc_119) hp (by omega) (by decide) dX8_prays_169 ?_
          refine lv_bipush (v := 10) hx hb dX8_prays_170 (by decide) ?_
          refine lv_idiv hx hb dX8_prays_172 (by decide) ?_
          exact g_iret X h dX8_prays_173 (by refine ⟨?_, v 131, by rw [upc_self]⟩; rw [prayS, xM_dead (show p < 6 by omega), xM_kd hpn, xM_th (show p < 6 by omega)]; rw [if_neg c_7]; simp [t18_3])
        · skip
          by_cases t18_4 : (v 117 p) = 4
          · refine lv_tableIn (off := 76) (tgt := 94) hx hb dX8_prays_18 (by rw [t18_4]; decide) (by rw [t18_4]; decide) (by rw [t18_4]; rfl) (by decide) ?_
            refine lv_aload_n hx hb dX8_prays_94 rfl (lv_at hl 0 rfl) ?_
            refine g_geti X h (k := 11) (cc_116) fr_RX8_224 rfl (by decide) dX8_prays_95 ?_
            refine lv_aload_n hx hb dX8_prays_98 rfl (lv_at hl 0 rfl) ?_
            refine g_getr X h (k := 2) (t := 118) (cc_116) fr_RX8_15 rfl (by decide) (by decide) (by decide) dX8_prays_99 ?_
            refine lv_iload_n hx hb dX8_prays_102 rfl (lv_at hl 1 rfl) ?_
            refine g_iald X h (k := p) (cc_118) hp (by omega) (by decide) dX8_prays_103 ?_
            refine lv_iconst (v := 2) hx hb dX8_prays_104 (by decide) ?_
            refine lv_iadd hx hb dX8_prays_105 ?_
            refine lv_irem hx hb dX8_prays_106 (v2_ne hv2) ?_
            refine lv_if_ne (tgt := 114) hx hb dX8_prays_107 (by decide) (fun c_107 => ?_) (fun c_107 => ?_)
            · skip
              refine lv_aload_n hx hb dX8_prays_114 rfl (lv_at hl 0 rfl) ?_
              refine g_getr X h (k := 3) (t := 119) (cc_116) fr_RX8_18 rfl (by decide) (by decide) (by decide) dX8_prays_115 ?_
              refine lv_iload_n hx hb dX8_prays_118 rfl (lv_at hl 1 rfl) ?_
              refine g_iald X h (k := p) (cc_119) hp (by omega) (by decide) dX8_prays_119 ?_
              refine lv_iconst (v := 5) hx hb dX8_prays_120 (by decide) ?_
              refine lv_idiv hx hb dX8_prays_121 (by decide) ?_
              exact g_iret X h dX8_prays_122 (by refine ⟨?_, v 131, by rw [upc_self]⟩; rw [prayS, xM_dead (show p < 6 by omega), xM_kd hpn, xM_th (show p < 6 by omega)]; rw [if_neg c_7]; rw [if_neg t18_1, if_neg t18_2, if_pos t18_4, xM_v (show p < 6 by omega), xM_03]; exact (if_neg c_107).symm)
            · skip
              refine lv_iconst (v := 0) hx hb dX8_prays_110 (by decide) ?_
              refine lv_goto (tgt := 122) hx hb dX8_prays_111 (by decide) ?_
              exact g_iret X h dX8_prays_122 (by refine ⟨?_, v 131, by rw [upc_self]⟩; rw [prayS, xM_dead (show p < 6 by omega), xM_kd hpn, xM_th (show p < 6 by omega)]; rw [if_neg c_7]; rw [if_neg t18_1, if_neg t18_2, if_pos t18_4, xM_v (show p < 6 by omega), xM_03]; exact (if_pos c_107).symm)
          · skip
            by_cases t18_5 : (v 117 p) = 5
            · refine lv_tableIn (off := 105) (tgt := 123) hx hb dX8_prays_18 (by rw [t18_5]; decide) (by rw [t18_5]; decide) (by rw [t18_5]; rfl) (by decide) ?_
              refine lv_aload_n hx hb dX8_prays_123 rfl (lv_at hl 0 rfl) ?_
              refine g_getr X h (k := 3) (t := 119) (cc_116) fr_RX8_18 rfl (by decide) (by decide) (by decide) dX8_prays_124 ?_
              refine lv_iload_n hx hb dX8_prays_127 rfl (lv_at hl 1 rfl) ?_
              refine g_iald X h (k := p) (cc_119) hp (by omega) (by decide) dX8_prays_128 ?_
              refine lv_if_le (tgt := 136) hx hb dX8_prays_129 (by decide) (fun c_129 => ?_) (fun c_129 => ?_)
              · skip
                refine lv_iconst (v := 0) hx hb dX8_prays_136 (by decide) ?_
                exact g_iret X h dX8_prays_137 (by refine ⟨?_, v 131, by rw [upc_self]⟩; rw [prayS, xM_dead (show p < 6 by omega), xM_kd hpn, xM_th (show p < 6 by omega)]; rw [if_neg c_7]; rw [if_neg t18_1, if_neg t18_2, if_neg t18_4, if_pos t18_5]; exact (if_neg (Int32.not_lt.mpr c_129)).symm)
              · skip
                refine lv_iconst (v := 3) hx hb dX8_prays_132 (by decide) ?_
                refine lv_goto (tgt := 137) hx hb dX8_prays_133 (by decide) ?_
                exact g_iret X h dX8_prays_137 (by refine ⟨?_, v 131, by rw [upc_self]⟩; rw [prayS, xM_dead (show p < 6 by omega), xM_kd hpn, xM_th (show p < 6 by omega)]; rw [if_neg c_7]; rw [if_neg t18_1, if_neg t18_2, if_neg t18_4, if_pos t18_5]; exact (if_pos (Int32.not_le.mp c_129)).symm)
            · skip
              by_cases t18_6 : (v 117 p) = 6
              · refine lv_tableIn (off := 120) (tgt := 138) hx hb dX8_prays_18 (by rw [t18_6]; decide) (by rw [t18_6]; decide) (by rw [t18_6]; rfl) (by decide) ?_
                refine lv_aload_n hx hb dX8_prays_138 rfl (lv_at hl 0 rfl) ?_
                refine g_getr X h (k := 3) (t := 119) (cc_116) fr_RX8_18 rfl (by decide) (by decide) (by decide) dX8_prays_139 ?_
                refine lv_iload_n hx hb dX8_prays_142 rfl (lv_at hl 1 rfl) ?_
                refine g_iald X h (k := p) (cc_119) hp (by omega) (by decide) dX8_prays_143 ?_
                refine lv_bipush (v := 10) hx hb dX8_prays_144 (by decide) ?_
                refine lv_idiv hx hb dX8_prays_146 (by decide) ?_
                refine lv_aload_n hx hb dX8_prays_147 rfl (lv_at hl 0 rfl) ?_
                refine g_getr X h (k := 6) (t := 122) (cc_116) fr_RX8_27 rfl (by decide) (by decide) (by decide) dX8_prays_148 ?_
                refine lv_iconst (v := 4) hx hb dX8_prays_151 (by decide) ?_
                refine lv_iload_n hx hb dX8_prays_152 rfl (lv_at hl 1 rfl) ?_
                refine lv_imul hx hb dX8_prays_153 ?_
                refine lv_aload_n hx hb dX8_prays_154 rfl (lv_at hl 0 rfl) ?_
                refine g_geti X h (k := 11) (cc_116) fr_RX8_224 rfl (by decide) dX8_prays_155 ?_
                refine lv_iconst (v := 4) hx hb dX8_prays_158 (by decide) ?_
                refine lv_irem hx hb dX8_prays_159 (by decide) ?_
                refine lv_iadd hx hb dX8_prays_160 ?_
                refine g_iald X h (k := (4 * p + dy % 4)) (cc_122) (by rw [show v 116 11 - v 116 11 / 4 * 4 = nI (dy % 4) from hd4, hp]; exact (congrArg (fun z => z + nI (dy % 4)) (pk_mul 4 p)).trans (nI_add _ _)) (by have := Nat.mod_lt dy (show 0 < 4 by omega); omega) (by decide) dX8_prays_161 ?_
                refine lv_iadd hx hb dX8_prays_162 ?_
                exact g_iret X h dX8_prays_163 (by refine ⟨?_, v 131, by rw [upc_self]⟩; rw [prayS, xM_dead (show p < 6 by omega), xM_kd hpn, xM_th (show p < 6 by omega)]; rw [if_neg c_7]; rw [if_neg t18_1, if_neg t18_2, if_neg t18_4, if_neg t18_5, if_pos t18_6, xM_03, show imod (v 116 11) 4 = nI (dy % 4) from hd4, nI_clamp (by omega), xM_row (by omega)])
              · skip
                have q0 := lv_neT t18_1 (a := 1) (by decide)
                have q1 := lv_neT t18_2 (a := 2) (by decide)
                have q2 := lv_neT t18_3 (a := 3) (by decide)
                have q3 := lv_neT t18_4 (a := 4) (by decide)
                have q4 := lv_neT t18_5 (a := 5) (by decide)
                have q5 := lv_neT t18_6 (a := 6) (by decide)
                refine lv_tableOut (tgt := 164) hx hb dX8_prays_18 (by omega) (by decide) ?_
                refine lv_aload_n hx hb dX8_prays_164 rfl (lv_at hl 0 rfl) ?_
                refine g_getr X h (k := 3) (t := 119) (cc_116) fr_RX8_18 rfl (by decide) (by decide) (by decide) dX8_prays_165 ?_
                refine lv_iload_n hx hb dX8_prays_168 rfl (lv_at hl 1 rfl) ?_
                refine g_iald X h (k := p) (cc_119) hp (by omega) (by decide) dX8_prays_169 ?_
                refine lv_bipush (v := 10) hx hb dX8_prays_170 (by decide) ?_
                refine lv_idiv hx hb dX8_prays_172 (by decide) ?_
                exact g_iret X h dX8_prays_173 (by refine ⟨?_, v 131, by rw [upc_self]⟩; rw [prayS, xM_dead (show p < 6 by omega), xM_kd hpn, xM_th (show p < 6 by omega)]; rw [if_neg c_7]; simp [t18_1, t18_2, t18_4, t18_5, t18_6])
  · skip
    refine lv_iconst (v := 0) hx hb dX8_prays_10 (by decide) ?_
    exact g_iret X h dX8_prays_11 (by refine ⟨?_, v 131, by rw [upc_self]⟩; rw [prayS, xM_dead (show p < 6 by omega), xM_kd hpn, xM_th (show p < 6 by omega)]; exact (if_pos c_7).symm)

set_option maxRecDepth 100000 in
set_option maxHeartbeats 1000000 in
theorem c_X8_thanksFor (gl : Launch) (Z : PL) (v : VV) (w : WV) (x0 : Int32) (p : Nat) (hp : x0 = nI p) (x1 : Int32) (n : Nat) (L : LND) (h6 : n ≤ 6) (hpn : p < n) : CT gl yX8_thanksFor cX8_thanksFor 3 (some .int) 0 0 Z [.ref (zg Z 116), .int x0, .int x1] v w (Qi Z (fun r u => r = tforS (xM v n L) p x1 ∧ (v, w) = u)) := by
  refine g_met (by decide) (Nat.le_of_ble_eq_true rfl) ?_
  intro gp ge gs gm ga gb gh gc X h ls hl
  have hx := X.1
  have hb := X.2.1
  have hl : lv_has ls 3 [(0, .ref (zg Z 116)), (1, .int x0), (2, .int x1)] := hl
  refine lv_aload_n hx hb dX8_thanksFor_0 rfl (lv_at hl 0 rfl) ?_
  refine g_getr X h (k := 1) (t := 117) (cc_116) fr_RX8_9 rfl (by decide) (by decide) (by decide) dX8_thanksFor_1 ?_
  refine lv_iload_n hx hb dX8_thanksFor_4 rfl (lv_at hl 1 rfl) ?_
  refine g_iald X h (k := p) (cc_117) hp (by omega) (by decide) dX8_thanksFor_5 ?_
  by_cases t6_2 : (v 117 p) = 2
  · refine lv_tableIn (off := 34) (tgt := 40) hx hb dX8_thanksFor_6 (by rw [t6_2]; decide) (by rw [t6_2]; decide) (by rw [t6_2]; rfl) (by decide) ?_
    refine lv_iload_n hx hb dX8_thanksFor_40 rfl (lv_at hl 2 rfl) ?_
    refine lv_iconst (v := 2) hx hb dX8_thanksFor_41 (by decide) ?_
    refine lv_idiv hx hb dX8_thanksFor_42 (by decide) ?_
    exact g_iret X h dX8_thanksFor_43 (by refine ⟨?_, rfl⟩; rw [tforS, xM_kd hpn, xM_v (show p < 6 by omega)]; simp [t6_2])
  · skip
    by_cases t6_3 : (v 117 p) = 3
    · refine lv_tableIn (off := 38) (tgt := 44) hx hb dX8_thanksFor_6 (by rw [t6_3]; decide) (by rw [t6_3]; decide) (by rw [t6_3]; rfl) (by decide) ?_
      refine lv_iload_n hx hb dX8_thanksFor_44 rfl (lv_at hl 2 rfl) ?_
      refine lv_aload_n hx hb dX8_thanksFor_45 rfl (lv_at hl 0 rfl) ?_
      refine g_getr X h (k := 2) (t := 118) (cc_116) fr_RX8_15 rfl (by decide) (by decide) (by decide) dX8_thanksFor_46 ?_
      refine lv_iload_n hx hb dX8_thanksFor_49 rfl (lv_at hl 1 rfl) ?_
      refine g_iald X h (k := p) (cc_118) hp (by omega) (by decide) dX8_thanksFor_50 ?_
      refine lv_iadd hx hb dX8_thanksFor_51 ?_
      exact g_iret X h dX8_thanksFor_52 (by refine ⟨?_, rfl⟩; rw [tforS, xM_kd hpn, xM_v (show p < 6 by omega)]; simp [t6_3])
    · skip
      by_cases t6_4 : (v 117 p) = 4
      · refine lv_tableIn (off := 47) (tgt := 53) hx hb dX8_thanksFor_6 (by rw [t6_4]; decide) (by rw [t6_4]; decide) (by rw [t6_4]; rfl) (by decide) ?_
        refine lv_iload_n hx hb dX8_thanksFor_53 rfl (lv_at hl 2 rfl) ?_
        exact g_iret X h dX8_thanksFor_54 (by refine ⟨?_, rfl⟩; rw [tforS, xM_kd hpn, xM_v (show p < 6 by omega)]; simp [t6_4])
      · skip
        by_cases t6_5 : (v 117 p) = 5
        · refine lv_tableIn (off := 34) (tgt := 40) hx hb dX8_thanksFor_6 (by rw [t6_5]; decide) (by rw [t6_5]; decide) (by rw [t6_5]; rfl) (by decide) ?_
          refine lv_iload_n hx hb dX8_thanksFor_40 rfl (lv_at hl 2 rfl) ?_
          refine lv_iconst (v := 2) hx hb dX8_thanksFor_41 (by decide) ?_
          refine lv_idiv hx hb dX8_thanksFor_42 (by decide) ?_
          exact g_iret X h dX8_thanksFor_43 (by refine ⟨?_, rfl⟩; rw [tforS, xM_kd hpn, xM_v (show p < 6 by omega)]; simp [t6_5])
        · skip
          by_cases t6_6 : (v 117 p) = 6
          · refine lv_tableIn (off := 38) (tgt := 44) hx hb dX8_thanksFor_6 (by rw [t6_6]; decide) (by rw [t6_6]; decide) (by rw [t6_6]; rfl) (by decide) ?_
            refine lv_iload_n hx hb dX8_thanksFor_44 rfl (lv_at hl 2 rfl) ?_
            refine lv_aload_n hx hb dX8_thanksFor_45 rfl (lv_at hl 0 rfl) ?_
            refine g_getr X h (k := 2) (t := 118) (cc_116) fr_RX8_15 rfl (by decide) (by decide) (by decide) dX8_thanksFor_46 ?_
            refine lv_iload_n hx hb dX8_thanksFor_49 rfl (lv_at hl 1 rfl) ?_
            refine g_iald X h (k := p) (cc_118) hp (by omega) (by decide) dX8_thanksFor_50 ?_
            refine lv_iadd hx hb dX8_thanksFor_51 ?_
            exact g_iret X h dX8_thanksFor_52 (by refine ⟨?_, rfl⟩; rw [tforS, xM_kd hpn, xM_v (show p < 6 by omega)]; simp [t6_6])
          · skip
            have q0 := lv_neT t6_2 (a := 2) (by decide)
            have q1 := lv_neT t6_3 (a := 3) (by decide)
            have q2 := lv_neT t6_4 (a := 4) (by decide)
            have q3 := lv_neT t6_5 (a := 5) (by decide)
            have q4 := lv_neT t6_6 (a := 6) (by decide)
            refine lv_tableOut (tgt := 53) hx hb dX8_thanksFor_6 (by omega) (by decide) ?_
            refine lv_iload_n hx hb dX8_thanksFor_53 rfl (lv_at hl 2 rfl) ?_
            exact g_iret X h dX8_thanksFor_54 (by refine ⟨?_, rfl⟩; rw [tforS, xM_kd hpn, xM_v (show p < 6 by omega)]; simp [t6_2, t6_3, t6_5, t6_6])

set_option maxRecDepth 100000 in
set_option maxHeartbeats 1000000 in
theorem c_X8_letting (gl : Launch) (Z : PL) (v : VV) (w : WV) (n : Nat) (B : Nat) (L : LND) (hd : DM v n B L) : CT gl yX8_letting cX8_letting 3 (some .int) 5 116 Z [.ref (zg Z 116)] v w (Qi Z (fun r u => r = bitsS (xM v n L) L n ∧ ∃ f, (upc v 131 f, w) = u)) := by
  refine g_met (by decide) (Nat.le_of_ble_eq_true rfl) ?_
  intro gp ge gs gm ga gb gh gc X h ls hl
  have hx := X.1
  have hb := X.2.1
  have hl : lv_has ls 3 [(0, .ref (zg Z 116))] := hl
  obtain ⟨hn, h6, hwf, hcur, hrx, hB⟩ := id hd
  refine lv_iconst (v := 0) hx hb dX8_letting_0 (by decide) ?_
  refine lv_istore_n (lv' := [(1, .int 0), (0, .ref (zg Z 116))]) hx hb dX8_letting_1 rfl hl (by decide) rfl (fun ls hl => ?_)
  refine lv_iconst (v := 0) hx hb dX8_letting_2 (by decide) ?_
  refine lv_istore_n (lv' := [(2, .int 0), (1, .int 0), (0, .ref (zg Z 116))]) hx hb dX8_letting_3 rfl hl (by decide) rfl (fun ls hl => ?_)
  have L4 : ∀ (n4 : Nat) (i : Nat) (x1 x2 : Int32) (f : Nat → Int32) (va : VV), (x2 = nI i) → (x1 = bitsS (xM v n L) L i) → (i ≤ n) → (va = upc v 131 f) → n - i < n4 → ∀ (H : Heap) (locs : List Loc), HS Z gs va w H locs → ∀ ls : Array Slot, lv_has ls 3 [(0, .ref (zg Z 116)), (1, .int x1), (2, .int x2)] → W gp gl ge (rmm 5 116) gs gm ga gb gh gc H locs 0 0 (MQ gb (Qi Z (fun r u => r = bitsS (xM v n L) L n ∧ ∃ f, (upc v 131 f, w) = u)) ga gs 0 0 (zA Z)) (F0 gm 4 ls []) := by
    intro n4
    induction n4 with
    | zero => intro i x1 x2 f va hx2 hx1 hi hva hmu; exact absurd hmu (Nat.not_lt_zero _)
    | succ n4 ih4 =>
      intro i x1 x2 f va hx2 hx1 hi hva hmu4 H locs h ls hl
      refine lv_iload_n hx hb dX8_letting_4 rfl (lv_at hl 2 rfl) ?_
      refine lv_aload_n hx hb dX8_letting_5 rfl (lv_at hl 0 rfl) ?_
      refine g_geti X h (k := 0) (cc_116) fr_RX8_111 rfl (by decide) dX8_letting_6 ?_
      refine g_tr (y := (v 116 0)) (by simp [hva, up2, upc]) ?_
      refine lv_icmp_ge (tgt := 32) hx hb dX8_letting_9 (by decide) (fun c_9 => ?_) (fun c_9 => ?_)
      · skip
        have hil := nI_le1 (a := n) (b := i) hn hx2 (by omega) (by omega) c_9
        refine lv_iload_n hx hb dX8_letting_32 rfl (lv_at hl 1 rfl) ?_
        exact g_iret X h dX8_letting_33 (by refine ⟨?_, f, by rw [hva]⟩; rw [hx1, show i = n by omega])
      · skip
        have hil := nI_le0 (a := n) (b := i) hn hx2 (by omega) (by omega) c_9
        refine lv_aload_n hx hb dX8_letting_12 rfl (lv_at hl 0 rfl) ?_
        refine lv_iload_n hx hb dX8_letting_13 rfl (lv_at hl 2 rfl) ?_
        refine g_ki h (g_runV X h (As := [.int x2]) (rest := []) (c_X8_lets gl Z va w x2 i hx2 n B L (DM.stk hd hva) hil) mi_X8_lets ml_RX8_126 (cc_116) (by decide) kl8 rfl ⟨Nat.le_of_ble_eq_true rfl, Nat.le_of_ble_eq_true rfl⟩ rfl hl.1 rfl (Nat.le_of_ble_eq_true rfl) dX8_letting_14) (fun r14 v14 w14 H locs hp14 h => ?_)
        obtain ⟨hr14, f14, hf14⟩ := hp14
        obtain ⟨ev14, rfl⟩ := Prod.mk.inj hf14
        replace ev14 := ev14.symm
        rw [xM.stk hva] at hr14
        refine lv_if_eq (tgt := 26) hx hb dX8_letting_17 (by decide) (fun c_17 => ?_) (fun c_17 => ?_)
        · skip
          rw [hr14, bI_0] at c_17
          refine lv_iinc (v := (x2 + 1)) (lv' := [(2, .int (x2 + 1)), (0, .ref (zg Z 116)), (1, .int x1)]) hx hb dX8_letting_26 hl (k := 2) rfl rfl (by decide) rfl (fun ls hl => ?_)
          refine lv_goto (tgt := 4) hx hb dX8_letting_29 (by decide) ?_
          exact ih4 (i + 1) x1 (x2 + 1) f14 v14 (by rw [hx2]; exact nI_1 _) (by rw [hx1]; show _ = bitsS _ _ (i + 1); rw [bitsS, if_neg (by rw [c_17]; simp)]) (by omega) (by rw [ev14, hva, upc_upc]) (by omega) _ _ h ls (lv_sub hl [1, 2, 0] rfl)
        · skip
          rw [hr14, bI_n] at c_17
          refine lv_iload_n hx hb dX8_letting_20 rfl (lv_at hl 1 rfl) ?_
          refine lv_iconst (v := 1) hx hb dX8_letting_21 (by decide) ?_
          refine lv_iload_n hx hb dX8_letting_22 rfl (lv_at hl 2 rfl) ?_
          refine lv_ishl hx hb dX8_letting_23 ?_
          refine lv_ior hx hb dX8_letting_24 ?_
          refine lv_topi (fun x1_25 ex1_25 => ?_)
          refine lv_istore_n (lv' := [(1, .int x1_25), (0, .ref (zg Z 116)), (2, .int x2)]) hx hb dX8_letting_25 rfl hl (by decide) rfl (fun ls hl => ?_)
          refine lv_iinc (v := (x2 + 1)) (lv' := [(2, .int (x2 + 1)), (1, .int x1_25), (0, .ref (zg Z 116))]) hx hb dX8_letting_26 hl (k := 2) rfl rfl (by decide) rfl (fun ls hl => ?_)
          refine lv_goto (tgt := 4) hx hb dX8_letting_29 (by decide) ?_
          exact ih4 (i + 1) x1_25 (x2 + 1) f14 v14 (by rw [hx2]; exact nI_1 _) (by rw [ex1_25, hx1, hx2]; show _ = bitsS _ _ (i + 1); rw [bitsS, if_pos c_17]) (by omega) (by rw [ev14, hva, upc_upc]) (by omega) _ _ h ls (lv_sub hl [2, 1, 0] rfl)
  exact L4 (n - 0 + 1) 0 0 0 (v 131) v rfl rfl (Nat.zero_le _) (upc_self v 131).symm (Nat.lt_succ_self _) _ _ h ls (lv_sub hl [2, 1, 0] rfl)

set_option maxRecDepth 100000 in
set_option maxHeartbeats 1000000 in
theorem c_X8_prayers (gl : Launch) (Z : PL) (v : VV) (w : WV) (n : Nat) (B : Nat) (L : LND) (hd : DM v n B L) : CT gl yX8_prayers cX8_prayers 3 (some .int) 6 137 Z [.ref (zg Z 116)] v w (Qi Z (fun r u => r = lsum (prayS (xM v n L) L) n ∧ ∃ f, (upc v 131 f, w) = u)) := by
  refine g_met (by decide) (Nat.le_of_ble_eq_true rfl) ?_
  intro gp ge gs gm ga gb gh gc X h ls hl
  have hx := X.1
  have hb := X.2.1
  have hl : lv_has ls 3 [(0, .ref (zg Z 116))] := hl
  obtain ⟨hn, h6, hwf, hcur, hrx, hB⟩ := id hd
  refine lv_iconst (v := 0) hx hb dX8_prayers_0 (by decide) ?_
  refine lv_istore_n (lv' := [(1, .int 0), (0, .ref (zg Z 116))]) hx hb dX8_prayers_1 rfl hl (by decide) rfl (fun ls hl => ?_)
  refine lv_iconst (v := 0) hx hb dX8_prayers_2 (by decide) ?_
  refine lv_istore_n (lv' := [(2, .int 0), (1, .int 0), (0, .ref (zg Z 116))]) hx hb dX8_prayers_3 rfl hl (by decide) rfl (fun ls hl => ?_)
  have L4 : ∀ (n4 : Nat) (i : Nat) (x1 x2 : Int32) (f : Nat → Int32) (va : VV), (x2 = nI i) → (x1 = lsum (prayS (xM v n L) L) i) → (i ≤ n) → (va = upc v 131 f) → n - i < n4 → ∀ (H : Heap) (locs : List Loc), HS Z gs va w H locs → ∀ ls : Array Slot, lv_has ls 3 [(0, .ref (zg Z 116)), (1, .int x1), (2, .int x2)] → W gp gl ge (rmm 6 137) gs gm ga gb gh gc H locs 0 0 (MQ gb (Qi Z (fun r u => r = lsum (prayS (xM v n L) L) n ∧ ∃ f, (upc v 131 f, w) = u)) ga gs 0 0 (zA Z)) (F0 gm 4 ls []) := by
    intro n4
    induction n4 with
    | zero => intro i x1 x2 f va hx2 hx1 hi hva hmu; exact absurd hmu (Nat.not_lt_zero _)
    | succ n4 ih4 =>
      intro i x1 x2 f va hx2 hx1 hi hva hmu4 H locs h ls hl
      refine lv_iload_n hx hb dX8_prayers_4 rfl (lv_at hl 2 rfl) ?_
      refine lv_aload_n hx hb dX8_prayers_5 rfl (lv_at hl 0 rfl) ?_
      refine g_geti X h (k := 0) (cc_116) fr_RX8_111 rfl (by decide) dX8_prayers_6 ?_
      refine g_tr (y := (v 116 0)) (by simp [hva, up2, upc]) ?_
      refine lv_icmp_ge (tgt := 26) hx hb dX8_prayers_9 (by decide) (fun c_9 => ?_) (fun c_9 => ?_)
      · skip
        have hil := nI_le1 (a := n) (b := i) hn hx2 (by omega) (by omega) c_9
        refine lv_iload_n hx hb dX8_prayers_26 rfl (lv_at hl 1 rfl) ?_
        exact g_iret X h dX8_prayers_27 (by refine ⟨?_, f, by rw [hva]⟩; rw [hx1, show i = n by omega])
      · skip
        have hil := nI_le0 (a := n) (b := i) hn hx2 (by omega) (by omega) c_9
        refine lv_iload_n hx hb dX8_prayers_12 rfl (lv_at hl 1 rfl) ?_
        refine lv_aload_n hx hb dX8_prayers_13 rfl (lv_at hl 0 rfl) ?_
        refine lv_iload_n hx hb dX8_prayers_14 rfl (lv_at hl 2 rfl) ?_
        refine g_ki h (g_runV X h (As := [.int x2]) (rest := [.int x1]) (c_X8_prays gl Z va w x2 i hx2 n B L (DM.stk hd hva) hil) mi_X8_prays ml_RX8_129 (cc_116) (by decide) kl8 rfl ⟨Nat.le_of_ble_eq_true rfl, Nat.le_of_ble_eq_true rfl⟩ rfl hl.1 rfl (Nat.le_of_ble_eq_true rfl) dX8_prayers_15) (fun r15 v15 w15 H locs hp15 h => ?_)
        obtain ⟨hr15, f15, hf15⟩ := hp15
        obtain ⟨ev15, rfl⟩ := Prod.mk.inj hf15
        replace ev15 := ev15.symm
        rw [xM.stk hva] at hr15
        refine lv_iadd hx hb dX8_prayers_18 ?_
        refine lv_topi (fun x1_19 ex1_19 => ?_)
        refine lv_istore_n (lv' := [(1, .int x1_19), (0, .ref (zg Z 116)), (2, .int x2)]) hx hb dX8_prayers_19 rfl hl (by decide) rfl (fun ls hl => ?_)
        refine lv_iinc (v := (x2 + 1)) (lv' := [(2, .int (x2 + 1)), (1, .int x1_19), (0, .ref (zg Z 116))]) hx hb dX8_prayers_20 hl (k := 2) rfl rfl (by decide) rfl (fun ls hl => ?_)
        refine lv_goto (tgt := 4) hx hb dX8_prayers_23 (by decide) ?_
        exact ih4 (i + 1) x1_19 (x2 + 1) f15 v15 (by rw [hx2]; exact nI_1 _) (by rw [ex1_19, hx1, hr15]; rfl) (by omega) (by rw [ev15, hva, upc_upc]) (by omega) _ _ h ls (lv_sub hl [2, 1, 0] rfl)
  exact L4 (n - 0 + 1) 0 0 0 (v 131) v rfl rfl (Nat.zero_le _) (upc_self v 131).symm (Nat.lt_succ_self _) _ _ h ls (lv_sub hl [2, 1, 0] rfl)
