theorem curM_ne {v : VV} {L : LND} (h : curM v L) (h1 : ¬ v 116 15 = -1) : ∃ j, j < 6 ∧ v 116 15 = nI j ∧ repM v j L := by
  rcases h with h | h
  · exact absurd h.1 h1
  · exact h
theorem curM_eq {v : VV} {L : LND} (h : curM v L) (h1 : v 116 15 = -1) : L = [] := by
  rcases h with h | ⟨j, hj, h2, -⟩
  · exact h.2
  · exfalso
    rw [h1] at h2
    have := congrArg Int32.toInt h2
    rw [nI_toInt (by omega)] at this
    have e : (-1 : Int32).toInt = -1 := by decide
    omega
theorem st_push {h t : Nat} {b : Nat → Bool} {s : Nat × (Nat → Bool)} {g : Nat → Int32} {x : Int32} (hst : ∀ j, j < h → g j = bI (s.2 j)) (hs : s.1 = h) (ht : 3 ≤ t) (hx : x = bI (b (t - 3))) : ∀ j, j < hstep t h → upd g h x j = bI ((mstep b t s).2 j) := by
  intro j hj
  rw [hstep, if_pos ht] at hj
  rw [mstep, if_pos ht, hs]
  by_cases e : j = h
  · subst e; simp [upd, updB, hx]
  · simp only [upd, updB, if_neg e]
    exact hst j (by omega)
theorem st_not {h t : Nat} {b : Nat → Bool} {s : Nat × (Nat → Bool)} {g : Nat → Int32} {x : Int32} (hst : ∀ j, j < h → g j = bI (s.2 j)) (hs : s.1 = h) (ht : t = 2) (h1 : 1 ≤ h) (hx : x = bI (!s.2 (h - 1))) : ∀ j, j < hstep t h → upd g (h - 1) x j = bI ((mstep b t s).2 j) := by
  intro j hj
  subst ht
  have hj2 : j < h := by simpa [hstep] using hj
  simp only [mstep, hs]
  by_cases e : j = h - 1
  · subst e; simp [upd, updB, hx]
  · simp only [upd, if_neg e]
    rw [hst j hj2]
    simp [updB, e]
theorem st_bin {h t : Nat} {b : Nat → Bool} {s : Nat × (Nat → Bool)} {g : Nat → Int32} {x : Int32} (hst : ∀ j, j < h → g j = bI (s.2 j)) (hs : s.1 = h) (ht : t < 2) (h1 : 2 ≤ h) (hx : x = bI (if t = 0 then s.2 (h - 2) && s.2 (h - 1) else s.2 (h - 2) || s.2 (h - 1))) : ∀ j, j < hstep t h → upd g (h - 2) x j = bI ((mstep b t s).2 j) := by
  intro j hj
  have h3 : ¬ 3 ≤ t := by omega
  have h2 : ¬ t = 2 := by omega
  rw [hstep, if_neg h3, if_neg h2] at hj
  rw [mstep, if_neg h3, if_neg h2, hs]
  by_cases e : j = h - 2
  · subst e; simp only [upd, updB, if_pos]; exact hx
  · simp only [upd, updB, if_neg e]
    exact hst j (by omega)
theorem vz1 : vp_nar .boolean 1 = 1 := by decide
theorem vz0 : vp_nar .boolean 0 = 0 := by decide
theorem nI_sub3 {t : Nat} (h : 3 ≤ t) : nI t - 3 = nI (t - 3) := pk_sub h
theorem nI_d300 {t : Nat} (h : t < 2 ^ 31) : nI t / 300 = nI (t / 300) := pk_div h (by decide) (by decide)
theorem nI_d100 {t : Nat} (h : t < 2 ^ 31) : nI t / 100 = nI (t / 100) := pk_div h (by decide) (by decide)
theorem nI_m100 {t : Nat} (h : t < 2 ^ 31) : nI t - nI t / 100 * 100 = nI (t % 100) := pk_rem (d := 100) h (by decide) (by decide)
theorem nI_m3 {t : Nat} (h : t < 2 ^ 31) : nI t - nI t / 3 * 3 = nI (t % 3) := pk_rem (d := 3) h (by decide) (by decide)
theorem nI_lt1 {a b : Nat} {x y : Int32} (hx : x = nI a) (hy : y = nI b) (ha : a < 2 ^ 31) (hb : b < 2 ^ 31) (h : x < y) : a < b := (nI_ltI ha hb).mp (by rw [← hx, ← hy]; exact h)
theorem nI_lt0 {a b : Nat} {x y : Int32} (hx : x = nI a) (hy : y = nI b) (ha : a < 2 ^ 31) (hb : b < 2 ^ 31) (h : ¬ x < y) : b ≤ a := by
  rcases Nat.lt_or_ge a b with q | q
  · exact absurd (by rw [hx, hy]; exact nI_lt q hb) h
  · exact q
theorem nI_le1 {a b : Nat} {x y : Int32} (hx : x = nI a) (hy : y = nI b) (ha : a < 2 ^ 31) (hb : b < 2 ^ 31) (h : x ≤ y) : a ≤ b := (nI_leI ha hb).mp (by rw [← hx, ← hy]; exact h)
theorem nI_le0 {a b : Nat} {x y : Int32} (hx : x = nI a) (hy : y = nI b) (ha : a < 2 ^ 31) (hb : b < 2 ^ 31) (h : ¬ x ≤ y) : b < a := by
  rcases Nat.lt_or_ge b a with q | q
  · exact q
  · exact absurd (by rw [hx, hy]; exact nI_le q hb) h
theorem nI_eq1 {a b : Nat} {x y : Int32} (hx : x = nI a) (hy : y = nI b) (ha : a < 2 ^ 31) (hb : b < 2 ^ 31) (h : x = y) : a = b := nI_inj ha hb (by rw [← hx, ← hy]; exact h)
theorem nI_eq0 {a b : Nat} {x y : Int32} (hx : x = nI a) (hy : y = nI b) (h : ¬ x = y) : a ≠ b := fun e => h (by rw [hx, hy, e])
theorem getD_of {α : Type} {l : List α} {d : α} {k : Nat} (h : l = []) : l.length = 0 ∧ l.getD k d = d := by subst h; exact ⟨rfl, rfl⟩
theorem hrun_le {tk : List Nat} {T : Nat → Nat} {k : Nat} (hw : ∀ k, k < tk.length → tk.getD k 0 < 1803 ∧ (3 ≤ tk.getD k 0 → hrun (fun k => tk.getD k 0) k < 11) ∧ (tk.getD k 0 = 2 → 1 ≤ hrun (fun k => tk.getD k 0) k) ∧ (tk.getD k 0 < 2 → 2 ≤ hrun (fun k => tk.getD k 0) k)) (hT : T = fun k => tk.getD k 0) (hk : k ≤ tk.length) : hrun T k < 12 := by
  subst hT
  induction k with
  | zero => simp [hrun]
  | succ k ih =>
    have h1 := hw k hk
    have h2 := ih (by omega)
    simp only [hrun, hstep]
    split
    · have := h1.2.1 (by assumption); omega
    · split <;> omega
theorem binx {h : Nat} (h2 : 2 ≤ h) : nI h + (-1) - 1 = nI (h - 2) := by
  rw [sb_m1 (by omega)]
  exact pk_sub (a := h - 1) (b := 1) (by omega)
set_option maxRecDepth 100000 in
set_option maxHeartbeats 4000000 in
theorem c_X8_letterOf (gl : Launch) (Z : PL) (v : VV) (w : WV) (x0 : Int32) (p : Nat) (hp : x0 = nI p) (x1 : Int32) (lt : Nat) (hlt : x1 = nI lt) (n : Nat) (B : Nat) (L : LND) (hd : DM v n B L) (hpn : p < n) (hlt5 : lt ≤ 5) : CT gl yX8_letterOf cX8_letterOf 3 (some .int) 0 0 Z [.ref (zg Z 116), .int x0, .int x1] v w (Qi Z (fun r u => r = lettS (xM v n L) p lt ∧ (v, w) = u)) := by
  refine g_met (by decide) (Nat.le_of_ble_eq_true rfl) ?_
  intro gp ge gs gm ga gb gh gc X h ls hl
  have hx := X.1
  have hb := X.2.1
  have hl : lv_has ls 3 [(0, .ref (zg Z 116)), (1, .int x0), (2, .int x1)] := hl
  obtain ⟨hn, h6, hwf, hcur, hrx, hB⟩ := id hd
  refine lv_iload_n hx hb dX8_letterOf_0 rfl (lv_at hl 2 rfl) ?_
  by_cases t1_0 : x1 = 0
  · refine lv_tableIn (off := 35) (tgt := 36) hx hb dX8_letterOf_1 (by rw [t1_0]; decide) (by rw [t1_0]; decide) (by rw [t1_0]; rfl) (by decide) ?_
    refine lv_iload_n hx hb dX8_letterOf_36 rfl (lv_at hl 1 rfl) ?_
    exact g_iret X h dX8_letterOf_37 ⟨by rw [hp, lettS, if_pos (nI_eq1 (b := 0) hlt rfl (by omega) (by omega) t1_0)], rfl⟩
  · skip
    by_cases t1_1 : x1 = 1
    · refine lv_tableIn (off := 37) (tgt := 38) hx hb dX8_letterOf_1 (by rw [t1_1]; decide) (by rw [t1_1]; decide) (by rw [t1_1]; rfl) (by decide) ?_
      refine lv_aload_n hx hb dX8_letterOf_38 rfl (lv_at hl 0 rfl) ?_
      refine g_getr X h (k := 1) (t := 117) (cc_116) fr_RX8_9 rfl (by decide) (by decide) (by decide) dX8_letterOf_39 ?_
      refine lv_iload_n hx hb dX8_letterOf_42 rfl (lv_at hl 1 rfl) ?_
      refine g_iald X h (k := p) (cc_117) hp (by omega) (by decide) dX8_letterOf_43 ?_
      exact g_iret X h dX8_letterOf_44 (by have e := nI_eq1 (b := 1) hlt rfl (by omega) (by omega) t1_1; subst e; exact ⟨by simp [lettS, xM_kd hpn], rfl⟩)
    · skip
      by_cases t1_2 : x1 = 2
      · refine lv_tableIn (off := 44) (tgt := 45) hx hb dX8_letterOf_1 (by rw [t1_2]; decide) (by rw [t1_2]; decide) (by rw [t1_2]; rfl) (by decide) ?_
        refine lv_aload_n hx hb dX8_letterOf_45 rfl (lv_at hl 0 rfl) ?_
        refine g_getr X h (k := 2) (t := 118) (cc_116) fr_RX8_15 rfl (by decide) (by decide) (by decide) dX8_letterOf_46 ?_
        refine lv_iload_n hx hb dX8_letterOf_49 rfl (lv_at hl 1 rfl) ?_
        refine g_iald X h (k := p) (cc_118) hp (by omega) (by decide) dX8_letterOf_50 ?_
        exact g_iret X h dX8_letterOf_51 (by have e := nI_eq1 (b := 2) hlt rfl (by omega) (by omega) t1_2; subst e; exact ⟨by simp [lettS, xM_v (show p < 6 by omega)], rfl⟩)
      · skip
        by_cases t1_3 : x1 = 3
        · refine lv_tableIn (off := 51) (tgt := 52) hx hb dX8_letterOf_1 (by rw [t1_3]; decide) (by rw [t1_3]; decide) (by rw [t1_3]; rfl) (by decide) ?_
          refine lv_aload_n hx hb dX8_letterOf_52 rfl (lv_at hl 0 rfl) ?_
          refine g_getr X h (k := 3) (t := 119) (cc_116) fr_RX8_18 rfl (by decide) (by decide) (by decide) dX8_letterOf_53 ?_
          refine lv_iload_n hx hb dX8_letterOf_56 rfl (lv_at hl 1 rfl) ?_
          refine g_iald X h (k := p) (cc_119) hp (by omega) (by decide) dX8_letterOf_57 ?_
          refine lv_bipush (v := 10) hx hb dX8_letterOf_58 (by decide) ?_
          refine lv_idiv hx hb dX8_letterOf_60 (by decide) ?_
          exact g_iret X h dX8_letterOf_61 (by have e := nI_eq1 (b := 3) hlt rfl (by omega) (by omega) t1_3; subst e; exact ⟨by simp [lettS, xM_th (show p < 6 by omega)], rfl⟩)
        · skip
          by_cases t1_4 : x1 = 4
          · refine lv_tableIn (off := 61) (tgt := 62) hx hb dX8_letterOf_1 (by rw [t1_4]; decide) (by rw [t1_4]; decide) (by rw [t1_4]; rfl) (by decide) ?_
            refine lv_aload_n hx hb dX8_letterOf_62 rfl (lv_at hl 0 rfl) ?_
            refine g_geti X h (k := 8) (cc_116) fr_RX8_136 rfl (by decide) dX8_letterOf_63 ?_
            refine lv_bipush (v := 10) hx hb dX8_letterOf_66 (by decide) ?_
            refine lv_idiv hx hb dX8_letterOf_68 (by decide) ?_
            exact g_iret X h dX8_letterOf_69 (by have e := nI_eq1 (b := 4) hlt rfl (by omega) (by omega) t1_4; subst e; exact ⟨by simp [lettS, xM_02], rfl⟩)
          · skip
            have q0 := lv_neT t1_0 (a := 0) (by decide)
            have q1 := lv_neT t1_1 (a := 1) (by decide)
            have q2 := lv_neT t1_2 (a := 2) (by decide)
            have q3 := lv_neT t1_3 (a := 3) (by decide)
            have q4 := lv_neT t1_4 (a := 4) (by decide)
            refine lv_tableOut (tgt := 70) hx hb dX8_letterOf_1 (by omega) (by decide) ?_
            refine lv_aload_n hx hb dX8_letterOf_70 rfl (lv_at hl 0 rfl) ?_
            refine g_geti X h (k := 11) (cc_116) fr_RX8_224 rfl (by decide) dX8_letterOf_71 ?_
            refine lv_bipush (v := 10) hx hb dX8_letterOf_74 (by decide) ?_
            refine lv_irem hx hb dX8_letterOf_76 (by decide) ?_
            exact g_iret X h dX8_letterOf_77 (by have e0 := nI_eq0 (b := 0) hlt rfl t1_0; have e1 := nI_eq0 (b := 1) hlt rfl t1_1; have e2 := nI_eq0 (b := 2) hlt rfl t1_2; have e3 := nI_eq0 (b := 3) hlt rfl t1_3; have e4 := nI_eq0 (b := 4) hlt rfl t1_4; exact ⟨by simp [lettS, e0, e1, e2, e3, e4, xM_03, imod], rfl⟩)

set_option maxRecDepth 100000 in
set_option maxHeartbeats 4000000 in
theorem c_X8_isTrue (gl : Launch) (Z : PL) (v : VV) (w : WV) (x0 : Int32) (p : Nat) (hp : x0 = nI p) (x1 : Int32) (c : Nat) (hc : x1 = nI c) (n : Nat) (B : Nat) (L : LND) (hd : DM v n B L) (hpn : p < n) (hc60 : c < 60) (tk : List Nat) (o : Nat) (hb8 : v 128 c = nI o) (hl9 : v 129 c = nI tk.length) (ho : o + tk.length ≤ 1000) (hcd : ∀ k, k < tk.length → v 130 (o + k) = nI (tk.getD k 0)) (hwt : wft tk) : CT gl yX8_isTrue cX8_isTrue 9 (some .boolean) 1 22 Z [.ref (zg Z 116), .int x0, .int x1] v w (Qi Z (fun r u => r = bI (hldS (xM v n L) p tk) ∧ ∃ f, (upc v 131 f, w) = u)) := by
  refine g_met (by decide) (Nat.le_of_ble_eq_true rfl) ?_
  intro gp ge gs gm ga gb gh gc X h ls hl
  have hx := X.1
  have hb := X.2.1
  have hl : lv_has ls 9 [(0, .ref (zg Z 116)), (1, .int x0), (2, .int x1)] := hl
  obtain ⟨hn, h6, hwf, hcur, hrx, hB⟩ := id hd
  obtain ⟨XX, hX⟩ : ∃ Y : VV, Y = xM v n L := ⟨_, rfl⟩
  obtain ⟨T, hT⟩ : ∃ Y : Nat → Nat, Y = fun k => tk.getD k 0 := ⟨_, rfl⟩
  obtain ⟨hw1, hw2⟩ := id hwt
  refine lv_iconst (v := 0) hx hb dX8_isTrue_0 (by decide) ?_
  refine lv_istore_n (lv' := [(3, .int 0), (0, .ref (zg Z 116)), (1, .int x0), (2, .int x1)]) hx hb dX8_isTrue_1 rfl hl (by decide) rfl (fun ls hl => ?_)
  refine lv_aload_n hx hb dX8_isTrue_2 rfl (lv_at hl 1 rfl) ?_
  refine g_getr X h (k := 19) (t := 128) (cc_116) fr_RX8_45 rfl (by decide) (by decide) (by decide) dX8_isTrue_3 ?_
  refine lv_iload_n hx hb dX8_isTrue_6 rfl (lv_at hl 3 rfl) ?_
  refine g_iald X h (k := c) (cc_128) hc (by omega) (by decide) dX8_isTrue_7 ?_
  refine lv_topi (fun x4_8 ex4_8 => ?_)
  refine lv_istore (lv' := [(4, .int x4_8), (3, .int 0), (0, .ref (zg Z 116)), (1, .int x0), (2, .int x1)]) hx hb dX8_isTrue_8 hl (by decide) rfl (fun ls hl => ?_)
  have L10 : ∀ (n10 : Nat) (k : Nat) (x3 x4 : Int32) (f : Nat → Int32) (va : VV), (x4 = nI (o + k)) → (x3 = nI (hrun T k)) → (k ≤ tk.length) → (va = upc v 131 f) → (∀ j, j < hrun T k → va 131 j = bI ((mrun (tstS XX p) T k).2 j)) → tk.length - k < n10 → ∀ (H : Heap) (locs : List Loc), HS Z gs va w H locs → ∀ ls : Array Slot, lv_has ls 9 [(0, .ref (zg Z 116)), (1, .int x0), (2, .int x1), (3, .int x3), (4, .int x4)] → W gp gl ge (rmm 1 22) gs gm ga gb gh gc H locs 0 0 (MQ gb (Qi Z (fun r u => r = bI (hldS (xM v n L) p tk) ∧ ∃ f, (upc v 131 f, w) = u)) ga gs 0 0 (zA Z)) (F0 gm 10 ls []) := by
    intro n10
    induction n10 with
    | zero => intro k x3 x4 f va hx4 hx3 hk hva hst hmu; exact absurd hmu (Nat.not_lt_zero _)
    | succ n10 ih10 =>
      intro k x3 x4 f va hx4 hx3 hk hva hst hmu10 H locs h ls hl
      refine lv_iload hx hb dX8_isTrue_10 (lv_at hl 4 rfl) ?_
      refine lv_aload_n hx hb dX8_isTrue_12 rfl (lv_at hl 0 rfl) ?_
      refine g_getr X h (k := 19) (t := 128) (cc_116) fr_RX8_45 rfl (by decide) (by decide) (by decide) dX8_isTrue_13 ?_
      refine lv_iload_n hx hb dX8_isTrue_16 rfl (lv_at hl 2 rfl) ?_
      refine g_iald X h (k := c) (cc_128) hc (by omega) (by decide) dX8_isTrue_17 ?_
      refine g_tr (y := (v 128 c)) (by simp [hva, up2, upc]) ?_
      refine lv_aload_n hx hb dX8_isTrue_18 rfl (lv_at hl 0 rfl) ?_
      refine g_getr X h (k := 20) (t := 129) (cc_116) fr_RX8_48 rfl (by decide) (by decide) (by decide) dX8_isTrue_19 ?_
      refine lv_iload_n hx hb dX8_isTrue_22 rfl (lv_at hl 2 rfl) ?_
      refine g_iald X h (k := c) (cc_129) hc (by omega) (by decide) dX8_isTrue_23 ?_
      refine g_tr (y := (v 129 c)) (by simp [hva, up2, upc]) ?_
      refine lv_iadd hx hb dX8_isTrue_24 ?_
      refine lv_icmp_ge (tgt := 251) hx hb dX8_isTrue_25 (by decide) (fun c_25 => ?_) (fun c_25 => ?_)
      · skip
        have hkl : k = tk.length := by
          have z := nI_le1 (a := (o + tk.length)) (b := (o + k)) (by rw [hb8, hl9]; exact nI_add _ _) hx4 (by omega) (by omega) c_25
          omega
        refine lv_aload_n hx hb dX8_isTrue_251 rfl (lv_at hl 0 rfl) ?_
        refine g_getr X h (k := 27) (t := 131) (cc_116) fr_RX8_54 rfl (by decide) (by decide) (by decide) dX8_isTrue_252 ?_
        refine lv_iconst (v := 0) hx hb dX8_isTrue_255 (by decide) ?_
        refine g_zald X h (k := 0) (cc_131) rfl (by omega) (by decide) dX8_isTrue_256 ?_
        exact g_nret X h dX8_isTrue_257 (by rw [hva] at hst ⊢; subst hkl; rw [hst 0 (by rw [hT, hw1]; omega)]; exact nar_bI _) (by refine ⟨?_, f, by rw [hva]⟩; subst hkl; rw [hst 0 (by rw [hT, hw1]; omega), hX, hT]; rfl)
      · skip
        have hkl := nI_le0 (a := (o + tk.length)) (b := (o + k)) (by rw [hb8, hl9]; exact nI_add _ _) hx4 (by omega) (by omega) c_25
        have hkl : k < tk.length := by omega
        obtain ⟨hq1, hq2, hq3, hq4⟩ := hw2 k hkl
        have hTk : T k = tk.getD k 0 := by rw [hT]
        rw [← hT] at hq2 hq3 hq4
        rw [← hTk] at hq1 hq2 hq3 hq4
        refine lv_aload_n hx hb dX8_isTrue_28 rfl (lv_at hl 0 rfl) ?_
        refine g_getr X h (k := 21) (t := 130) (cc_116) fr_RX8_51 rfl (by decide) (by decide) (by decide) dX8_isTrue_29 ?_
        refine lv_iload hx hb dX8_isTrue_32 (lv_at hl 4 rfl) ?_
        refine g_iald X h (k := (o + k)) (cc_130) hx4 (by omega) (by decide) dX8_isTrue_34 ?_
        refine g_tr (y := (v 130 (o + k))) (by simp [hva, up2, upc]) ?_
        refine lv_topi (fun x5_35 ex5_35 => ?_)
        refine lv_istore (lv' := [(5, .int x5_35), (0, .ref (zg Z 116)), (1, .int x0), (2, .int x1), (3, .int x3), (4, .int x4)]) hx hb dX8_isTrue_35 hl (by decide) rfl (fun ls hl => ?_)
        have hx5 : x5_35 = nI (T k) := by rw [ex5_35, hcd k hkl, hTk]
        refine lv_iload hx hb dX8_isTrue_37 (lv_at hl 0 rfl) ?_
        refine lv_iconst (v := 3) hx hb dX8_isTrue_39 (by decide) ?_
        refine lv_icmp_lt (tgt := 143) hx hb dX8_isTrue_40 (by decide) (fun c_40 => ?_) (fun c_40 => ?_)
        · skip
          have ht3 := nI_lt1 (a := (T k)) (b := 3) hx5 rfl (by omega) (by omega) c_40
          refine lv_iload hx hb dX8_isTrue_143 (lv_at hl 0 rfl) ?_
          refine lv_iconst (v := 2) hx hb dX8_isTrue_145 (by decide) ?_
          refine lv_icmp_ne (tgt := 176) hx hb dX8_isTrue_146 (by decide) (fun c_146 => ?_) (fun c_146 => ?_)
          · skip
            have ht2 := nI_eq0 (a := (T k)) (b := 2) hx5 rfl c_146
            have ht1 : T k < 2 := by omega
            have hh2 := hq4 ht1
            refine lv_iinc (v := (x3 + (-1))) (lv' := [(3, .int (x3 + (-1))), (5, .int x5_35), (0, .ref (zg Z 116)), (1, .int x0), (2, .int x1), (4, .int x4)]) hx hb dX8_isTrue_176 hl (k := 4) rfl rfl (by decide) rfl (fun ls hl => ?_)
            refine lv_aload_n hx hb dX8_isTrue_179 rfl (lv_at hl 2 rfl) ?_
            refine g_getr X h (k := 27) (t := 131) (cc_116) fr_RX8_54 rfl (by decide) (by decide) (by decide) dX8_isTrue_180 ?_
            refine lv_iload_n hx hb dX8_isTrue_183 rfl (lv_at hl 0 rfl) ?_
            refine lv_iconst (v := 1) hx hb dX8_isTrue_184 (by decide) ?_
            refine lv_isub hx hb dX8_isTrue_185 ?_
            refine lv_iload hx hb dX8_isTrue_186 (lv_at hl 1 rfl) ?_
            refine lv_if_ne (tgt := 219) hx hb dX8_isTrue_188 (by decide) (fun c_188 => ?_) (fun c_188 => ?_)
            · skip
              have ht0 := nI_eq0 (a := (T k)) (b := 0) hx5 rfl c_188
              have hh12 : hrun T k < 12 := hrun_le hw2 hT (Nat.le_of_lt hkl)
              refine lv_aload_n hx hb dX8_isTrue_219 rfl (lv_at hl 2 rfl) ?_
              refine g_getr X h (k := 27) (t := 131) (cc_116) fr_RX8_54 rfl (by decide) (by decide) (by decide) dX8_isTrue_220 ?_
              refine lv_iload_n hx hb dX8_isTrue_223 rfl (lv_at hl 0 rfl) ?_
              refine lv_iconst (v := 1) hx hb dX8_isTrue_224 (by decide) ?_
              refine lv_isub hx hb dX8_isTrue_225 ?_
              refine g_zald X h (k := (hrun T k - 2)) (cc_131) (by rw [hx3]; exact binx hh2) (by omega) (by decide) dX8_isTrue_226 ?_
              refine lv_if_ne (tgt := 239) hx hb dX8_isTrue_227 (by decide) (fun c_227 => ?_) (fun c_227 => ?_)
              · skip
                refine lv_iconst (v := 1) hx hb dX8_isTrue_239 (by decide) ?_
                refine lv_goto (tgt := 244) hx hb dX8_isTrue_240 (by decide) ?_
                refine g_zast X h (k := (hrun T k - 2)) (cc_131) (by rw [hx3]; exact binx hh2) (by omega) (by decide) dX8_isTrue_244 (fun v244 H locs ev244 h => ?_)
                refine lv_iinc (v := (x4 + 1)) (lv' := [(4, .int (x4 + 1)), (3, .int (x3 + (-1))), (5, .int x5_35), (0, .ref (zg Z 116)), (1, .int x0), (2, .int x1)]) hx hb dX8_isTrue_245 hl (k := 5) rfl rfl (by decide) rfl (fun ls hl => ?_)
                refine lv_goto (tgt := 10) hx hb dX8_isTrue_248 (by decide) ?_
                exact ih10 (k + 1) (x3 + (-1)) (x4 + 1) (upd f (hrun T k - 2) (vp_nar .boolean 1)) v244 (by rw [hx4]; exact nI_1 _) (by rw [hx3]; show nI _ + (-1) = nI (hstep _ _); rw [hstep, if_neg (by omega), if_neg (by omega)]; exact sb_m1 (by omega)) (by omega) (by rw [ev244, hva, up2_upc]) (by rw [ev244, up2_row]; exact st_bin hst (mrun_h _ _ _) ht1 hh2 (by rw [vz1]; rw [hst _ (by omega)] at c_227; replace c_227 := bI_n.mp c_227; simp [ht0, c_227, bI])) (by omega) _ _ h ls (lv_sub hl [3, 4, 5, 1, 0] rfl)
              · skip
                refine lv_aload_n hx hb dX8_isTrue_230 rfl (lv_at hl 2 rfl) ?_
                refine g_getr X h (k := 27) (t := 131) (cc_116) fr_RX8_54 rfl (by decide) (by decide) (by decide) dX8_isTrue_231 ?_
                refine lv_iload_n hx hb dX8_isTrue_234 rfl (lv_at hl 0 rfl) ?_
                refine g_zald X h (k := (hrun T k - 1)) (cc_131) (by rw [hx3]; exact sb_m1 (by omega)) (by omega) (by decide) dX8_isTrue_235 ?_
                refine lv_if_eq (tgt := 243) hx hb dX8_isTrue_236 (by decide) (fun c_236 => ?_) (fun c_236 => ?_)
                · skip
                  refine lv_iconst (v := 0) hx hb dX8_isTrue_243 (by decide) ?_
                  refine g_zast X h (k := (hrun T k - 2)) (cc_131) (by rw [hx3]; exact binx hh2) (by omega) (by decide) dX8_isTrue_244 (fun v244 H locs ev244 h => ?_)
                  refine lv_iinc (v := (x4 + 1)) (lv' := [(4, .int (x4 + 1)), (3, .int (x3 + (-1))), (5, .int x5_35), (0, .ref (zg Z 116)), (1, .int x0), (2, .int x1)]) hx hb dX8_isTrue_245 hl (k := 5) rfl rfl (by decide) rfl (fun ls hl => ?_)
                  refine lv_goto (tgt := 10) hx hb dX8_isTrue_248 (by decide) ?_
                  exact ih10 (k + 1) (x3 + (-1)) (x4 + 1) (upd f (hrun T k - 2) (vp_nar .boolean 0)) v244 (by rw [hx4]; exact nI_1 _) (by rw [hx3]; show nI _ + (-1) = nI (hstep _ _); rw [hstep, if_neg (by omega), if_neg (by omega)]; exact sb_m1 (by omega)) (by omega) (by rw [ev244, hva, up2_upc]) (by rw [ev244, up2_row]; exact st_bin hst (mrun_h _ _ _) ht1 hh2 (by rw [vz0]; rw [hst _ (by omega)] at c_227; replace c_227 := bI_0.mp c_227; rw [hst _ (by omega)] at c_236; replace c_236 := bI_0.mp c_236; simp [ht0, c_227, c_236, bI])) (by omega) _ _ h ls (lv_sub hl [3, 4, 5, 1, 0] rfl)
                · skip
                  refine lv_iconst (v := 1) hx hb dX8_isTrue_239 (by decide) ?_
                  refine lv_goto (tgt := 244) hx hb dX8_isTrue_240 (by decide) ?_
                  refine g_zast X h (k := (hrun T k - 2)) (cc_131) (by rw [hx3]; exact binx hh2) (by omega) (by decide) dX8_isTrue_244 (fun v244 H locs ev244 h => ?_)
                  refine lv_iinc (v := (x4 + 1)) (lv' := [(4, .int (x4 + 1)), (3, .int (x3 + (-1))), (5, .int x5_35), (0, .ref (zg Z 116)), (1, .int x0), (2, .int x1)]) hx hb dX8_isTrue_245 hl (k := 5) rfl rfl (by decide) rfl (fun ls hl => ?_)
                  refine lv_goto (tgt := 10) hx hb dX8_isTrue_248 (by decide) ?_
                  exact ih10 (k + 1) (x3 + (-1)) (x4 + 1) (upd f (hrun T k - 2) (vp_nar .boolean 1)) v244 (by rw [hx4]; exact nI_1 _) (by rw [hx3]; show nI _ + (-1) = nI (hstep _ _); rw [hstep, if_neg (by omega), if_neg (by omega)]; exact sb_m1 (by omega)) (by omega) (by rw [ev244, hva, up2_upc]) (by rw [ev244, up2_row]; exact st_bin hst (mrun_h _ _ _) ht1 hh2 (by rw [vz1]; rw [hst _ (by omega)] at c_227; replace c_227 := bI_0.mp c_227; rw [hst _ (by omega)] at c_236; replace c_236 := bI_n.mp c_236; simp [ht0, c_227, c_236, bI])) (by omega) _ _ h ls (lv_sub hl [3, 4, 5, 1, 0] rfl)
            · skip
              have ht0 := nI_eq1 (a := (T k)) (b := 0) hx5 rfl (by omega) (by omega) c_188
              have hh12 : hrun T k < 12 := hrun_le hw2 hT (Nat.le_of_lt hkl)
              refine lv_aload_n hx hb dX8_isTrue_191 rfl (lv_at hl 2 rfl) ?_
              refine g_getr X h (k := 27) (t := 131) (cc_116) fr_RX8_54 rfl (by decide) (by decide) (by decide) dX8_isTrue_192 ?_
              refine lv_iload_n hx hb dX8_isTrue_195 rfl (lv_at hl 0 rfl) ?_
              refine lv_iconst (v := 1) hx hb dX8_isTrue_196 (by decide) ?_
              refine lv_isub hx hb dX8_isTrue_197 ?_
              refine g_zald X h (k := (hrun T k - 2)) (cc_131) (by rw [hx3]; exact binx hh2) (by omega) (by decide) dX8_isTrue_198 ?_
              refine lv_if_eq (tgt := 215) hx hb dX8_isTrue_199 (by decide) (fun c_199 => ?_) (fun c_199 => ?_)
              · skip
                refine lv_iconst (v := 0) hx hb dX8_isTrue_215 (by decide) ?_
                refine lv_goto (tgt := 244) hx hb dX8_isTrue_216 (by decide) ?_
                refine g_zast X h (k := (hrun T k - 2)) (cc_131) (by rw [hx3]; exact binx hh2) (by omega) (by decide) dX8_isTrue_244 (fun v244 H locs ev244 h => ?_)
                refine lv_iinc (v := (x4 + 1)) (lv' := [(4, .int (x4 + 1)), (3, .int (x3 + (-1))), (5, .int x5_35), (0, .ref (zg Z 116)), (1, .int x0), (2, .int x1)]) hx hb dX8_isTrue_245 hl (k := 5) rfl rfl (by decide) rfl (fun ls hl => ?_)
                refine lv_goto (tgt := 10) hx hb dX8_isTrue_248 (by decide) ?_
                exact ih10 (k + 1) (x3 + (-1)) (x4 + 1) (upd f (hrun T k - 2) (vp_nar .boolean 0)) v244 (by rw [hx4]; exact nI_1 _) (by rw [hx3]; show nI _ + (-1) = nI (hstep _ _); rw [hstep, if_neg (by omega), if_neg (by omega)]; exact sb_m1 (by omega)) (by omega) (by rw [ev244, hva, up2_upc]) (by rw [ev244, up2_row]; exact st_bin hst (mrun_h _ _ _) ht1 hh2 (by rw [vz0]; rw [hst _ (by omega)] at c_199; replace c_199 := bI_0.mp c_199; simp [ht0, c_199, bI])) (by omega) _ _ h ls (lv_sub hl [3, 4, 5, 1, 0] rfl)
              · skip
                refine lv_aload_n hx hb dX8_isTrue_202 rfl (lv_at hl 2 rfl) ?_
                refine g_getr X h (k := 27) (t := 131) (cc_116) fr_RX8_54 rfl (by decide) (by decide) (by decide) dX8_isTrue_203 ?_
                refine lv_iload_n hx hb dX8_isTrue_206 rfl (lv_at hl 0 rfl) ?_
                refine g_zald X h (k := (hrun T k - 1)) (cc_131) (by rw [hx3]; exact sb_m1 (by omega)) (by omega) (by decide) dX8_isTrue_207 ?_
                refine lv_if_eq (tgt := 215) hx hb dX8_isTrue_208 (by decide) (fun c_208 => ?_) (fun c_208 => ?_)
                · skip
                  refine lv_iconst (v := 0) hx hb dX8_isTrue_215 (by decide) ?_
                  refine lv_goto (tgt := 244) hx hb dX8_isTrue_216 (by decide) ?_
                  refine g_zast X h (k := (hrun T k - 2)) (cc_131) (by rw [hx3]; exact binx hh2) (by omega) (by decide) dX8_isTrue_244 (fun v244 H locs ev244 h => ?_)
                  refine lv_iinc (v := (x4 + 1)) (lv' := [(4, .int (x4 + 1)), (3, .int (x3 + (-1))), (5, .int x5_35), (0, .ref (zg Z 116)), (1, .int x0), (2, .int x1)]) hx hb dX8_isTrue_245 hl (k := 5) rfl rfl (by decide) rfl (fun ls hl => ?_)
                  refine lv_goto (tgt := 10) hx hb dX8_isTrue_248 (by decide) ?_
                  exact ih10 (k + 1) (x3 + (-1)) (x4 + 1) (upd f (hrun T k - 2) (vp_nar .boolean 0)) v244 (by rw [hx4]; exact nI_1 _) (by rw [hx3]; show nI _ + (-1) = nI (hstep _ _); rw [hstep, if_neg (by omega), if_neg (by omega)]; exact sb_m1 (by omega)) (by omega) (by rw [ev244, hva, up2_upc]) (by rw [ev244, up2_row]; exact st_bin hst (mrun_h _ _ _) ht1 hh2 (by rw [vz0]; rw [hst _ (by omega)] at c_199; replace c_199 := bI_n.mp c_199; rw [hst _ (by omega)] at c_208; replace c_208 := bI_0.mp c_208; simp [ht0, c_199, c_208, bI])) (by omega) _ _ h ls (lv_sub hl [3, 4, 5, 1, 0] rfl)
                · skip
                  refine lv_iconst (v := 1) hx hb dX8_isTrue_211 (by decide) ?_
                  refine lv_goto (tgt := 244) hx hb dX8_isTrue_212 (by decide) ?_
                  refine g_zast X h (k := (hrun T k - 2)) (cc_131) (by rw [hx3]; exact binx hh2) (by omega) (by decide) dX8_isTrue_244 (fun v244 H locs ev244 h => ?_)
                  refine lv_iinc (v := (x4 + 1)) (lv' := [(4, .int (x4 + 1)), (3, .int (x3 + (-1))), (5, .int x5_35), (0, .ref (zg Z 116)), (1, .int x0), (2, .int x1)]) hx hb dX8_isTrue_245 hl (k := 5) rfl rfl (by decide) rfl (fun ls hl => ?_)
                  refine lv_goto (tgt := 10) hx hb dX8_isTrue_248 (by decide) ?_
                  exact ih10 (k + 1) (x3 + (-1)) (x4 + 1) (upd f (hrun T k - 2) (vp_nar .boolean 1)) v244 (by rw [hx4]; exact nI_1 _) (by rw [hx3]; show nI _ + (-1) = nI (hstep _ _); rw [hstep, if_neg (by omega), if_neg (by omega)]; exact sb_m1 (by omega)) (by omega) (by rw [ev244, hva, up2_upc]) (by rw [ev244, up2_row]; exact st_bin hst (mrun_h _ _ _) ht1 hh2 (by rw [vz1]; rw [hst _ (by omega)] at c_199; replace c_199 := bI_n.mp c_199; rw [hst _ (by omega)] at c_208; replace c_208 := bI_n.mp c_208; simp [ht0, c_199, c_208, bI])) (by omega) _ _ h ls (lv_sub hl [3, 4, 5, 1, 0] rfl)
          · skip
            have ht2 := nI_eq1 (a := (T k)) (b := 2) hx5 rfl (by omega) (by omega) c_146
            have hh1 := hq3 ht2
            have hh12 : hrun T k < 12 := hrun_le hw2 hT (Nat.le_of_lt hkl)
            refine lv_aload_n hx hb dX8_isTrue_149 rfl (lv_at hl 1 rfl) ?_
            refine g_getr X h (k := 27) (t := 131) (cc_116) fr_RX8_54 rfl (by decide) (by decide) (by decide) dX8_isTrue_150 ?_
            refine lv_iload_n hx hb dX8_isTrue_153 rfl (lv_at hl 4 rfl) ?_
            refine lv_iconst (v := 1) hx hb dX8_isTrue_154 (by decide) ?_
            refine lv_isub hx hb dX8_isTrue_155 ?_
            refine lv_aload_n hx hb dX8_isTrue_156 rfl (lv_at hl 1 rfl) ?_
            refine g_getr X h (k := 27) (t := 131) (cc_116) fr_RX8_54 rfl (by decide) (by decide) (by decide) dX8_isTrue_157 ?_
            refine lv_iload_n hx hb dX8_isTrue_160 rfl (lv_at hl 4 rfl) ?_
            refine lv_iconst (v := 1) hx hb dX8_isTrue_161 (by decide) ?_
            refine lv_isub hx hb dX8_isTrue_162 ?_
            refine g_zald X h (k := (hrun T k - 1)) (cc_131) (by rw [hx3]; exact pk_sub hh1) (by omega) (by decide) dX8_isTrue_163 ?_
            refine lv_if_ne (tgt := 171) hx hb dX8_isTrue_164 (by decide) (fun c_164 => ?_) (fun c_164 => ?_)
            · skip
              refine lv_iconst (v := 0) hx hb dX8_isTrue_171 (by decide) ?_
              refine g_zast X h (k := (hrun T k - 1)) (cc_131) (by rw [hx3]; exact pk_sub hh1) (by omega) (by decide) dX8_isTrue_172 (fun v172 H locs ev172 h => ?_)
              refine lv_goto (tgt := 245) hx hb dX8_isTrue_173 (by decide) ?_
              refine lv_iinc (v := (x4 + 1)) (lv' := [(4, .int (x4 + 1)), (5, .int x5_35), (0, .ref (zg Z 116)), (1, .int x0), (2, .int x1), (3, .int x3)]) hx hb dX8_isTrue_245 hl (k := 5) rfl rfl (by decide) rfl (fun ls hl => ?_)
              refine lv_goto (tgt := 10) hx hb dX8_isTrue_248 (by decide) ?_
              exact ih10 (k + 1) x3 (x4 + 1) (upd f (hrun T k - 1) (vp_nar .boolean 0)) v172 (by rw [hx4]; exact nI_1 _) (by rw [hx3]; show _ = nI (hstep _ _); rw [hstep, if_neg (by omega), if_pos ht2]) (by omega) (by rw [ev172, hva, up2_upc]) (by rw [ev172, up2_row]; exact st_not hst (mrun_h _ _ _) ht2 hh1 (by rw [vz0]; rw [hst _ (by omega)] at c_164; first | exact congrArg (fun b => bI (!b)) (bI_0.mp c_164).symm | exact congrArg (fun b => bI (!b)) (bI_n.mp c_164).symm)) (by omega) _ _ h ls (lv_sub hl [2, 3, 4, 5, 0] rfl)
            · skip
              refine lv_iconst (v := 1) hx hb dX8_isTrue_167 (by decide) ?_
              refine lv_goto (tgt := 172) hx hb dX8_isTrue_168 (by decide) ?_
              refine g_zast X h (k := (hrun T k - 1)) (cc_131) (by rw [hx3]; exact pk_sub hh1) (by omega) (by decide) dX8_isTrue_172 (fun v172 H locs ev172 h => ?_)
              refine lv_goto (tgt := 245) hx hb dX8_isTrue_173 (by decide) ?_
              refine lv_iinc (v := (x4 + 1)) (lv' := [(4, .int (x4 + 1)), (5, .int x5_35), (0, .ref (zg Z 116)), (1, .int x0), (2, .int x1), (3, .int x3)]) hx hb dX8_isTrue_245 hl (k := 5) rfl rfl (by decide) rfl (fun ls hl => ?_)
              refine lv_goto (tgt := 10) hx hb dX8_isTrue_248 (by decide) ?_
              exact ih10 (k + 1) x3 (x4 + 1) (upd f (hrun T k - 1) (vp_nar .boolean 1)) v172 (by rw [hx4]; exact nI_1 _) (by rw [hx3]; show _ = nI (hstep _ _); rw [hstep, if_neg (by omega), if_pos ht2]) (by omega) (by rw [ev172, hva, up2_upc]) (by rw [ev172, up2_row]; exact st_not hst (mrun_h _ _ _) ht2 hh1 (by rw [vz1]; rw [hst _ (by omega)] at c_164; first | exact congrArg (fun b => bI (!b)) (bI_0.mp c_164).symm | exact congrArg (fun b => bI (!b)) (bI_n.mp c_164).symm)) (by omega) _ _ h ls (lv_sub hl [2, 3, 4, 5, 0] rfl)
        · skip
          have ht3 := nI_lt0 (a := (T k)) (b := 3) hx5 rfl (by omega) (by omega) c_40
          have hh11 := hq2 ht3
          refine lv_aload_n hx hb dX8_isTrue_43 rfl (lv_at hl 1 rfl) ?_
          refine lv_iload_n hx hb dX8_isTrue_44 rfl (lv_at hl 2 rfl) ?_
          refine lv_iload hx hb dX8_isTrue_45 (lv_at hl 0 rfl) ?_
          refine lv_iconst (v := 3) hx hb dX8_isTrue_47 (by decide) ?_
          refine lv_isub hx hb dX8_isTrue_48 ?_
          refine lv_sipush (v := 300) hx hb dX8_isTrue_49 (by decide) ?_
          refine lv_idiv hx hb dX8_isTrue_52 (by decide) ?_
          refine g_ki h (g_runV X h (As := [.int x0, .int ((x5_35 - 3) / 300)]) (rest := []) (c_X8_letterOf gl Z va w x0 p hp ((x5_35 - 3) / 300) ((T k - 3) / 300) (by rw [hx5, nI_sub3 ht3, nI_d300 (by omega)]) n B L (DM.stk hd hva) (by first | assumption | omega) (by omega)) mi_X8_letterOf ml_RX8_227 (cc_116) (by decide) kl8 rfl ⟨Nat.le_of_ble_eq_true rfl, Nat.le_of_ble_eq_true rfl⟩ rfl hl.1 rfl (Nat.le_of_ble_eq_true rfl) dX8_isTrue_53) (fun r53 v53 w53 H locs hp53 h => ?_)
          obtain ⟨hr53, hu53⟩ := hp53; obtain ⟨rfl, rfl⟩ := Prod.mk.inj hu53
          rw [xM.stk hva] at hr53
          refine lv_istore (lv' := [(6, .int r53), (5, .int x5_35), (0, .ref (zg Z 116)), (1, .int x0), (2, .int x1), (3, .int x3), (4, .int x4)]) hx hb dX8_isTrue_56 hl (by decide) rfl (fun ls hl => ?_)
          have hx6 := hr53
          rw [← hX] at hr53
          refine lv_iload hx hb dX8_isTrue_58 (lv_at hl 1 rfl) ?_
          refine lv_iconst (v := 3) hx hb dX8_isTrue_60 (by decide) ?_
          refine lv_isub hx hb dX8_isTrue_61 ?_
          refine lv_bipush (v := 100) hx hb dX8_isTrue_62 (by decide) ?_
          refine lv_irem hx hb dX8_isTrue_64 (by decide) ?_
          refine lv_topi (fun x7_65 ex7_65 => ?_)
          refine lv_istore (lv' := [(7, .int x7_65), (6, .int r53), (5, .int x5_35), (0, .ref (zg Z 116)), (1, .int x0), (2, .int x1), (3, .int x3), (4, .int x4)]) hx hb dX8_isTrue_65 hl (by decide) rfl (fun ls hl => ?_)
          have hx7 : x7_65 = nI ((T k - 3) % 100) := by rw [ex7_65, hx5, nI_sub3 ht3, nI_m100 (by omega)]
          refine lv_iload hx hb dX8_isTrue_67 (lv_at hl 2 rfl) ?_
          refine lv_iconst (v := 3) hx hb dX8_isTrue_69 (by decide) ?_
          refine lv_isub hx hb dX8_isTrue_70 ?_
          refine lv_bipush (v := 100) hx hb dX8_isTrue_71 (by decide) ?_
          refine lv_idiv hx hb dX8_isTrue_73 (by decide) ?_
          refine lv_iconst (v := 3) hx hb dX8_isTrue_74 (by decide) ?_
          refine lv_irem hx hb dX8_isTrue_75 (by decide) ?_
          refine lv_topi (fun x8_76 ex8_76 => ?_)
          refine lv_istore (lv' := [(8, .int x8_76), (7, .int x7_65), (6, .int r53), (5, .int x5_35), (0, .ref (zg Z 116)), (1, .int x0), (2, .int x1), (3, .int x3), (4, .int x4)]) hx hb dX8_isTrue_76 hl (by decide) rfl (fun ls hl => ?_)
          have hx8 : x8_76 = nI ((T k - 3) / 100 % 3) := by rw [ex8_76, hx5, nI_sub3 ht3, nI_d100 (by omega), nI_m3 (by omega)]
          refine lv_aload_n hx hb dX8_isTrue_78 rfl (lv_at hl 4 rfl) ?_
          refine g_getr X h (k := 27) (t := 131) (cc_116) fr_RX8_54 rfl (by decide) (by decide) (by decide) dX8_isTrue_79 ?_
          refine lv_iload_n hx hb dX8_isTrue_82 rfl (lv_at hl 7 rfl) ?_
          refine lv_iinc (v := (x3 + 1)) (lv' := [(3, .int (x3 + 1)), (8, .int x8_76), (7, .int x7_65), (6, .int r53), (5, .int x5_35), (0, .ref (zg Z 116)), (1, .int x0), (2, .int x1), (4, .int x4)]) hx hb dX8_isTrue_83 hl (k := 7) rfl rfl (by decide) rfl (fun ls hl => ?_)
          refine lv_iload hx hb dX8_isTrue_86 (lv_at hl 1 rfl) ?_
          refine lv_if_ne (tgt := 106) hx hb dX8_isTrue_88 (by decide) (fun c_88 => ?_) (fun c_88 => ?_)
          · skip
            have hs0 := nI_eq0 (a := ((T k - 3) / 100 % 3)) (b := 0) hx8 rfl c_88
            refine lv_iload hx hb dX8_isTrue_106 (lv_at hl 1 rfl) ?_
            refine lv_iconst (v := 1) hx hb dX8_isTrue_108 (by decide) ?_
            refine lv_icmp_ne (tgt := 127) hx hb dX8_isTrue_109 (by decide) (fun c_109 => ?_) (fun c_109 => ?_)
            · skip
              have hs1 := nI_eq0 (a := ((T k - 3) / 100 % 3)) (b := 1) hx8 rfl c_109
              refine lv_iload hx hb dX8_isTrue_127 (lv_at hl 3 rfl) ?_
              refine lv_iload hx hb dX8_isTrue_129 (lv_at hl 2 rfl) ?_
              refine lv_icmp_le (tgt := 138) hx hb dX8_isTrue_131 (by decide) (fun c_131 => ?_) (fun c_131 => ?_)
              · skip
                refine lv_iconst (v := 0) hx hb dX8_isTrue_138 (by decide) ?_
                refine g_zast X h (k := (hrun T k)) (cc_131) hx3 (by omega) (by decide) dX8_isTrue_139 (fun v139 H locs ev139 h => ?_)
                refine lv_goto (tgt := 245) hx hb dX8_isTrue_140 (by decide) ?_
                refine lv_iinc (v := (x4 + 1)) (lv' := [(4, .int (x4 + 1)), (3, .int (x3 + 1)), (8, .int x8_76), (7, .int x7_65), (6, .int r53), (5, .int x5_35), (0, .ref (zg Z 116)), (1, .int x0), (2, .int x1)]) hx hb dX8_isTrue_245 hl (k := 8) rfl rfl (by decide) rfl (fun ls hl => ?_)
                refine lv_goto (tgt := 10) hx hb dX8_isTrue_248 (by decide) ?_
                exact ih10 (k + 1) (x3 + 1) (x4 + 1) (upd f (hrun T k) (vp_nar .boolean 0)) v139 (by rw [hx4]; exact nI_1 _) (by rw [hx3]; show nI _ + 1 = nI (hstep _ _); rw [hstep, if_pos ht3]; exact nI_1 _) (by omega) (by rw [ev139, hva, up2_upc]) (by rw [ev139, up2_row]; exact st_push hst (mrun_h _ _ _) ht3 (by rw [vz0]; exact ((congrArg bI (show tstS XX p (T k - 3) = false from (by rw [tstS, if_neg hs0, if_neg hs1, ← hr53]; exact decide_eq_false (by rw [← hx7]; exact fun z => absurd z (Int32.not_lt.mpr c_131))))).symm))) (by omega) _ _ h ls (lv_sub hl [6, 7, 8, 1, 0] rfl)
              · skip
                refine lv_iconst (v := 1) hx hb dX8_isTrue_134 (by decide) ?_
                refine lv_goto (tgt := 139) hx hb dX8_isTrue_135 (by decide) ?_
                refine g_zast X h (k := (hrun T k)) (cc_131) hx3 (by omega) (by decide) dX8_isTrue_139 (fun v139 H locs ev139 h => ?_)
                refine lv_goto (tgt := 245) hx hb dX8_isTrue_140 (by decide) ?_
                refine lv_iinc (v := (x4 + 1)) (lv' := [(4, .int (x4 + 1)), (3, .int (x3 + 1)), (8, .int x8_76), (7, .int x7_65), (6, .int r53), (5, .int x5_35), (0, .ref (zg Z 116)), (1, .int x0), (2, .int x1)]) hx hb dX8_isTrue_245 hl (k := 8) rfl rfl (by decide) rfl (fun ls hl => ?_)
                refine lv_goto (tgt := 10) hx hb dX8_isTrue_248 (by decide) ?_
                exact ih10 (k + 1) (x3 + 1) (x4 + 1) (upd f (hrun T k) (vp_nar .boolean 1)) v139 (by rw [hx4]; exact nI_1 _) (by rw [hx3]; show nI _ + 1 = nI (hstep _ _); rw [hstep, if_pos ht3]; exact nI_1 _) (by omega) (by rw [ev139, hva, up2_upc]) (by rw [ev139, up2_row]; exact st_push hst (mrun_h _ _ _) ht3 (by rw [vz1]; exact ((congrArg bI (show tstS XX p (T k - 3) = true from (by rw [tstS, if_neg hs0, if_neg hs1, ← hr53]; exact decide_eq_true (by rw [← hx7]; exact Int32.not_le.mp c_131)))).symm))) (by omega) _ _ h ls (lv_sub hl [6, 7, 8, 1, 0] rfl)
            · skip
              have hs1 := nI_eq1 (a := ((T k - 3) / 100 % 3)) (b := 1) hx8 rfl (by omega) (by omega) c_109
              refine lv_iload hx hb dX8_isTrue_112 (lv_at hl 3 rfl) ?_
              refine lv_iload hx hb dX8_isTrue_114 (lv_at hl 2 rfl) ?_
              refine lv_icmp_ne (tgt := 123) hx hb dX8_isTrue_116 (by decide) (fun c_116 => ?_) (fun c_116 => ?_)
              · skip
                refine lv_iconst (v := 0) hx hb dX8_isTrue_123 (by decide) ?_
                refine lv_goto (tgt := 139) hx hb dX8_isTrue_124 (by decide) ?_
                refine g_zast X h (k := (hrun T k)) (cc_131) hx3 (by omega) (by decide) dX8_isTrue_139 (fun v139 H locs ev139 h => ?_)
                refine lv_goto (tgt := 245) hx hb dX8_isTrue_140 (by decide) ?_
                refine lv_iinc (v := (x4 + 1)) (lv' := [(4, .int (x4 + 1)), (3, .int (x3 + 1)), (8, .int x8_76), (7, .int x7_65), (6, .int r53), (5, .int x5_35), (0, .ref (zg Z 116)), (1, .int x0), (2, .int x1)]) hx hb dX8_isTrue_245 hl (k := 8) rfl rfl (by decide) rfl (fun ls hl => ?_)
                refine lv_goto (tgt := 10) hx hb dX8_isTrue_248 (by decide) ?_
                exact ih10 (k + 1) (x3 + 1) (x4 + 1) (upd f (hrun T k) (vp_nar .boolean 0)) v139 (by rw [hx4]; exact nI_1 _) (by rw [hx3]; show nI _ + 1 = nI (hstep _ _); rw [hstep, if_pos ht3]; exact nI_1 _) (by omega) (by rw [ev139, hva, up2_upc]) (by rw [ev139, up2_row]; exact st_push hst (mrun_h _ _ _) ht3 (by rw [vz0]; exact ((congrArg bI (show tstS XX p (T k - 3) = false from (by rw [tstS, if_neg hs0, if_pos hs1, ← hr53]; exact decide_eq_false (by rw [← hx7]; exact c_116)))).symm))) (by omega) _ _ h ls (lv_sub hl [6, 7, 8, 1, 0] rfl)
              · skip
                refine lv_iconst (v := 1) hx hb dX8_isTrue_119 (by decide) ?_
                refine lv_goto (tgt := 139) hx hb dX8_isTrue_120 (by decide) ?_
                refine g_zast X h (k := (hrun T k)) (cc_131) hx3 (by omega) (by decide) dX8_isTrue_139 (fun v139 H locs ev139 h => ?_)
                refine lv_goto (tgt := 245) hx hb dX8_isTrue_140 (by decide) ?_
                refine lv_iinc (v := (x4 + 1)) (lv' := [(4, .int (x4 + 1)), (3, .int (x3 + 1)), (8, .int x8_76), (7, .int x7_65), (6, .int r53), (5, .int x5_35), (0, .ref (zg Z 116)), (1, .int x0), (2, .int x1)]) hx hb dX8_isTrue_245 hl (k := 8) rfl rfl (by decide) rfl (fun ls hl => ?_)
                refine lv_goto (tgt := 10) hx hb dX8_isTrue_248 (by decide) ?_
                exact ih10 (k + 1) (x3 + 1) (x4 + 1) (upd f (hrun T k) (vp_nar .boolean 1)) v139 (by rw [hx4]; exact nI_1 _) (by rw [hx3]; show nI _ + 1 = nI (hstep _ _); rw [hstep, if_pos ht3]; exact nI_1 _) (by omega) (by rw [ev139, hva, up2_upc]) (by rw [ev139, up2_row]; exact st_push hst (mrun_h _ _ _) ht3 (by rw [vz1]; exact ((congrArg bI (show tstS XX p (T k - 3) = true from (by rw [tstS, if_neg hs0, if_pos hs1, ← hr53]; exact decide_eq_true (by rw [← hx7]; exact c_116)))).symm))) (by omega) _ _ h ls (lv_sub hl [6, 7, 8, 1, 0] rfl)
          · skip
            have hs0 := nI_eq1 (a := ((T k - 3) / 100 % 3)) (b := 0) hx8 rfl (by omega) (by omega) c_88
            refine lv_iload hx hb dX8_isTrue_91 (lv_at hl 3 rfl) ?_
            refine lv_iload hx hb dX8_isTrue_93 (lv_at hl 2 rfl) ?_
            refine lv_icmp_ge (tgt := 102) hx hb dX8_isTrue_95 (by decide) (fun c_95 => ?_) (fun c_95 => ?_)
            · skip
              refine lv_iconst (v := 0) hx hb dX8_isTrue_102 (by decide) ?_
              refine lv_goto (tgt := 139) hx hb dX8_isTrue_103 (by decide) ?_
              refine g_zast X h (k := (hrun T k)) (cc_131) hx3 (by omega) (by decide) dX8_isTrue_139 (fun v139 H locs ev139 h => ?_)
              refine lv_goto (tgt := 245) hx hb dX8_isTrue_140 (by decide) ?_
              refine lv_iinc (v := (x4 + 1)) (lv' := [(4, .int (x4 + 1)), (3, .int (x3 + 1)), (8, .int x8_76), (7, .int x7_65), (6, .int r53), (5, .int x5_35), (0, .ref (zg Z 116)), (1, .int x0), (2, .int x1)]) hx hb dX8_isTrue_245 hl (k := 8) rfl rfl (by decide) rfl (fun ls hl => ?_)
              refine lv_goto (tgt := 10) hx hb dX8_isTrue_248 (by decide) ?_
              exact ih10 (k + 1) (x3 + 1) (x4 + 1) (upd f (hrun T k) (vp_nar .boolean 0)) v139 (by rw [hx4]; exact nI_1 _) (by rw [hx3]; show nI _ + 1 = nI (hstep _ _); rw [hstep, if_pos ht3]; exact nI_1 _) (by omega) (by rw [ev139, hva, up2_upc]) (by rw [ev139, up2_row]; exact st_push hst (mrun_h _ _ _) ht3 (by rw [vz0]; exact ((congrArg bI (show tstS XX p (T k - 3) = false from (by rw [tstS, if_pos hs0, ← hr53]; exact decide_eq_false (by rw [← hx7]; exact fun z => absurd z (Int32.not_lt.mpr c_95))))).symm))) (by omega) _ _ h ls (lv_sub hl [6, 7, 8, 1, 0] rfl)
            · skip
              refine lv_iconst (v := 1) hx hb dX8_isTrue_98 (by decide) ?_
              refine lv_goto (tgt := 139) hx hb dX8_isTrue_99 (by decide) ?_
              refine g_zast X h (k := (hrun T k)) (cc_131) hx3 (by omega) (by decide) dX8_isTrue_139 (fun v139 H locs ev139 h => ?_)
              refine lv_goto (tgt := 245) hx hb dX8_isTrue_140 (by decide) ?_
              refine lv_iinc (v := (x4 + 1)) (lv' := [(4, .int (x4 + 1)), (3, .int (x3 + 1)), (8, .int x8_76), (7, .int x7_65), (6, .int r53), (5, .int x5_35), (0, .ref (zg Z 116)), (1, .int x0), (2, .int x1)]) hx hb dX8_isTrue_245 hl (k := 8) rfl rfl (by decide) rfl (fun ls hl => ?_)
              refine lv_goto (tgt := 10) hx hb dX8_isTrue_248 (by decide) ?_
              exact ih10 (k + 1) (x3 + 1) (x4 + 1) (upd f (hrun T k) (vp_nar .boolean 1)) v139 (by rw [hx4]; exact nI_1 _) (by rw [hx3]; show nI _ + 1 = nI (hstep _ _); rw [hstep, if_pos ht3]; exact nI_1 _) (by omega) (by rw [ev139, hva, up2_upc]) (by rw [ev139, up2_row]; exact st_push hst (mrun_h _ _ _) ht3 (by rw [vz1]; exact ((congrArg bI (show tstS XX p (T k - 3) = true from (by rw [tstS, if_pos hs0, ← hr53]; exact decide_eq_true (by rw [← hx7]; exact Int32.not_le.mp c_95)))).symm))) (by omega) _ _ h ls (lv_sub hl [6, 7, 8, 1, 0] rfl)
  exact L10 (tk.length - 0 + 1) 0 0 x4_8 (v 131) v (by rw [ex4_8, hb8]; rfl) rfl (by omega) (upc_self v 131).symm (fun j hj => absurd hj (Nat.not_lt_zero _)) (Nat.lt_succ_self _) _ _ h ls (lv_sub hl [2, 3, 4, 1, 0] rfl)
