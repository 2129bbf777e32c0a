def judF (th : Nat → Int32) (ts sz : Int32) (it : Nat → Int64) (t : Nat) (i : Int32) : Nat → Nat → Int32
  | 0, _ => -5
  | f + 1, p => if ts = -1 ∨ i < 0 ∨ ¬ i.toInt64 + (nI p).toInt64 < sz.toInt64 then 100 + nI p else if it (60 * t + i.toNatClampNeg + p) = (th p).toInt64 then judF th ts sz it t i f (p + 1) else nI p
def sJudge (n : Nat) (th ts sz : Nat → Int32) (it : Nat → Int64) (x i : Int32) : Int32 := if inR x 0 5 then (if ts x.toNatClampNeg = -1 ∨ ts x.toNatClampNeg = 1 then judF th (ts x.toNatClampNeg) (sz x.toNatClampNeg) it x.toNatClampNeg i n 0 else -12) else -1
/-! winters -/
def winS (X : VV) (L : LND) (n : Nat) (go wh : Nat → Int32) : Nat → VV
  | 0 => X
  | i + 1 => if go i = 0 then dayS (winS X L n go wh i) L n else if go i = 1 then up2 (winS X L n go wh i) 5 (wh i).toNatClampNeg 1 else if go i = 2 then up2 (winS X L n go wh i) 0 1 (imax 0 (winS X L n go wh i 0 1 - 10)) else up2 (winS X L n go wh i) 0 2 0
def sGone (X : VV) (L : LND) (n : Nat) (go wh : Nat → Int32) (z : Nat) (x : Int32) : Int32 := if inR x 0 1 then (if x = 0 then winS X L n go wh z 0 1 else winS X L n go wh z 0 2) else -1
theorem RX_up {n B : Nat} {X : VV} (h : RX n B X) : RX n (B + 1) X := ⟨h.1, h.2.1, h.2.2.1, ⟨h.2.2.2.1.1, by have := h.2.2.2.1.2; omega⟩, h.2.2.2.2⟩
theorem RX_win {n B : Nat} {X : VV} {L : LND} {go wh : Nat → Int32} (hn : n ≤ 6) (h : RX n B X) : ∀ i, B + i < 1000000 → RX n (B + i) (winS X L n go wh i)
  | 0, _ => h
  | i + 1, hi => by
    have ih := RX_win (L := L) (go := go) (wh := wh) hn h i (by omega)
    rw [winS]
    split
    · exact RX_dayS (B := B + i) hn ih (by omega)
    · have g : RX n (B + (i + 1)) (winS X L n go wh i) := RX_up ih
      split
      · exact RX_dead g
      · split
        · refine ⟨fun a ha => by simpa [up2] using g.1 a ha, ?_, by simpa [up2] using g.2.2⟩
          simp only [up2, and_self, if_true]
          have e : (winS X L n go wh i 0 1 - 10).toInt = (winS X L n go wh i 0 1).toInt - 10 := i_sub (by have := g.2.1; simp; omega) (by have := g.2.1; simp; omega)
          exact imax_rng (by decide) (by have := g.2.1; omega)
        · exact ⟨fun a ha => by simpa [up2] using g.1 a ha, by simpa [up2] using g.2.1, by simp [up2], by simpa [up2] using g.2.2.2.1, by simpa [up2] using g.2.2.2.2.1, by simpa [up2] using g.2.2.2.2.2⟩
/-- a winter may also make one dead -/
def frG (v v' : VV) : Prop := (∀ i, i ≠ 116 → i ≠ 119 → i ≠ 120 → i ≠ 121 → i ≠ 131 → v' i = v i) ∧ (∀ k, k ≠ 7 → k ≠ 8 → k ≠ 11 → v' 116 k = v 116 k) ∧ ∀ k, 6 ≤ k → v' 119 k = v 119 k ∧ v' 120 k = v 120 k ∧ v' 121 k = v 121 k
theorem frG_refl (v : VV) : frG v v := ⟨fun _ _ _ _ _ _ => rfl, fun _ _ _ _ => rfl, fun _ _ => ⟨rfl, rfl, rfl⟩⟩
theorem frG_M {a b c : VV} (h1 : frG a b) (h2 : frM b c) : frG a c := ⟨fun i x y z u t => (h2.1 i x y z t).trans (h1.1 i x y z u t), fun k x y z => (h2.2.1 k x y z).trans (h1.2.1 k x y z), fun k x => ⟨(h2.2.2 k x).1.trans (h1.2.2 k x).1, (h2.2.2 k x).2.trans (h1.2.2 k x).2.1, (congrFun (h2.1 121 (by decide) (by decide) (by decide) (by decide)) k).trans (h1.2.2 k x).2.2⟩⟩
theorem frG_dead {a b c : VV} {p : Nat} (h : frG a b) (hp : p < 6) (e : c = up2 b 121 p 1) : frG a c := by
  subst e
  refine ⟨fun i x y z u t => (up2_ne u).trans (h.1 i x y z u t), fun k x y z => by rw [up2_ne (by decide)]; exact h.2.1 k x y z, fun k hk => ?_⟩
  rw [up2_ne (by decide), up2_ne (by decide), up2_at, if_neg (by omega)]
  exact h.2.2 k hk
theorem frG_num {a b c : VV} {s : Nat} {x : Int32} (h : frG a b) (hs : s = 7 ∨ s = 8) (e : c = up2 b 116 s x) : frG a c := by
  subst e
  refine ⟨fun i x y z u t => (up2_ne x).trans (h.1 i x y z u t), fun k x y z => by rw [up2_at, if_neg (by omega)]; exact h.2.1 k x y z, fun k hk => ?_⟩
  rw [up2_ne (by decide), up2_ne (by decide), up2_ne (by decide)]
  exact h.2.2 k hk
theorem again_allG {v v1 v2 : VV} (h1 : v1 = upc v 138 (keepS v (v 138))) (h2 : frG v1 v2) : scM v (againS v2 138) := by
  have e1 : ∀ i, i ≠ 138 → v1 i = v i := fun i hi => by rw [h1, upc_ne hi]
  have e2 : v2 138 = keepS v (v 138) := by rw [h2.1 138 (by decide) (by decide) (by decide) (by decide) (by decide), h1, upc_at]
  obtain ⟨f1, f2, f3⟩ := h2
  intro i a b
  funext k
  by_cases h116 : i = 116
  · subst h116
    have g := f2 k
    rw [e1 116 (by decide)] at g
    simp only [againS, up2, agA, e2, keepS]
    grind
  · have q : againS v2 138 i k = agA v2 138 6 24 i k := by simp [againS, up2, h116]
    rw [q]
    simp only [agA, e2, keepS]
    have g := (f3 k)
    rw [e1 119 (by decide), e1 120 (by decide), e1 121 (by decide)] at g
    by_cases h119 : i = 119
    · subst h119; grind
    by_cases h120 : i = 120
    · subst h120; grind
    by_cases h121 : i = 121
    · subst h121; grind
    have g := congrFun ((f1 i h116 h119 h120 h121 a).trans (e1 i b)) k
    by_cases c1 : i = 118
    · subst c1; grind
    by_cases c3 : i = 123
    · subst c3; grind
    by_cases c4 : i = 122
    · subst c4; grind
    grind
theorem DM_frG {v v' : VV} {n B B' : Nat} {L : LND} (h : DM v n B L) (hf : frG v v') (hr : RX n B' (xM v' n L)) (hB : B' < 1000000) : DM v' n B' L :=
  ⟨by rw [hf.2.1 0 (by omega) (by omega) (by omega)]; exact h.1, h.2.1, h.2.2.1, curM_cong (hf.2.1 15 (by omega) (by omega) (by omega)) (fun i h1 h2 => hf.1 i (by omega) (by omega) (by omega) (by omega) (by omega)) h.2.2.2.1, hr, hB⟩
/-! the image -/
def otS (v : VV) (f : Nat → Int32) : Nat → Int32 := fun j => if j < 5 then v 132 j else if j < 10 then v 133 (j - 5) else if j < 20 then v 134 (j - 10) else if j < 30 then v 135 (j - 20) else if j < 38 then v 136 (j - 30) else if j < 46 then v 137 (j - 38) else f j
def ot1 (v : VV) (f : Nat → Int32) (a b c : Nat) : Nat → Int32 := fun j => if j < 10 then (if j % 5 < a then otS v f j else f j) else if j < 30 then (if j % 10 < b then otS v f j else f j) else if j < 46 then (if (j - 30) % 8 < c then otS v f j else f j) else f j
theorem ot1_0 (v : VV) (f : Nat → Int32) : ot1 v f 0 0 0 = f := by funext j; simp only [ot1]; grind
theorem ot1_a {v : VV} {f : Nat → Int32} {a : Nat} (h : a < 5) : upd (upd (ot1 v f a 0 0) a (v 132 a)) (5 + a) (v 133 a) = ot1 v f (a + 1) 0 0 := by
  funext j
  simp only [upd, ot1, otS]
  grind (splits := 40)
theorem ot1_b {v : VV} {f : Nat → Int32} {a : Nat} (h : a < 10) : upd (upd (ot1 v f 5 a 0) (10 + a) (v 134 a)) (20 + a) (v 135 a) = ot1 v f 5 (a + 1) 0 := by
  funext j
  simp only [upd, ot1, otS]
  grind (splits := 40)
theorem ot1_c {v : VV} {f : Nat → Int32} {a : Nat} (h : a < 8) : upd (upd (ot1 v f 5 10 a) (30 + a) (v 136 a)) (38 + a) (v 137 a) = ot1 v f 5 10 (a + 1) := by
  funext j
  simp only [upd, ot1, otS]
  grind (splits := 40)
theorem ot1_e (v : VV) (f : Nat → Int32) : ot1 v f 5 10 8 = otS v f := by
  funext j
  simp only [ot1, otS]
  grind (splits := 40)
theorem keepS_40 (v : VV) (f : Nat → Int32) : keepS (up2 v 116 40 1) f = keepS v f := by funext j; simp [keepS, up2]
def un1 (v : VV) (a b c : Nat) : VV := fun i k => if i = 132 ∧ k < a then v 140 k else if i = 133 ∧ k < a then v 140 (5 + k) else if i = 134 ∧ k < b then v 140 (10 + k) else if i = 135 ∧ k < b then v 140 (20 + k) else if i = 136 ∧ k < c then v 140 (30 + k) else if i = 137 ∧ k < c then v 140 (38 + k) else v i k
theorem un1_0 (v : VV) : un1 v 0 0 0 = v := by funext i k; simp [un1]
theorem un1_t (v : VV) (a b c : Nat) : un1 v a b c 140 = v 140 := by funext k; simp [un1]
theorem un1_a (v : VV) (a : Nat) : up2 (up2 (un1 v a 0 0) 132 a (v 140 a)) 133 a (v 140 (5 + a)) = un1 v (a + 1) 0 0 := by
  funext i k; simp only [up2, un1]; grind (splits := 40)
theorem un1_b (v : VV) (a : Nat) : up2 (up2 (un1 v 5 a 0) 134 a (v 140 (10 + a))) 135 a (v 140 (20 + a)) = un1 v 5 (a + 1) 0 := by
  funext i k; simp only [up2, un1]; grind (splits := 40)
theorem un1_c (v : VV) (a : Nat) : up2 (up2 (un1 v 5 10 a) 136 a (v 140 (30 + a))) 137 a (v 140 (38 + a)) = un1 v 5 10 (a + 1) := by
  funext i k; simp only [up2, un1]; grind (splits := 40)
theorem vb140 (v : VV) (f) : upc (upc (up2 v 116 40 1) 139 f) 140 (v 140) = upc (up2 v 116 40 1) 139 f := by
  funext q
  show (if q = 140 then v 140 else _) = _
  by_cases e : q = 140
  · rw [if_pos e, e]
    show v 140 = if (140 : Nat) = 139 then f else up2 v 116 40 1 140
    rw [if_neg (by decide), up2_ne (by decide)]
  · rw [if_neg e]
/-- a counter that falls from n - 1 -/
def dnx (n k : Nat) : Int32 := if k < n then nI (n - (k + 1)) else -1
theorem dnx_0 (n : Nat) : nI n - 1 = dnx n 0 := by
  unfold dnx
  by_cases h : 0 < n
  · rw [if_pos h]; exact pk_sub (b := 1) h
  · rw [if_neg h, show n = 0 by omega]; decide
theorem dnx_at {n k : Nat} (h : k < n) : dnx n k = nI (n - (k + 1)) := if_pos h
theorem dnx_s {n k : Nat} (h : k < n) (hn : n < 2 ^ 31) : dnx n k + (-1) = dnx n (k + 1) := by
  unfold dnx
  rw [if_pos h]
  by_cases e : k + 1 < n
  · rw [if_pos e, sb_m1 (by omega), show n - (k + 1) - 1 = n - (k + 1 + 1) by omega]
  · rw [if_neg e, show n - (k + 1) = 0 by omega]; decide
theorem dnx_neg {n k : Nat} (hn : n < 2 ^ 31) (h : dnx n k < 0) : n ≤ k := by
  unfold dnx at h
  by_cases e : k < n
  · rw [if_pos e] at h; exact absurd h (nI_pos (by omega))
  · omega
theorem dnx_pos {n k : Nat} (h : ¬ dnx n k < 0) : k < n := by
  unfold dnx at h
  by_cases e : k < n
  · exact e
  · rw [if_neg e] at h; exact absurd (by decide) h
set_option maxRecDepth 100000 in
set_option maxHeartbeats 1000000 in
theorem c_X8_shift (gl : Launch) (Z : PL) (v : VV) (w : WV) (x0 : Int32) (x1 : Int32) (x2 : Int32) (x3 : Int32) (x4 : Int32) (hti : TIv (v 142) (v 143)) : CT gl yX8_shift cX8_shift 7 (some .int) 2 42 Z [.ref (zg Z 116), .int x0, .int x1, .int x2, .int x3, .int x4] v w (Qi Z (fun r u => r = sShift (v 142) (v 143) x0 x1 x2 x3 x4 ∧ (v, if okShift (v 142) (v 143) x0 x1 x2 x3 x4 then upcL w 144 (va_cpy (w 144) (w 144) (60 * x0.toNatClampNeg + x1.toNatClampNeg) (60 * x2.toNatClampNeg + x3.toNatClampNeg) x4.toNatClampNeg) else w) = u)) := by
  refine g_met (by decide) (Nat.le_of_ble_eq_true rfl) ?_
  intro gp ge gs gm ga gb gh gc X h ls hl
  have hx := X.1
  have hb := X.2.1
  have hl : lv_has ls 7 [(0, .ref (zg Z 116)), (1, .int x0), (2, .int x1), (3, .int x2), (4, .int x3), (5, .int x4)] := hl
  refine lv_iload_n hx hb dX8_shift_0 rfl (lv_at hl 1 rfl) ?_
  refine g_ki h (g_runS X h (As := [.int x0]) (rest := []) (c_X8_isTape gl Z v w x0) ms_X8_isTape ml_RX8_335 ⟨Nat.le_of_ble_eq_true rfl, Nat.le_of_ble_eq_true rfl⟩ rfl hl.1 rfl (Nat.le_of_ble_eq_true rfl) dX8_shift_1) (fun r1 v1 w1 H locs hp1 h => ?_)
  obtain ⟨hr1, hu1⟩ := hp1; obtain ⟨rfl, rfl⟩ := Prod.mk.inj hu1
  refine lv_if_eq (tgt := 14) hx hb dX8_shift_4 (by decide) (fun c_4 => ?_) (fun c_4 => ?_)
  · skip
    rw [hr1, bI_0] at c_4
    refine lv_iconst (v := (-1)) hx hb dX8_shift_14 (by decide) ?_
    exact g_iret X h dX8_shift_15 ⟨by simp [sShift, c_4], by rw [if_neg (by simp [okShift, c_4])]⟩
  · skip
    rw [hr1, bI_n] at c_4
    obtain ⟨t, ht, ht0, ht5, htc⟩ := inR_nat (a := 0) (b := 5) rfl rfl (by decide) c_4
    refine lv_iload_n hx hb dX8_shift_7 rfl (lv_at hl 3 rfl) ?_
    refine g_ki h (g_runS X h (As := [.int x2]) (rest := []) (c_X8_isTape gl Z v w x2) ms_X8_isTape ml_RX8_335 ⟨Nat.le_of_ble_eq_true rfl, Nat.le_of_ble_eq_true rfl⟩ rfl hl.1 rfl (Nat.le_of_ble_eq_true rfl) dX8_shift_8) (fun r8 v8 w8 H locs hp8 h => ?_)
    obtain ⟨hr8, hu8⟩ := hp8; obtain ⟨rfl, rfl⟩ := Prod.mk.inj hu8
    refine lv_if_ne (tgt := 16) hx hb dX8_shift_11 (by decide) (fun c_11 => ?_) (fun c_11 => ?_)
    · skip
      rw [hr8, bI_n] at c_11
      obtain ⟨o, ho, ho0, ho5, hoc⟩ := inR_nat (a := 0) (b := 5) rfl rfl (by decide) c_11
      refine lv_aload_n hx hb dX8_shift_16 rfl (lv_at hl 0 rfl) ?_
      refine g_getr X h (k := 45) (t := 142) (cc_116) fr_RX8_88 rfl (by decide) (by decide) (by decide) dX8_shift_17 ?_
      refine lv_iload_n hx hb dX8_shift_20 rfl (lv_at hl 1 rfl) ?_
      refine g_iald X h (k := t) (cc_142) ht (by omega) (by decide) dX8_shift_21 ?_
      refine lv_if_lt (tgt := 34) hx hb dX8_shift_22 (by decide) (fun c_22 => ?_) (fun c_22 => ?_)
      · skip
        refine lv_bipush (v := (-11)) hx hb dX8_shift_34 (by decide) ?_
        exact g_iret X h dX8_shift_36 ⟨by simp [sShift, c_4, c_11, htc, hoc, c_22], by rw [if_neg (by simp [okShift, htc, hoc, c_22])]⟩
      · skip
        refine lv_aload_n hx hb dX8_shift_25 rfl (lv_at hl 0 rfl) ?_
        refine g_getr X h (k := 45) (t := 142) (cc_116) fr_RX8_88 rfl (by decide) (by decide) (by decide) dX8_shift_26 ?_
        refine lv_iload_n hx hb dX8_shift_29 rfl (lv_at hl 3 rfl) ?_
        refine g_iald X h (k := o) (cc_142) ho (by omega) (by decide) dX8_shift_30 ?_
        refine lv_if_ge (tgt := 37) hx hb dX8_shift_31 (by decide) (fun c_31 => ?_) (fun c_31 => ?_)
        · skip
          refine lv_aload_n hx hb dX8_shift_37 rfl (lv_at hl 0 rfl) ?_
          refine g_getr X h (k := 45) (t := 142) (cc_116) fr_RX8_88 rfl (by decide) (by decide) (by decide) dX8_shift_38 ?_
          refine lv_iload_n hx hb dX8_shift_41 rfl (lv_at hl 1 rfl) ?_
          refine g_iald X h (k := t) (cc_142) ht (by omega) (by decide) dX8_shift_42 ?_
          refine lv_aload_n hx hb dX8_shift_43 rfl (lv_at hl 0 rfl) ?_
          refine g_getr X h (k := 45) (t := 142) (cc_116) fr_RX8_88 rfl (by decide) (by decide) (by decide) dX8_shift_44 ?_
          refine lv_iload_n hx hb dX8_shift_47 rfl (lv_at hl 3 rfl) ?_
          refine g_iald X h (k := o) (cc_142) ho (by omega) (by decide) dX8_shift_48 ?_
          refine lv_icmp_eq (tgt := 55) hx hb dX8_shift_49 (by decide) (fun c_49 => ?_) (fun c_49 => ?_)
          · skip
            refine lv_iload hx hb dX8_shift_55 (lv_at hl 5 rfl) ?_
            refine lv_if_lt (tgt := 104) hx hb dX8_shift_57 (by decide) (fun c_57 => ?_) (fun c_57 => ?_)
            · skip
              refine lv_bipush (v := (-13)) hx hb dX8_shift_104 (by decide) ?_
              exact g_iret X h dX8_shift_106 ⟨by have z := Int32.not_lt.mpr c_31; simp only [sShift, c_4, c_11, htc, hoc, Bool.and_self, if_true, c_49]; simp only [c_49] at c_22; simp [z, c_57], by rw [if_neg (by simp [okShift, c_57])]⟩
            · skip
              obtain ⟨nn, hnn9, hnn⟩ := nI_of c_57
              refine lv_iload_n hx hb dX8_shift_60 rfl (lv_at hl 2 rfl) ?_
              refine lv_if_lt (tgt := 104) hx hb dX8_shift_61 (by decide) (fun c_61 => ?_) (fun c_61 => ?_)
              · skip
                refine lv_bipush (v := (-13)) hx hb dX8_shift_104 (by decide) ?_
                exact g_iret X h dX8_shift_106 ⟨by have z := Int32.not_lt.mpr c_31; simp only [sShift, c_4, c_11, htc, hoc, Bool.and_self, if_true, c_49]; simp only [c_49] at c_22; simp [z, c_61], by rw [if_neg (by simp [okShift, c_61])]⟩
              · skip
                obtain ⟨ii, hii9, hii⟩ := nI_of c_61
                refine lv_iload hx hb dX8_shift_64 (lv_at hl 4 rfl) ?_
                refine lv_if_lt (tgt := 104) hx hb dX8_shift_66 (by decide) (fun c_66 => ?_) (fun c_66 => ?_)
                · skip
                  refine lv_bipush (v := (-13)) hx hb dX8_shift_104 (by decide) ?_
                  exact g_iret X h dX8_shift_106 ⟨by have z := Int32.not_lt.mpr c_31; simp only [sShift, c_4, c_11, htc, hoc, Bool.and_self, if_true, c_49]; simp only [c_49] at c_22; simp [z, c_66], by rw [if_neg (by simp [okShift, c_66])]⟩
                · skip
                  obtain ⟨jj, hjj9, hjj⟩ := nI_of c_66
                  obtain ⟨z1, hz160, hz1⟩ := sz_nat hti (show t < 6 by omega)
                  obtain ⟨z2, hz260, hz2⟩ := sz_nat hti (show o < 6 by omega)
                  refine lv_iload_n hx hb dX8_shift_69 rfl (lv_at hl 2 rfl) ?_
                  refine lv_i2l hx hb dX8_shift_70 rfl ?_
                  refine lv_iload hx hb dX8_shift_71 (lv_at hl 5 rfl) ?_
                  refine lv_i2l hx hb dX8_shift_73 rfl ?_
                  refine lv_ladd hx hb dX8_shift_74 ?_
                  refine lv_aload_n hx hb dX8_shift_75 rfl (lv_at hl 0 rfl) ?_
                  refine g_getr X h (k := 46) (t := 143) (cc_116) fr_RX8_91 rfl (by decide) (by decide) (by decide) dX8_shift_76 ?_
                  refine lv_iload_n hx hb dX8_shift_79 rfl (lv_at hl 1 rfl) ?_
                  refine g_iald X h (k := t) (cc_143) ht (by omega) (by decide) dX8_shift_80 ?_
                  refine lv_i2l hx hb dX8_shift_81 rfl ?_
                  refine W.lcmp hx hb dX8_shift_82 ?_
                  refine lv_if_gt (tgt := 104) hx hb dX8_shift_83 (by decide) (fun c_83 => ?_) (fun c_83 => ?_)
                  · skip
                    refine lv_bipush (v := (-13)) hx hb dX8_shift_104 (by decide) ?_
                    exact g_iret X h dX8_shift_106 ⟨by have z := Int32.not_lt.mpr c_31; simp only [sShift, c_4, c_11, htc, hoc, Bool.and_self, if_true, c_49]; simp only [c_49] at c_22; have z3 : outS (v 143 t) x1 x4 = true := decide_eq_true (cmp_gt.mp c_83); simp [z, z3], by rw [if_neg (by have z3 : outS (v 143 t) x1 x4 = true := decide_eq_true (cmp_gt.mp c_83); simp [okShift, htc, z3])]⟩
                  · skip
                    refine lv_iload hx hb dX8_shift_86 (lv_at hl 4 rfl) ?_
                    refine lv_i2l hx hb dX8_shift_88 rfl ?_
                    refine lv_iload hx hb dX8_shift_89 (lv_at hl 5 rfl) ?_
                    refine lv_i2l hx hb dX8_shift_91 rfl ?_
                    refine lv_ladd hx hb dX8_shift_92 ?_
                    refine lv_aload_n hx hb dX8_shift_93 rfl (lv_at hl 0 rfl) ?_
                    refine g_getr X h (k := 46) (t := 143) (cc_116) fr_RX8_91 rfl (by decide) (by decide) (by decide) dX8_shift_94 ?_
                    refine lv_iload_n hx hb dX8_shift_97 rfl (lv_at hl 3 rfl) ?_
                    refine g_iald X h (k := o) (cc_143) ho (by omega) (by decide) dX8_shift_98 ?_
                    refine lv_i2l hx hb dX8_shift_99 rfl ?_
                    refine W.lcmp hx hb dX8_shift_100 ?_
                    refine lv_if_le (tgt := 107) hx hb dX8_shift_101 (by decide) (fun c_101 => ?_) (fun c_101 => ?_)
                    · skip
                      have hiic : x1.toNatClampNeg = ii := by rw [hii]; exact nI_clamp hii9
                      have hjjc : x3.toNatClampNeg = jj := by rw [hjj]; exact nI_clamp hjj9
                      have hnnc : x4.toNatClampNeg = nn := by rw [hnn]; exact nI_clamp hnn9
                      have h83 : ii + nn ≤ z1 := Nat.le_of_not_lt (fun q => c_83 (cmp_gt.mpr ((out_nat hz1 hii hnn (by omega) hii9 hnn9).mpr q)))
                      have h101 : jj + nn ≤ z2 := Nat.le_of_not_lt (fun q => absurd (cmp_gt.mpr ((out_nat hz2 hjj hnn (by omega) hjj9 hnn9).mpr q)) (Int32.not_lt.mpr c_101))
                      have o1 : outS (v 143 t) x1 x4 = false := decide_eq_false (fun q => c_83 (cmp_gt.mpr q))
                      have o2 : outS (v 143 o) x3 x4 = false := decide_eq_false (fun q => absurd (cmp_gt.mpr q) (Int32.not_lt.mpr c_101))
                      have zn := Int32.not_lt.mpr c_31
                      have hres : x4 = sShift (v 142) (v 143) x0 x1 x2 x3 x4 := by
                        simp only [sShift, c_4, c_11, htc, hoc, Bool.and_self, if_true, c_49]
                        simp only [c_49] at c_22
                        simp [zn, c_57, c_61, c_66, o1, o2]
                      have hok : okShift (v 142) (v 143) x0 x1 x2 x3 x4 = true := by
                        simp only [okShift, c_4, c_11, htc, hoc, c_49]
                        simp only [c_49] at c_22
                        simp [zn, c_57, c_61, c_66, o1, o2]
                      refine lv_iload_n hx hb dX8_shift_107 rfl (lv_at hl 1 rfl) ?_
                      refine lv_iload_n hx hb dX8_shift_108 rfl (lv_at hl 3 rfl) ?_
                      have L170 : ∀ (n170 : Nat) (k : Nat) (x6 : Int32) (wa : WV), (x6 = nI k) → (k ≤ nn) → (wa = upcL w 144 (va_cpy (w 144) (w 144) (60 * t + ii) (60 * o + jj) k)) → (60 * o + jj ≤ 60 * t + ii ∨ 60 * t + ii + nn ≤ 60 * o + jj) → nn - k < n170 → ∀ (H : Heap) (locs : List Loc), HS Z gs v wa H locs → ∀ ls : Array Slot, lv_has ls 7 [(0, .ref (zg Z 116)), (1, .int x0), (2, .int x1), (3, .int x2), (4, .int x3), (5, .int x4), (6, .int x6)] → W gp gl ge (rmm 2 42) gs gm ga gb gh gc H locs 0 0 (MQ gb (Qi Z (fun r u => r = sShift (v 142) (v 143) x0 x1 x2 x3 x4 ∧ (v, if okShift (v 142) (v 143) x0 x1 x2 x3 x4 then upcL w 144 (va_cpy (w 144) (w 144) (60 * x0.toNatClampNeg + x1.toNatClampNeg) (60 * x2.toNatClampNeg + x3.toNatClampNeg) x4.toNatClampNeg) else w) = u)) ga gs 0 0 (zA Z)) (F0 gm 170 ls []) := by
                        intro n170
                        induction n170 with
                        | zero => intro k x6 wa hx6 hk hwa hdir hmu; exact absurd hmu (Nat.not_lt_zero _)
                        | succ n170 ih170 =>
                          intro k x6 wa hx6 hk hwa hdir hmu170 H locs h ls hl
                          refine lv_iload hx hb dX8_shift_170 (lv_at hl 6 rfl) ?_
                          refine lv_iload hx hb dX8_shift_172 (lv_at hl 5 rfl) ?_
                          refine lv_icmp_ge (tgt := 212) hx hb dX8_shift_174 (by decide) (fun c_174 => ?_) (fun c_174 => ?_)
                          · skip
                            have hkn := nI_le1 (a := nn) (b := k) hnn hx6 (by omega) (by omega) c_174
                            refine lv_iload hx hb dX8_shift_212 (lv_at hl 5 rfl) ?_
                            exact g_iret X h dX8_shift_214 ⟨hres, by rw [if_pos hok, hwa, show k = nn by omega, htc, hoc, hiic, hjjc, hnnc]⟩
                          · skip
                            have hkn := nI_le0 (a := nn) (b := k) hnn hx6 (by omega) (by omega) c_174
                            refine lv_aload_n hx hb dX8_shift_177 rfl (lv_at hl 0 rfl) ?_
                            refine g_getr X h (k := 47) (t := 144) (cc_116) fr_RX8_94 rfl (by decide) (by decide) (by decide) dX8_shift_178 ?_
                            refine lv_bipush (v := 60) hx hb dX8_shift_181 (by decide) ?_
                            refine lv_iload_n hx hb dX8_shift_183 rfl (lv_at hl 3 rfl) ?_
                            refine lv_imul hx hb dX8_shift_184 ?_
                            refine lv_iload hx hb dX8_shift_185 (lv_at hl 4 rfl) ?_
                            refine lv_iadd hx hb dX8_shift_187 ?_
                            refine lv_iload hx hb dX8_shift_188 (lv_at hl 6 rfl) ?_
                            refine lv_iadd hx hb dX8_shift_190 ?_
                            refine lv_aload_n hx hb dX8_shift_191 rfl (lv_at hl 0 rfl) ?_
                            refine g_getr X h (k := 47) (t := 144) (cc_116) fr_RX8_94 rfl (by decide) (by decide) (by decide) dX8_shift_192 ?_
                            refine lv_bipush (v := 60) hx hb dX8_shift_195 (by decide) ?_
                            refine lv_iload_n hx hb dX8_shift_197 rfl (lv_at hl 1 rfl) ?_
                            refine lv_imul hx hb dX8_shift_198 ?_
                            refine lv_iload_n hx hb dX8_shift_199 rfl (lv_at hl 2 rfl) ?_
                            refine lv_iadd hx hb dX8_shift_200 ?_
                            refine lv_iload hx hb dX8_shift_201 (lv_at hl 6 rfl) ?_
                            refine lv_iadd hx hb dX8_shift_203 ?_
                            refine g_lald X h (k := (((60 * t) + ii) + k)) (cc_144) (by rw [show (((60 * x0) + x1)) = nI ((60 * t) + ii) from (by rw [show ((60 * x0)) = nI (60 * t) from (by rw [show (60) = nI 60 from rfl, show (x0) = nI t from ht, pk_mul]), show (x1) = nI ii from hii, nI_add]), show (x6) = nI k from hx6, nI_add]) (by omega) (by decide) dX8_shift_204 ?_
                            refine g_last X h (k := (((60 * o) + jj) + k)) (cc_144) (by rw [show (((60 * x2) + x3)) = nI ((60 * o) + jj) from (by rw [show ((60 * x2)) = nI (60 * o) from (by rw [show (60) = nI 60 from rfl, show (x2) = nI o from ho, pk_mul]), show (x3) = nI jj from hjj, nI_add]), show (x6) = nI k from hx6, nI_add]) (by omega) (by decide) dX8_shift_205 (fun w205 H locs ew205 h => ?_)
                            refine lv_iinc (v := (x6 + 1)) (lv' := [(6, .int (x6 + 1)), (0, .ref (zg Z 116)), (1, .int x0), (2, .int x1), (3, .int x2), (4, .int x3), (5, .int x4)]) hx hb dX8_shift_206 hl (k := 6) rfl rfl (by decide) rfl (fun ls hl => ?_)
                            refine lv_goto (tgt := 170) hx hb dX8_shift_209 (by decide) ?_
                            exact ih170 (k + 1) (x6 + 1) w205 (by rw [hx6]; exact nI_1 _) (by omega) (by rw [ew205, hwa, up2L_upcL, upcL_at, cpF_s (by omega)]) hdir (by omega) _ _ h ls (lv_sub hl [1, 2, 3, 4, 5, 6, 0] rfl)
                      refine lv_icmp_ne (tgt := 167) hx hb dX8_shift_109 (by decide) (fun c_109 => ?_) (fun c_109 => ?_)
                      · skip
                        have hto := nI_eq0 (a := t) (b := o) ht ho c_109
                        refine lv_iconst (v := 0) hx hb dX8_shift_167 (by decide) ?_
                        refine lv_istore (lv' := [(6, .int 0), (0, .ref (zg Z 116)), (1, .int x0), (2, .int x1), (3, .int x2), (4, .int x3), (5, .int x4)]) hx hb dX8_shift_168 hl (by decide) rfl (fun ls hl => ?_)
                        exact L170 (nn - 0 + 1) 0 0 w rfl (Nat.zero_le _) (by rw [cpF_0, upcL_self]) (by omega) (Nat.lt_succ_self _) _ _ h ls (lv_sub hl [1, 2, 3, 4, 5, 6, 0] rfl)
                      · skip
                        have hto := nI_eq1 (a := t) (b := o) ht ho (by omega) (by omega) c_109
                        refine lv_iload_n hx hb dX8_shift_112 rfl (lv_at hl 2 rfl) ?_
                        refine lv_iload hx hb dX8_shift_113 (lv_at hl 4 rfl) ?_
                        refine lv_icmp_ge (tgt := 167) hx hb dX8_shift_115 (by decide) (fun c_115 => ?_) (fun c_115 => ?_)
                        · skip
                          have hij := nI_le1 (a := jj) (b := ii) hjj hii hjj9 hii9 c_115
                          refine lv_iconst (v := 0) hx hb dX8_shift_167 (by decide) ?_
                          refine lv_istore (lv' := [(6, .int 0), (0, .ref (zg Z 116)), (1, .int x0), (2, .int x1), (3, .int x2), (4, .int x3), (5, .int x4)]) hx hb dX8_shift_168 hl (by decide) rfl (fun ls hl => ?_)
                          exact L170 (nn - 0 + 1) 0 0 w rfl (Nat.zero_le _) (by rw [cpF_0, upcL_self]) (by omega) (Nat.lt_succ_self _) _ _ h ls (lv_sub hl [1, 2, 3, 4, 5, 6, 0] rfl)
                        · skip
                          have hij := nI_le0 (a := jj) (b := ii) hjj hii hjj9 hii9 c_115
                          refine lv_iload hx hb dX8_shift_118 (lv_at hl 5 rfl) ?_
                          refine lv_iconst (v := 1) hx hb dX8_shift_120 (by decide) ?_
                          refine lv_isub hx hb dX8_shift_121 ?_
                          refine lv_topi (fun x6_122 ex6_122 => ?_)
                          refine lv_istore (lv' := [(6, .int x6_122), (0, .ref (zg Z 116)), (1, .int x0), (2, .int x1), (3, .int x2), (4, .int x3), (5, .int x4)]) hx hb dX8_shift_122 hl (by decide) rfl (fun ls hl => ?_)
                          have L124 : ∀ (n124 : Nat) (k : Nat) (x6 : Int32) (wb : WV), (x6 = dnx nn k) → (k ≤ nn) → (wb = upcL w 144 (cpB (w 144) (60 * t + ii) (60 * o + jj) nn k)) → nn - k < n124 → ∀ (H : Heap) (locs : List Loc), HS Z gs v wb H locs → ∀ ls : Array Slot, lv_has ls 7 [(0, .ref (zg Z 116)), (1, .int x0), (2, .int x1), (3, .int x2), (4, .int x3), (5, .int x4), (6, .int x6)] → W gp gl ge (rmm 2 42) gs gm ga gb gh gc H locs 0 0 (MQ gb (Qi Z (fun r u => r = sShift (v 142) (v 143) x0 x1 x2 x3 x4 ∧ (v, if okShift (v 142) (v 143) x0 x1 x2 x3 x4 then upcL w 144 (va_cpy (w 144) (w 144) (60 * x0.toNatClampNeg + x1.toNatClampNeg) (60 * x2.toNatClampNeg + x3.toNatClampNeg) x4.toNatClampNeg) else w) = u)) ga gs 0 0 (zA Z)) (F0 gm 124 ls []) := by
                            intro n124
                            induction n124 with
                            | zero => intro k x6 wb hx6 hk hwb hmu; exact absurd hmu (Nat.not_lt_zero _)
                            | succ n124 ih124 =>
                              intro k x6 wb hx6 hk hwb hmu124 H locs h ls hl
                              refine lv_iload hx hb dX8_shift_124 (lv_at hl 6 rfl) ?_
                              refine lv_if_lt (tgt := 164) hx hb dX8_shift_126 (by decide) (fun c_126 => ?_) (fun c_126 => ?_)
                              · skip
                                have hkn : nn ≤ k := dnx_neg hnn9 (hx6 ▸ c_126)
                                refine lv_goto (tgt := 212) hx hb dX8_shift_164 (by decide) ?_
                                refine lv_iload hx hb dX8_shift_212 (lv_at hl 5 rfl) ?_
                                exact g_iret X h dX8_shift_214 ⟨hres, by rw [if_pos hok, hwb, show k = nn by omega, cpB_e, htc, hoc, hiic, hjjc, hnnc]⟩
                              · skip
                                have hkn : k < nn := dnx_pos (hx6 ▸ c_126)
                                rw [dnx_at hkn] at hx6
                                refine lv_aload_n hx hb dX8_shift_129 rfl (lv_at hl 0 rfl) ?_
                                refine g_getr X h (k := 47) (t := 144) (cc_116) fr_RX8_94 rfl (by decide) (by decide) (by decide) dX8_shift_130 ?_
                                refine lv_bipush (v := 60) hx hb dX8_shift_133 (by decide) ?_
                                refine lv_iload_n hx hb dX8_shift_135 rfl (lv_at hl 3 rfl) ?_
                                refine lv_imul hx hb dX8_shift_136 ?_
                                refine lv_iload hx hb dX8_shift_137 (lv_at hl 4 rfl) ?_
                                refine lv_iadd hx hb dX8_shift_139 ?_
                                refine lv_iload hx hb dX8_shift_140 (lv_at hl 6 rfl) ?_
                                refine lv_iadd hx hb dX8_shift_142 ?_
                                refine lv_aload_n hx hb dX8_shift_143 rfl (lv_at hl 0 rfl) ?_
                                refine g_getr X h (k := 47) (t := 144) (cc_116) fr_RX8_94 rfl (by decide) (by decide) (by decide) dX8_shift_144 ?_
                                refine lv_bipush (v := 60) hx hb dX8_shift_147 (by decide) ?_
                                refine lv_iload_n hx hb dX8_shift_149 rfl (lv_at hl 1 rfl) ?_
                                refine lv_imul hx hb dX8_shift_150 ?_
                                refine lv_iload_n hx hb dX8_shift_151 rfl (lv_at hl 2 rfl) ?_
                                refine lv_iadd hx hb dX8_shift_152 ?_
                                refine lv_iload hx hb dX8_shift_153 (lv_at hl 6 rfl) ?_
                                refine lv_iadd hx hb dX8_shift_155 ?_
                                refine g_lald X h (k := (((60 * t) + ii) + (nn - (k + 1)))) (cc_144) (by rw [show (((60 * x0) + x1)) = nI ((60 * t) + ii) from (by rw [show ((60 * x0)) = nI (60 * t) from (by rw [show (60) = nI 60 from rfl, show (x0) = nI t from ht, pk_mul]), show (x1) = nI ii from hii, nI_add]), show (x6) = nI (nn - (k + 1)) from hx6, nI_add]) (by omega) (by decide) dX8_shift_156 ?_
                                refine g_last X h (k := (((60 * o) + jj) + (nn - (k + 1)))) (cc_144) (by rw [show (((60 * x2) + x3)) = nI ((60 * o) + jj) from (by rw [show ((60 * x2)) = nI (60 * o) from (by rw [show (60) = nI 60 from rfl, show (x2) = nI o from ho, pk_mul]), show (x3) = nI jj from hjj, nI_add]), show (x6) = nI (nn - (k + 1)) from hx6, nI_add]) (by omega) (by decide) dX8_shift_157 (fun w157 H locs ew157 h => ?_)
                                refine lv_iinc (v := (x6 + (-1))) (lv' := [(6, .int (x6 + (-1))), (0, .ref (zg Z 116)), (1, .int x0), (2, .int x1), (3, .int x2), (4, .int x3), (5, .int x4)]) hx hb dX8_shift_158 hl (k := 6) rfl rfl (by decide) rfl (fun ls hl => ?_)
                                refine lv_goto (tgt := 124) hx hb dX8_shift_161 (by decide) ?_
                                exact ih124 (k + 1) (x6 + (-1)) w157 (by rw [hx6, ← dnx_at hkn]; exact dnx_s hkn hnn9) (by omega) (by rw [ew157, hwb, up2L_upcL, upcL_at, cpB_s hkn (by omega)]) (by omega) _ _ h ls (lv_sub hl [1, 2, 3, 4, 5, 6, 0] rfl)
                          exact L124 (nn - 0 + 1) 0 x6_122 w (by rw [ex6_122, hnn]; exact dnx_0 nn) (Nat.zero_le _) (by rw [cpB_0, upcL_self]) (Nat.lt_succ_self _) _ _ h ls (lv_sub hl [1, 2, 3, 4, 5, 6, 0] rfl)
                    · skip
                      refine lv_bipush (v := (-13)) hx hb dX8_shift_104 (by decide) ?_
                      exact g_iret X h dX8_shift_106 ⟨by have z := Int32.not_lt.mpr c_31; simp only [sShift, c_4, c_11, htc, hoc, Bool.and_self, if_true, c_49]; simp only [c_49] at c_22; have z3 : outS (v 143 o) x3 x4 = true := decide_eq_true (cmp_gt.mp (Int32.not_le.mp c_101)); simp [z, z3], by rw [if_neg (by have z3 : outS (v 143 o) x3 x4 = true := decide_eq_true (cmp_gt.mp (Int32.not_le.mp c_101)); simp [okShift, hoc, z3])]⟩
          · skip
            refine lv_bipush (v := (-12)) hx hb dX8_shift_52 (by decide) ?_
            exact g_iret X h dX8_shift_54 ⟨by have z := Int32.not_lt.mpr c_31; simp [sShift, c_4, c_11, htc, hoc, c_22, z, c_49], by rw [if_neg (by simp [okShift, htc, hoc, c_49])]⟩
        · skip
          refine lv_bipush (v := (-11)) hx hb dX8_shift_34 (by decide) ?_
          exact g_iret X h dX8_shift_36 ⟨by simp [sShift, c_4, c_11, htc, hoc, Int32.not_le.mp c_31], by rw [if_neg (by simp [okShift, htc, hoc, Int32.not_le.mp c_31])]⟩
    · skip
      rw [hr8, bI_0] at c_11
      refine lv_iconst (v := (-1)) hx hb dX8_shift_14 (by decide) ?_
      exact g_iret X h dX8_shift_15 ⟨by simp [sShift, c_4, c_11], by rw [if_neg (by simp [okShift, c_11])]⟩

set_option maxRecDepth 100000 in
set_option maxHeartbeats 1000000 in
theorem c_X8_judge (gl : Launch) (Z : PL) (v : VV) (w : WV) (x0 : Int32) (x1 : Int32) (n : Nat) (hn : v 116 0 = nI n) (h6 : n ≤ 6) (hti : TIv (v 142) (v 143)) : CT gl yX8_judge cX8_judge 4 (some .int) 1 22 Z [.ref (zg Z 116), .int x0, .int x1] v w (Qi Z (fun r u => r = sJudge n (v 119) (v 142) (v 143) (w 144) x0 x1 ∧ (v, w) = u)) := by
  refine g_met (by decide) (Nat.le_of_ble_eq_true rfl) ?_
  intro gp ge gs gm ga gb gh gc X h ls hl
  have hx := X.1
  have hb := X.2.1
  have hl : lv_has ls 4 [(0, .ref (zg Z 116)), (1, .int x0), (2, .int x1)] := hl
  refine lv_iload_n hx hb dX8_judge_0 rfl (lv_at hl 1 rfl) ?_
  refine lv_iconst (v := 0) hx hb dX8_judge_1 (by decide) ?_
  refine lv_iconst (v := 5) hx hb dX8_judge_2 (by decide) ?_
  refine g_ki h (g_runS X h (As := [.int x0, .int 0, .int 5]) (rest := []) (c_X8_within gl Z v w x0 0 5) ms_X8_within ml_RX8_114 ⟨Nat.le_of_ble_eq_true rfl, Nat.le_of_ble_eq_true rfl⟩ rfl hl.1 rfl (Nat.le_of_ble_eq_true rfl) dX8_judge_3) (fun r3 v3 w3 H locs hp3 h => ?_)
  obtain ⟨hr3, hu3⟩ := hp3; obtain ⟨rfl, rfl⟩ := Prod.mk.inj hu3
  refine lv_if_ne (tgt := 11) hx hb dX8_judge_6 (by decide) (fun c_6 => ?_) (fun c_6 => ?_)
  · skip
    rw [hr3, bI_n] at c_6
    obtain ⟨t, ht, ht0, ht5, htc⟩ := inR_nat (a := 0) (b := 5) rfl rfl (by decide) c_6
    refine lv_aload_n hx hb dX8_judge_11 rfl (lv_at hl 0 rfl) ?_
    refine g_getr X h (k := 45) (t := 142) (cc_116) fr_RX8_88 rfl (by decide) (by decide) (by decide) dX8_judge_12 ?_
    refine lv_iload_n hx hb dX8_judge_15 rfl (lv_at hl 1 rfl) ?_
    refine g_iald X h (k := t) (cc_142) ht (by omega) (by decide) dX8_judge_16 ?_
    refine lv_iconst (v := (-1)) hx hb dX8_judge_17 (by decide) ?_
    refine lv_icmp_eq (tgt := 34) hx hb dX8_judge_18 (by decide) (fun c_18 => ?_) (fun c_18 => ?_)
    · skip
      refine lv_iconst (v := 0) hx hb dX8_judge_34 (by decide) ?_
      refine lv_istore_n (lv' := [(3, .int 0), (0, .ref (zg Z 116)), (1, .int x0), (2, .int x1)]) hx hb dX8_judge_35 rfl hl (by decide) rfl (fun ls hl => ?_)
      have L36 : ∀ (n36 : Nat) (k : Nat) (x3 : Int32), (x3 = nI k) → (k ≤ n) → (sJudge n (v 119) (v 142) (v 143) (w 144) x0 x1 = judF (v 119) (v 142 t) (v 143 t) (w 144) t x1 (n - k) k) → n - k < n36 → ∀ (H : Heap) (locs : List Loc), HS Z gs v w H locs → ∀ ls : Array Slot, lv_has ls 4 [(0, .ref (zg Z 116)), (1, .int x0), (2, .int x1), (3, .int x3)] → W gp gl ge (rmm 1 22) gs gm ga gb gh gc H locs 0 0 (MQ gb (Qi Z (fun r u => r = sJudge n (v 119) (v 142) (v 143) (w 144) x0 x1 ∧ (v, w) = u)) ga gs 0 0 (zA Z)) (F0 gm 36 ls []) := by
        intro n36
        induction n36 with
        | zero => intro k x3 hx3 hk hjf hmu; exact absurd hmu (Nat.not_lt_zero _)
        | succ n36 ih36 =>
          intro k x3 hx3 hk hjf hmu36 H locs h ls hl
          obtain ⟨z, hz60, hz⟩ := sz_nat hti (show t < 6 by omega)
          refine lv_iload_n hx hb dX8_judge_36 rfl (lv_at hl 3 rfl) ?_
          refine lv_aload_n hx hb dX8_judge_37 rfl (lv_at hl 0 rfl) ?_
          refine g_geti X h (k := 0) (cc_116) fr_RX8_111 rfl (by decide) dX8_judge_38 ?_
          refine lv_icmp_ge (tgt := 111) hx hb dX8_judge_41 (by decide) (fun c_41 => ?_) (fun c_41 => ?_)
          · skip
            have hkn := nI_le1 (a := n) (b := k) hn hx3 (by omega) (by omega) c_41
            refine lv_bipush (v := (-5)) hx hb dX8_judge_111 (by decide) ?_
            exact g_iret X h dX8_judge_113 ⟨by rw [hjf, show n - k = 0 by omega]; rfl, rfl⟩
          · skip
            have hkn := nI_le0 (a := n) (b := k) hn hx3 (by omega) (by omega) c_41
            refine lv_aload_n hx hb dX8_judge_44 rfl (lv_at hl 0 rfl) ?_
            refine g_getr X h (k := 45) (t := 142) (cc_116) fr_RX8_88 rfl (by decide) (by decide) (by decide) dX8_judge_45 ?_
            refine lv_iload_n hx hb dX8_judge_48 rfl (lv_at hl 1 rfl) ?_
            refine g_iald X h (k := t) (cc_142) ht (by omega) (by decide) dX8_judge_49 ?_
            refine lv_iconst (v := (-1)) hx hb dX8_judge_50 (by decide) ?_
            refine lv_icmp_eq (tgt := 74) hx hb dX8_judge_51 (by decide) (fun c_51 => ?_) (fun c_51 => ?_)
            · skip
              refine lv_bipush (v := 100) hx hb dX8_judge_74 (by decide) ?_
              refine lv_iload_n hx hb dX8_judge_76 rfl (lv_at hl 3 rfl) ?_
              refine lv_iadd hx hb dX8_judge_77 ?_
              exact g_iret X h dX8_judge_78 ⟨by rw [hjf, show n - k = (n - (k + 1)) + 1 by omega, judF]; rw [if_pos (Or.inl c_51), hx3], rfl⟩
            · skip
              refine lv_iload_n hx hb dX8_judge_54 rfl (lv_at hl 2 rfl) ?_
              refine lv_if_lt (tgt := 74) hx hb dX8_judge_55 (by decide) (fun c_55 => ?_) (fun c_55 => ?_)
              · skip
                refine lv_bipush (v := 100) hx hb dX8_judge_74 (by decide) ?_
                refine lv_iload_n hx hb dX8_judge_76 rfl (lv_at hl 3 rfl) ?_
                refine lv_iadd hx hb dX8_judge_77 ?_
                exact g_iret X h dX8_judge_78 ⟨by rw [hjf, show n - k = (n - (k + 1)) + 1 by omega, judF]; rw [if_pos (Or.inr (Or.inl c_55)), hx3], rfl⟩
              · skip
                refine lv_iload_n hx hb dX8_judge_58 rfl (lv_at hl 2 rfl) ?_
                refine lv_i2l hx hb dX8_judge_59 rfl ?_
                refine lv_iload_n hx hb dX8_judge_60 rfl (lv_at hl 3 rfl) ?_
                refine lv_i2l hx hb dX8_judge_61 rfl ?_
                refine lv_ladd hx hb dX8_judge_62 ?_
                refine lv_aload_n hx hb dX8_judge_63 rfl (lv_at hl 0 rfl) ?_
                refine g_getr X h (k := 46) (t := 143) (cc_116) fr_RX8_91 rfl (by decide) (by decide) (by decide) dX8_judge_64 ?_
                refine lv_iload_n hx hb dX8_judge_67 rfl (lv_at hl 1 rfl) ?_
                refine g_iald X h (k := t) (cc_143) ht (by omega) (by decide) dX8_judge_68 ?_
                refine lv_i2l hx hb dX8_judge_69 rfl ?_
                refine W.lcmp hx hb dX8_judge_70 ?_
                refine lv_if_lt (tgt := 79) hx hb dX8_judge_71 (by decide) (fun c_71 => ?_) (fun c_71 => ?_)
                · skip
                  obtain ⟨ii, hii9, hii⟩ := nI_of c_55
                  have hiic : x1.toNatClampNeg = ii := by rw [hii]; exact nI_clamp hii9
                  have hiz : ii + k < z := by
                    have q := cmp_lt.mp c_71
                    rw [hii, hx3, hz, nI_l hii9, nI_l (by omega), nI_l (by omega), lN_add] at q
                    exact (pk_lLT (by omega) (by omega)).mp q
                  have hnin : ¬ (v 142 t = -1 ∨ x1 < 0 ∨ ¬ x1.toInt64 + (nI k).toInt64 < (v 143 t).toInt64) := by
                    have q := cmp_lt.mp c_71
                    rw [hx3] at q
                    simp [c_51, c_55, q]
                  refine lv_aload_n hx hb dX8_judge_79 rfl (lv_at hl 0 rfl) ?_
                  refine g_getr X h (k := 47) (t := 144) (cc_116) fr_RX8_94 rfl (by decide) (by decide) (by decide) dX8_judge_80 ?_
                  refine lv_bipush (v := 60) hx hb dX8_judge_83 (by decide) ?_
                  refine lv_iload_n hx hb dX8_judge_85 rfl (lv_at hl 1 rfl) ?_
                  refine lv_imul hx hb dX8_judge_86 ?_
                  refine lv_iload_n hx hb dX8_judge_87 rfl (lv_at hl 2 rfl) ?_
                  refine lv_iadd hx hb dX8_judge_88 ?_
                  refine lv_iload_n hx hb dX8_judge_89 rfl (lv_at hl 3 rfl) ?_
                  refine lv_iadd hx hb dX8_judge_90 ?_
                  refine g_lald X h (k := ((60 * t + ii) + k)) (cc_144) (by rw [hii, hx3, ht, show (60 : Int32) = nI 60 from rfl, pk_mul, nI_add, nI_add]) (by omega) (by decide) dX8_judge_91 ?_
                  refine lv_aload_n hx hb dX8_judge_92 rfl (lv_at hl 0 rfl) ?_
                  refine g_getr X h (k := 3) (t := 119) (cc_116) fr_RX8_18 rfl (by decide) (by decide) (by decide) dX8_judge_93 ?_
                  refine lv_iload_n hx hb dX8_judge_96 rfl (lv_at hl 3 rfl) ?_
                  refine g_iald X h (k := k) (cc_119) hx3 (by omega) (by decide) dX8_judge_97 ?_
                  refine lv_i2l hx hb dX8_judge_98 rfl ?_
                  refine W.lcmp hx hb dX8_judge_99 ?_
                  refine lv_if_eq (tgt := 105) hx hb dX8_judge_100 (by decide) (fun c_100 => ?_) (fun c_100 => ?_)
                  · skip
                    refine lv_iinc (v := (x3 + 1)) (lv' := [(3, .int (x3 + 1)), (0, .ref (zg Z 116)), (1, .int x0), (2, .int x1)]) hx hb dX8_judge_105 hl (k := 3) rfl rfl (by decide) rfl (fun ls hl => ?_)
                    refine lv_goto (tgt := 36) hx hb dX8_judge_108 (by decide) ?_
                    exact ih36 (k + 1) (x3 + 1) (by rw [hx3]; exact nI_1 _) (by omega) (by rw [hjf, show n - k = (n - (k + 1)) + 1 by omega, judF, if_neg hnin, hiic, if_pos (cmp_eq.mp c_100)]) (by omega) _ _ h ls (lv_sub hl [1, 2, 3, 0] rfl)
                  · skip
                    refine lv_iload_n hx hb dX8_judge_103 rfl (lv_at hl 3 rfl) ?_
                    exact g_iret X h dX8_judge_104 ⟨by rw [hjf, show n - k = (n - (k + 1)) + 1 by omega, judF]; rw [if_neg hnin, hiic, if_neg (fun q => c_100 (cmp_eq.mpr q)), hx3], rfl⟩
                · skip
                  refine lv_bipush (v := 100) hx hb dX8_judge_74 (by decide) ?_
                  refine lv_iload_n hx hb dX8_judge_76 rfl (lv_at hl 3 rfl) ?_
                  refine lv_iadd hx hb dX8_judge_77 ?_
                  exact g_iret X h dX8_judge_78 ⟨by rw [hjf, show n - k = (n - (k + 1)) + 1 by omega, judF]; rw [if_pos (Or.inr (Or.inr (fun q => c_71 (cmp_lt.mpr (by rw [hx3]; exact q))))), hx3], rfl⟩
      exact L36 (n - 0 + 1) 0 0 rfl (Nat.zero_le _) (by rw [sJudge, if_pos c_6, htc, if_pos (by first | exact Or.inl c_18 | exact Or.inr c_28)]; rfl) (Nat.lt_succ_self _) _ _ h ls (lv_sub hl [1, 2, 3, 0] rfl)
    · skip
      refine lv_aload_n hx hb dX8_judge_21 rfl (lv_at hl 0 rfl) ?_
      refine g_getr X h (k := 45) (t := 142) (cc_116) fr_RX8_88 rfl (by decide) (by decide) (by decide) dX8_judge_22 ?_
      refine lv_iload_n hx hb dX8_judge_25 rfl (lv_at hl 1 rfl) ?_
      refine g_iald X h (k := t) (cc_142) ht (by omega) (by decide) dX8_judge_26 ?_
      refine lv_iconst (v := 1) hx hb dX8_judge_27 (by decide) ?_
      refine lv_icmp_eq (tgt := 34) hx hb dX8_judge_28 (by decide) (fun c_28 => ?_) (fun c_28 => ?_)
      · skip
        refine lv_iconst (v := 0) hx hb dX8_judge_34 (by decide) ?_
        refine lv_istore_n (lv' := [(3, .int 0), (0, .ref (zg Z 116)), (1, .int x0), (2, .int x1)]) hx hb dX8_judge_35 rfl hl (by decide) rfl (fun ls hl => ?_)
        have L36 : ∀ (n36 : Nat) (k : Nat) (x3 : Int32), (x3 = nI k) → (k ≤ n) → (sJudge n (v 119) (v 142) (v 143) (w 144) x0 x1 = judF (v 119) (v 142 t) (v 143 t) (w 144) t x1 (n - k) k) → n - k < n36 → ∀ (H : Heap) (locs : List Loc), HS Z gs v w H locs → ∀ ls : Array Slot, lv_has ls 4 [(0, .ref (zg Z 116)), (1, .int x0), (2, .int x1), (3, .int x3)] → W gp gl ge (rmm 1 22) gs gm ga gb gh gc H locs 0 0 (MQ gb (Qi Z (fun r u => r = sJudge n (v 119) (v 142) (v 143) (w 144) x0 x1 ∧ (v, w) = u)) ga gs 0 0 (zA Z)) (F0 gm 36 ls []) := by
          intro n36
          induction n36 with
          | zero => intro k x3 hx3 hk hjf hmu; exact absurd hmu (Nat.not_lt_zero _)
          | succ n36 ih36 =>
            intro k x3 hx3 hk hjf hmu36 H locs h ls hl
            obtain ⟨z, hz60, hz⟩ := sz_nat hti (show t < 6 by omega)
            refine lv_iload_n hx hb dX8_judge_36 rfl (lv_at hl 3 rfl) ?_
            refine lv_aload_n hx hb dX8_judge_37 rfl (lv_at hl 0 rfl) ?_
            refine g_geti X h (k := 0) (cc_116) fr_RX8_111 rfl (by decide) dX8_judge_38 ?_
            refine lv_icmp_ge (tgt := 111) hx hb dX8_judge_41 (by decide) (fun c_41 => ?_) (fun c_41 => ?_)
            · skip
              have hkn := nI_le1 (a := n) (b := k) hn hx3 (by omega) (by omega) c_41
              refine lv_bipush (v := (-5)) hx hb dX8_judge_111 (by decide) ?_
              exact g_iret X h dX8_judge_113 ⟨by rw [hjf, show n - k = 0 by omega]; rfl, rfl⟩
            · skip
              have hkn := nI_le0 (a := n) (b := k) hn hx3 (by omega) (by omega) c_41
              refine lv_aload_n hx hb dX8_judge_44 rfl (lv_at hl 0 rfl) ?_
              refine g_getr X h (k := 45) (t := 142) (cc_116) fr_RX8_88 rfl (by decide) (by decide) (by decide) dX8_judge_45 ?_
              refine lv_iload_n hx hb dX8_judge_48 rfl (lv_at hl 1 rfl) ?_
              refine g_iald X h (k := t) (cc_142) ht (by omega) (by decide) dX8_judge_49 ?_
              refine lv_iconst (v := (-1)) hx hb dX8_judge_50 (by decide) ?_
              refine lv_icmp_eq (tgt := 74) hx hb dX8_judge_51 (by decide) (fun c_51 => ?_) (fun c_51 => ?_)
              · skip
                refine lv_bipush (v := 100) hx hb dX8_judge_74 (by decide) ?_
                refine lv_iload_n hx hb dX8_judge_76 rfl (lv_at hl 3 rfl) ?_
                refine lv_iadd hx hb dX8_judge_77 ?_
                exact g_iret X h dX8_judge_78 ⟨by rw [hjf, show n - k = (n - (k + 1)) + 1 by omega, judF]; rw [if_pos (Or.inl c_51), hx3], rfl⟩
              · skip
                refine lv_iload_n hx hb dX8_judge_54 rfl (lv_at hl 2 rfl) ?_
                refine lv_if_lt (tgt := 74) hx hb dX8_judge_55 (by decide) (fun c_55 => ?_) (fun c_55 => ?_)
                · skip
                  refine lv_bipush (v := 100) hx hb dX8_judge_74 (by decide) ?_
                  refine lv_iload_n hx hb dX8_judge_76 rfl (lv_at hl 3 rfl) ?_
                  refine lv_iadd hx hb dX8_judge_77 ?_
                  exact g_iret X h dX8_judge_78 ⟨by rw [hjf, show n - k = (n - (k + 1)) + 1 by omega, judF]; rw [if_pos (Or.inr (Or.inl c_55)), hx3], rfl⟩
                · skip
                  refine lv_iload_n hx hb dX8_judge_58 rfl (lv_at hl 2 rfl) ?_
                  refine lv_i2l hx hb dX8_judge_59 rfl ?_
                  refine lv_iload_n hx hb dX8_judge_60 rfl (lv_at hl 3 rfl) ?_
                  refine lv_i2l hx hb dX8_judge_61 rfl ?_
                  refine lv_ladd hx hb dX8_judge_62 ?_
                  refine lv_aload_n hx hb dX8_judge_63 rfl (lv_at hl 0 rfl) ?_
                  refine g_getr X h (k := 46) (t := 143) (cc_116) fr_RX8_91 rfl (by decide) (by decide) (by decide) dX8_judge_64 ?_
                  refine lv_iload_n hx hb dX8_judge_67 rfl (lv_at hl 1 rfl) ?_
                  refine g_iald X h (k := t) (cc_143) ht (by omega) (by decide) dX8_judge_68 ?_
                  refine lv_i2l hx hb dX8_judge_69 rfl ?_
                  refine W.lcmp hx hb dX8_judge_70 ?_
                  refine lv_if_lt (tgt := 79) hx hb dX8_judge_71 (by decide) (fun c_71 => ?_) (fun c_71 => ?_)
                  · skip
                    obtain ⟨ii, hii9, hii⟩ := nI_of c_55
                    have hiic : x1.toNatClampNeg = ii := by rw [hii]; exact nI_clamp hii9
                    have hiz : ii + k < z := by
                      have q := cmp_lt.mp c_71
                      rw [hii, hx3, hz, nI_l hii9, nI_l (by omega), nI_l (by omega), lN_add] at q
                      exact (pk_lLT (by omega) (by omega)).mp q
                    have hnin : ¬ (v 142 t = -1 ∨ x1 < 0 ∨ ¬ x1.toInt64 + (nI k).toInt64 < (v 143 t).toInt64) := by
                      have q := cmp_lt.mp c_71
                      rw [hx3] at q
                      simp [c_51, c_55, q]
                    refine lv_aload_n hx hb dX8_judge_79 rfl (lv_at hl 0 rfl) ?_
                    refine g_getr X h (k := 47) (t := 144) (cc_116) fr_RX8_94 rfl (by decide) (by decide) (by decide) dX8_judge_80 ?_
                    refine lv_bipush (v := 60) hx hb dX8_judge_83 (by decide) ?_
                    refine lv_iload_n hx hb dX8_judge_85 rfl (lv_at hl 1 rfl) ?_
                    refine lv_imul hx hb dX8_judge_86 ?_
                    refine lv_iload_n hx hb dX8_judge_87 rfl (lv_at hl 2 rfl) ?_
                    refine lv_iadd hx hb dX8_judge_88 ?_
                    refine lv_iload_n hx hb dX8_judge_89 rfl (lv_at hl 3 rfl) ?_
                    refine lv_iadd hx hb dX8_judge_90 ?_
                    refine g_lald X h (k := ((60 * t + ii) + k)) (cc_144) (by rw [hii, hx3, ht, show (60 : Int32) = nI 60 from rfl, pk_mul, nI_add, nI_add]) (by omega) (by decide) dX8_judge_91 ?_
                    refine lv_aload_n hx hb dX8_judge_92 rfl (lv_at hl 0 rfl) ?_
                    refine g_getr X h (k := 3) (t := 119) (cc_116) fr_RX8_18 rfl (by decide) (by decide) (by decide) dX8_judge_93 ?_
                    refine lv_iload_n hx hb dX8_judge_96 rfl (lv_at hl 3 rfl) ?_
                    refine g_iald X h (k := k) (cc_119) hx3 (by omega) (by decide) dX8_judge_97 ?_
                    refine lv_i2l hx hb dX8_judge_98 rfl ?_
                    refine W.lcmp hx hb dX8_judge_99 ?_
                    refine lv_if_eq (tgt := 105) hx hb dX8_judge_100 (by decide) (fun c_100 => ?_) (fun c_100 => ?_)
                    · skip
                      refine lv_iinc (v := (x3 + 1)) (lv' := [(3, .int (x3 + 1)), (0, .ref (zg Z 116)), (1, .int x0), (2, .int x1)]) hx hb dX8_judge_105 hl (k := 3) rfl rfl (by decide) rfl (fun ls hl => ?_)
                      refine lv_goto (tgt := 36) hx hb dX8_judge_108 (by decide) ?_
                      exact ih36 (k + 1) (x3 + 1) (by rw [hx3]; exact nI_1 _) (by omega) (by rw [hjf, show n - k = (n - (k + 1)) + 1 by omega, judF, if_neg hnin, hiic, if_pos (cmp_eq.mp c_100)]) (by omega) _ _ h ls (lv_sub hl [1, 2, 3, 0] rfl)
                    · skip
                      refine lv_iload_n hx hb dX8_judge_103 rfl (lv_at hl 3 rfl) ?_
                      exact g_iret X h dX8_judge_104 ⟨by rw [hjf, show n - k = (n - (k + 1)) + 1 by omega, judF]; rw [if_neg hnin, hiic, if_neg (fun q => c_100 (cmp_eq.mpr q)), hx3], rfl⟩
                  · skip
                    refine lv_bipush (v := 100) hx hb dX8_judge_74 (by decide) ?_
                    refine lv_iload_n hx hb dX8_judge_76 rfl (lv_at hl 3 rfl) ?_
                    refine lv_iadd hx hb dX8_judge_77 ?_
                    exact g_iret X h dX8_judge_78 ⟨by rw [hjf, show n - k = (n - (k + 1)) + 1 by omega, judF]; rw [if_pos (Or.inr (Or.inr (fun q => c_71 (cmp_lt.mpr (by rw [hx3]; exact q))))), hx3], rfl⟩
        exact L36 (n - 0 + 1) 0 0 rfl (Nat.zero_le _) (by rw [sJudge, if_pos c_6, htc, if_pos (by first | exact Or.inl c_18 | exact Or.inr c_28)]; rfl) (Nat.lt_succ_self _) _ _ h ls (lv_sub hl [1, 2, 3, 0] rfl)
      · skip
        refine lv_bipush (v := (-12)) hx hb dX8_judge_31 (by decide) ?_
        exact g_iret X h dX8_judge_33 ⟨by rw [sJudge, if_pos c_6, htc, if_neg (fun q => q.elim c_18 c_28)], rfl⟩
  · skip
    rw [hr3, bI_0] at c_6
    refine lv_iconst (v := (-1)) hx hb dX8_judge_9 (by decide) ?_
    exact g_iret X h dX8_judge_10 ⟨by simp [sJudge, c_6], rfl⟩

set_option maxRecDepth 100000 in
set_option maxHeartbeats 1000000 in
theorem c_X8_gone (gl : Launch) (Z : PL) (v : VV) (w : WV) (x0 : Int32) (n : Nat) (B : Nat) (L : LND) (hd : DM v n B L) (z : Nat) (hz : v 116 31 = nI z) (hzm : z ≤ 10) (hB20 : B + 20 < 1000000) (hwh : ∀ i, i < z → v 134 i = 1 → ∃ p, p < n ∧ v 135 i = nI p) : CT gl yX8_gone cX8_gone 3 (some .int) 8 182 Z [.ref (zg Z 116), .int x0] v w (Qi Z (fun r u => r = sGone (xM v n L) L n (v 134) (v 135) z x0 ∧ (u.1, w) = u ∧ scM v u.1)) := by
  refine g_met (by decide) (Nat.le_of_ble_eq_true rfl) ?_
  intro gp ge gs gm ga gb gh gc X h ls hl
  have hx := X.1
  have hb := X.2.1
  have hl : lv_has ls 3 [(0, .ref (zg Z 116)), (1, .int x0)] := hl
  obtain ⟨hn, h6, hwf, hcur, hrx, hB⟩ := id hd
  refine lv_iload_n hx hb dX8_gone_0 rfl (lv_at hl 1 rfl) ?_
  refine lv_iconst (v := 0) hx hb dX8_gone_1 (by decide) ?_
  refine lv_iconst (v := 1) hx hb dX8_gone_2 (by decide) ?_
  refine g_ki h (g_runS X h (As := [.int x0, .int 0, .int 1]) (rest := []) (c_X8_within gl Z v w x0 0 1) ms_X8_within ml_RX8_114 ⟨Nat.le_of_ble_eq_true rfl, Nat.le_of_ble_eq_true rfl⟩ rfl hl.1 rfl (Nat.le_of_ble_eq_true rfl) dX8_gone_3) (fun r3 v3 w3 H locs hp3 h => ?_)
  obtain ⟨hr3, hu3⟩ := hp3; obtain ⟨rfl, rfl⟩ := Prod.mk.inj hu3
  refine lv_if_ne (tgt := 11) hx hb dX8_gone_6 (by decide) (fun c_6 => ?_) (fun c_6 => ?_)
  · skip
    rw [hr3, bI_n] at c_6
    refine lv_aload_n hx hb dX8_gone_11 rfl (lv_at hl 0 rfl) ?_
    refine lv_aload_n hx hb dX8_gone_12 rfl (lv_at hl 0 rfl) ?_
    refine g_getr X h (k := 39) (t := 138) (cc_116) fr_RX8_76 rfl (by decide) (by decide) (by decide) dX8_gone_13 ?_
    refine g_kv h (g_runV X h (As := [.ref (zg Z 138)]) (rest := []) (c_X8_keep gl Z v w 138 (Or.inl rfl)) mi_X8_keep ml_RX8_276 (cc_116) (by decide) kl8 rfl ⟨Nat.le_of_ble_eq_true rfl, Nat.le_of_ble_eq_true rfl⟩ rfl hl.1 rfl (Nat.le_of_ble_eq_true rfl) dX8_gone_16) (fun v16 w16 H locs hp16 h => ?_)
    obtain ⟨ev16, rfl⟩ := Prod.mk.inj hp16
    replace ev16 := ev16.symm
    have hs16 := scM_kp ev16
    refine lv_iconst (v := 0) hx hb dX8_gone_19 (by decide) ?_
    refine lv_istore_n (lv' := [(2, .int 0), (0, .ref (zg Z 116)), (1, .int x0)]) hx hb dX8_gone_20 rfl hl (by decide) rfl (fun ls hl => ?_)
    have L21 : ∀ (n21 : Nat) (i : Nat) (x2 : Int32) (va : VV), (x2 = nI i) → (i ≤ z) → (xM va n L = winS (xM v n L) L n (v 134) (v 135) i) → (frG v16 va) → z - i < n21 → ∀ (H : Heap) (locs : List Loc), HS Z gs va w H locs → ∀ ls : Array Slot, lv_has ls 3 [(0, .ref (zg Z 116)), (1, .int x0), (2, .int x2)] → W gp gl ge (rmm 8 182) gs gm ga gb gh gc H locs 0 0 (MQ gb (Qi Z (fun r u => r = sGone (xM v n L) L n (v 134) (v 135) z x0 ∧ (u.1, w) = u ∧ scM v u.1)) ga gs 0 0 (zA Z)) (F0 gm 21 ls []) := by
      intro n21
      induction n21 with
      | zero => intro i x2 va hx2 hi hxa hfa hmu; exact absurd hmu (Nat.not_lt_zero _)
      | succ n21 ih21 =>
        intro i x2 va hx2 hi hxa hfa hmu21 H locs h ls hl
        have h134 : va 134 = v 134 := by rw [hfa.1 134 (by decide) (by decide) (by decide) (by decide) (by decide), hs16 134 (by decide) (by decide)]
        have h135 : va 135 = v 135 := by rw [hfa.1 135 (by decide) (by decide) (by decide) (by decide) (by decide), hs16 135 (by decide) (by decide)]
        have h31 : va 116 31 = v 116 31 := by rw [hfa.2.1 31 (by decide) (by decide) (by decide), hs16 116 (by decide) (by decide)]
        refine lv_iload_n hx hb dX8_gone_21 rfl (lv_at hl 2 rfl) ?_
        refine lv_aload_n hx hb dX8_gone_22 rfl (lv_at hl 0 rfl) ?_
        refine g_geti X h (k := 31) (cc_116) fr_RX8_308 rfl (by decide) dX8_gone_23 ?_
        refine lv_icmp_ge (tgt := 109) hx hb dX8_gone_26 (by decide) (fun c_26 => ?_) (fun c_26 => ?_)
        · skip
          have hil := nI_le1 (a := z) (b := i) (h31.trans hz) hx2 (by omega) (by omega) c_26
          refine lv_iload_n hx hb dX8_gone_109 rfl (lv_at hl 1 rfl) ?_
          refine lv_if_ne (tgt := 120) hx hb dX8_gone_110 (by decide) (fun c_110 => ?_) (fun c_110 => ?_)
          · skip
            refine lv_aload_n hx hb dX8_gone_120 rfl (lv_at hl 0 rfl) ?_
            refine g_geti X h (k := 8) (cc_116) fr_RX8_136 rfl (by decide) dX8_gone_121 ?_
            refine lv_topi (fun x2_124 ex2_124 => ?_)
            refine lv_istore_n (lv' := [(2, .int x2_124), (0, .ref (zg Z 116)), (1, .int x0)]) hx hb dX8_gone_124 rfl hl (by decide) rfl (fun ls hl => ?_)
            refine lv_aload_n hx hb dX8_gone_125 rfl (lv_at hl 1 rfl) ?_
            refine lv_aload_n hx hb dX8_gone_126 rfl (lv_at hl 1 rfl) ?_
            refine g_getr X h (k := 39) (t := 138) (cc_116) fr_RX8_76 rfl (by decide) (by decide) (by decide) dX8_gone_127 ?_
            refine g_kv h (g_runV X h (As := [.ref (zg Z 138)]) (rest := []) (c_X8_again gl Z va w 138 (Or.inl rfl)) mi_X8_again ml_RX8_280 (cc_116) (by decide) kl8 rfl ⟨Nat.le_of_ble_eq_true rfl, Nat.le_of_ble_eq_true rfl⟩ rfl hl.1 rfl (Nat.le_of_ble_eq_true rfl) dX8_gone_130) (fun v130 w130 H locs hp130 h => ?_)
            obtain ⟨ev130, rfl⟩ := Prod.mk.inj hp130
            replace ev130 := ev130.symm
            refine lv_iload_n hx hb dX8_gone_133 rfl (lv_at hl 0 rfl) ?_
            exact g_iret X h dX8_gone_134 (by have e : i = z := (by omega); subst e; exact ⟨by rw [sGone, if_pos c_6, if_neg c_110, ← hxa, ex2_124]; rfl, rfl, by show scM v v130; rw [ev130]; exact again_allG ev16 hfa⟩)
          · skip
            refine lv_aload_n hx hb dX8_gone_113 rfl (lv_at hl 0 rfl) ?_
            refine g_geti X h (k := 7) (cc_116) fr_RX8_98 rfl (by decide) dX8_gone_114 ?_
            refine lv_goto (tgt := 124) hx hb dX8_gone_117 (by decide) ?_
            refine lv_topi (fun x2_124 ex2_124 => ?_)
            refine lv_istore_n (lv' := [(2, .int x2_124), (0, .ref (zg Z 116)), (1, .int x0)]) hx hb dX8_gone_124 rfl hl (by decide) rfl (fun ls hl => ?_)
            refine lv_aload_n hx hb dX8_gone_125 rfl (lv_at hl 1 rfl) ?_
            refine lv_aload_n hx hb dX8_gone_126 rfl (lv_at hl 1 rfl) ?_
            refine g_getr X h (k := 39) (t := 138) (cc_116) fr_RX8_76 rfl (by decide) (by decide) (by decide) dX8_gone_127 ?_
            refine g_kv h (g_runV X h (As := [.ref (zg Z 138)]) (rest := []) (c_X8_again gl Z va w 138 (Or.inl rfl)) mi_X8_again ml_RX8_280 (cc_116) (by decide) kl8 rfl ⟨Nat.le_of_ble_eq_true rfl, Nat.le_of_ble_eq_true rfl⟩ rfl hl.1 rfl (Nat.le_of_ble_eq_true rfl) dX8_gone_130) (fun v130 w130 H locs hp130 h => ?_)
            obtain ⟨ev130, rfl⟩ := Prod.mk.inj hp130
            replace ev130 := ev130.symm
            refine lv_iload_n hx hb dX8_gone_133 rfl (lv_at hl 0 rfl) ?_
            exact g_iret X h dX8_gone_134 (by have e : i = z := (by omega); subst e; exact ⟨by rw [sGone, if_pos c_6, if_pos c_110, ← hxa, ex2_124]; rfl, rfl, by show scM v v130; rw [ev130]; exact again_allG ev16 hfa⟩)
        · skip
          have hil := nI_le0 (a := z) (b := i) (h31.trans hz) hx2 (by omega) (by omega) c_26
          refine lv_aload_n hx hb dX8_gone_29 rfl (lv_at hl 0 rfl) ?_
          refine g_getr X h (k := 32) (t := 134) (cc_116) fr_RX8_64 rfl (by decide) (by decide) (by decide) dX8_gone_30 ?_
          refine lv_iload_n hx hb dX8_gone_33 rfl (lv_at hl 2 rfl) ?_
          refine g_iald X h (k := i) (cc_134) hx2 (by omega) (by decide) dX8_gone_34 ?_
          refine g_tr (y := (v 134 i)) (by simp [h134, h135, up2, upc]) ?_
          refine lv_if_ne (tgt := 45) hx hb dX8_gone_35 (by decide) (fun c_35 => ?_) (fun c_35 => ?_)
          · skip
            refine lv_aload_n hx hb dX8_gone_45 rfl (lv_at hl 0 rfl) ?_
            refine g_getr X h (k := 32) (t := 134) (cc_116) fr_RX8_64 rfl (by decide) (by decide) (by decide) dX8_gone_46 ?_
            refine lv_iload_n hx hb dX8_gone_49 rfl (lv_at hl 2 rfl) ?_
            refine g_iald X h (k := i) (cc_134) hx2 (by omega) (by decide) dX8_gone_50 ?_
            refine g_tr (y := (v 134 i)) (by simp [h134, h135, up2, upc]) ?_
            refine lv_iconst (v := 1) hx hb dX8_gone_51 (by decide) ?_
            refine lv_icmp_ne (tgt := 70) hx hb dX8_gone_52 (by decide) (fun c_52 => ?_) (fun c_52 => ?_)
            · skip
              refine lv_aload_n hx hb dX8_gone_70 rfl (lv_at hl 0 rfl) ?_
              refine g_getr X h (k := 32) (t := 134) (cc_116) fr_RX8_64 rfl (by decide) (by decide) (by decide) dX8_gone_71 ?_
              refine lv_iload_n hx hb dX8_gone_74 rfl (lv_at hl 2 rfl) ?_
              refine g_iald X h (k := i) (cc_134) hx2 (by omega) (by decide) dX8_gone_75 ?_
              refine g_tr (y := (v 134 i)) (by simp [h134, h135, up2, upc]) ?_
              refine lv_iconst (v := 2) hx hb dX8_gone_76 (by decide) ?_
              refine lv_icmp_ne (tgt := 98) hx hb dX8_gone_77 (by decide) (fun c_77 => ?_) (fun c_77 => ?_)
              · skip
                refine lv_aload_n hx hb dX8_gone_98 rfl (lv_at hl 0 rfl) ?_
                refine lv_iconst (v := 0) hx hb dX8_gone_99 (by decide) ?_
                refine g_puti X h (k := 8) (cc_116) fp_RX8_136 rfl (by decide) dX8_gone_100 (fun v100 H locs ev100 h => ?_)
                refine lv_iinc (v := (x2 + 1)) (lv' := [(2, .int (x2 + 1)), (0, .ref (zg Z 116)), (1, .int x0)]) hx hb dX8_gone_103 hl (k := 2) rfl rfl (by decide) rfl (fun ls hl => ?_)
                refine lv_goto (tgt := 21) hx hb dX8_gone_106 (by decide) ?_
                exact ih21 (i + 1) (x2 + 1) v100 (by rw [hx2]; exact nI_1 _) (by omega) (by show _ = winS _ _ _ _ _ (i + 1); rw [winS, if_neg c_35, if_neg c_52, if_neg c_77]; rw [ev100, xM_up_sm, hxa]) (frG_num hfa (Or.inr rfl) ev100) (by omega) _ _ h ls (lv_sub hl [1, 2, 0] rfl)
              · skip
                refine lv_aload_n hx hb dX8_gone_80 rfl (lv_at hl 0 rfl) ?_
                refine lv_iconst (v := 0) hx hb dX8_gone_81 (by decide) ?_
                refine lv_aload_n hx hb dX8_gone_82 rfl (lv_at hl 0 rfl) ?_
                refine g_geti X h (k := 7) (cc_116) fr_RX8_98 rfl (by decide) dX8_gone_83 ?_
                refine lv_bipush (v := 10) hx hb dX8_gone_86 (by decide) ?_
                refine lv_isub hx hb dX8_gone_88 ?_
                refine g_max X hl.1 ml_RX8_254 ⟨Nat.le_of_ble_eq_true rfl, Nat.le_of_ble_eq_true rfl⟩ (Nat.le_of_ble_eq_true rfl) dX8_gone_89 ?_
                refine g_puti X h (k := 7) (cc_116) fp_RX8_98 rfl (by decide) dX8_gone_92 (fun v92 H locs ev92 h => ?_)
                refine lv_goto (tgt := 103) hx hb dX8_gone_95 (by decide) ?_
                refine lv_iinc (v := (x2 + 1)) (lv' := [(2, .int (x2 + 1)), (0, .ref (zg Z 116)), (1, .int x0)]) hx hb dX8_gone_103 hl (k := 2) rfl rfl (by decide) rfl (fun ls hl => ?_)
                refine lv_goto (tgt := 21) hx hb dX8_gone_106 (by decide) ?_
                exact ih21 (i + 1) (x2 + 1) v92 (by rw [hx2]; exact nI_1 _) (by omega) (by show _ = winS _ _ _ _ _ (i + 1); rw [winS, if_neg c_35, if_neg c_52, if_pos c_77]; rw [ev92, xM_up_he, hxa, ← hxa]; rfl) (frG_num hfa (Or.inl rfl) ev92) (by omega) _ _ h ls (lv_sub hl [1, 2, 0] rfl)
            · skip
              obtain ⟨pw, hpw, hww⟩ := hwh i hil c_52
              refine lv_aload_n hx hb dX8_gone_55 rfl (lv_at hl 0 rfl) ?_
              refine g_getr X h (k := 5) (t := 121) (cc_116) fr_RX8_24 rfl (by decide) (by decide) (by decide) dX8_gone_56 ?_
              refine lv_aload_n hx hb dX8_gone_59 rfl (lv_at hl 0 rfl) ?_
              refine g_getr X h (k := 33) (t := 135) (cc_116) fr_RX8_67 rfl (by decide) (by decide) (by decide) dX8_gone_60 ?_
              refine lv_iload_n hx hb dX8_gone_63 rfl (lv_at hl 2 rfl) ?_
              refine g_iald X h (k := i) (cc_135) hx2 (by omega) (by decide) dX8_gone_64 ?_
              refine g_tr (y := (v 135 i)) (by simp [h134, h135, up2, upc]) ?_
              refine lv_iconst (v := 1) hx hb dX8_gone_65 (by decide) ?_
              refine g_iast X h (k := pw) (cc_121) hww (by omega) (by decide) dX8_gone_66 (fun v66 H locs ev66 h => ?_)
              refine lv_goto (tgt := 103) hx hb dX8_gone_67 (by decide) ?_
              refine lv_iinc (v := (x2 + 1)) (lv' := [(2, .int (x2 + 1)), (0, .ref (zg Z 116)), (1, .int x0)]) hx hb dX8_gone_103 hl (k := 2) rfl rfl (by decide) rfl (fun ls hl => ?_)
              refine lv_goto (tgt := 21) hx hb dX8_gone_106 (by decide) ?_
              exact ih21 (i + 1) (x2 + 1) v66 (by rw [hx2]; exact nI_1 _) (by omega) (by show _ = winS _ _ _ _ _ (i + 1); rw [winS, if_neg c_35, if_pos c_52]; rw [ev66, xM_up_dead (by omega), hxa, hww, nI_clamp (by omega)]) (frG_dead hfa (by omega) ev66) (by omega) _ _ h ls (lv_sub hl [1, 2, 0] rfl)
          · skip
            refine lv_aload_n hx hb dX8_gone_38 rfl (lv_at hl 0 rfl) ?_
            refine g_kv h (g_runV X h (As := []) (rest := []) (c_X8_goesDay gl Z va w n (B + i) L (DM_frG (hs16.DM hd) hfa (by rw [hxa]; exact RX_win h6 hrx i (by omega)) (by omega))) mi_X8_goesDay ml_RX8_266 (cc_116) (by decide) kl8 rfl ⟨Nat.le_of_ble_eq_true rfl, Nat.le_of_ble_eq_true rfl⟩ rfl hl.1 rfl (Nat.le_of_ble_eq_true rfl) dX8_gone_39) (fun v39 w39 H locs hp39 h => ?_)
            obtain ⟨hx39, hw39, hf39⟩ := hp39
            obtain ⟨-, rfl⟩ := Prod.mk.inj hw39
            replace hx39 : xM v39 n L = _ := hx39
            replace hf39 : frM _ v39 := hf39
            refine lv_goto (tgt := 103) hx hb dX8_gone_42 (by decide) ?_
            refine lv_iinc (v := (x2 + 1)) (lv' := [(2, .int (x2 + 1)), (0, .ref (zg Z 116)), (1, .int x0)]) hx hb dX8_gone_103 hl (k := 2) rfl rfl (by decide) rfl (fun ls hl => ?_)
            refine lv_goto (tgt := 21) hx hb dX8_gone_106 (by decide) ?_
            exact ih21 (i + 1) (x2 + 1) v39 (by rw [hx2]; exact nI_1 _) (by omega) (by show _ = winS _ _ _ _ _ (i + 1); rw [winS, if_pos c_35]; rw [hx39, hxa]) (frG_M hfa hf39) (by omega) _ _ h ls (lv_sub hl [1, 2, 0] rfl)
    exact L21 (z - 0 + 1) 0 0 v16 rfl (Nat.zero_le _) (by rw [hs16.xM]; rfl) (frG_refl v16) (Nat.lt_succ_self _) _ _ h ls (lv_sub hl [1, 2, 0] rfl)
  · skip
    rw [hr3, bI_0] at c_6
    refine lv_iconst (v := (-1)) hx hb dX8_gone_9 (by decide) ?_
    exact g_iret X h dX8_gone_10 ⟨by simp [sGone, c_6], rfl, scM_refl v⟩

set_option maxRecDepth 100000 in
set_option maxHeartbeats 1000000 in
theorem c_X8_image (gl : Launch) (Z : PL) (v : VV) (w : WV) (n : Nat) (hn : v 116 0 = nI n) (h6 : n ≤ 6) : CT gl yX8_image cX8_image 2 (some .int) 1 22 Z [.ref (zg Z 116)] v w (Qi Z (fun r u => r = nI n ∧ (upc (upc (up2 v 116 40 1) 139 (keepS v (v 139))) 140 (otS v (v 140)), w) = u)) := by
  refine g_met (by decide) (Nat.le_of_ble_eq_true rfl) ?_
  intro gp ge gs gm ga gb gh gc X h ls hl
  have hx := X.1
  have hb := X.2.1
  have hl : lv_has ls 2 [(0, .ref (zg Z 116))] := hl
  refine lv_aload_n hx hb dX8_image_0 rfl (lv_at hl 0 rfl) ?_
  refine lv_iconst (v := 1) hx hb dX8_image_1 (by decide) ?_
  refine g_putz X h (k := 40) (cc_116) fp_RX8_314 rfl (by decide) rfl rfl dX8_image_2 (fun v2 H locs ev2 h => ?_)
  refine lv_aload_n hx hb dX8_image_5 rfl (lv_at hl 0 rfl) ?_
  refine lv_aload_n hx hb dX8_image_6 rfl (lv_at hl 0 rfl) ?_
  refine g_getr X h (k := 41) (t := 139) (cc_116) fr_RX8_79 rfl (by decide) (by decide) (by decide) dX8_image_7 ?_
  refine g_kv h (g_runV X h (As := [.ref (zg Z 139)]) (rest := []) (c_X8_keep gl Z v2 w 139 (Or.inr rfl)) mi_X8_keep ml_RX8_276 (cc_116) (by decide) kl8 rfl ⟨Nat.le_of_ble_eq_true rfl, Nat.le_of_ble_eq_true rfl⟩ rfl hl.1 rfl (Nat.le_of_ble_eq_true rfl) dX8_image_10) (fun v10 w10 H locs hp10 h => ?_)
  obtain ⟨ev10, rfl⟩ := Prod.mk.inj hp10
  replace ev10 := ev10.symm
  have hv10 : v10 = (upc (up2 v 116 40 1) 139 (keepS v (v 139))) := by rw [ev10, ev2, keepS_40, up2_ne (by decide)]
  refine lv_iconst (v := 0) hx hb dX8_image_13 (by decide) ?_
  refine lv_istore_n (lv' := [(1, .int 0), (0, .ref (zg Z 116))]) hx hb dX8_image_14 rfl hl (by decide) rfl (fun ls hl => ?_)
  have L15 : ∀ (n15 : Nat) (i : Nat) (x1 : Int32) (va : VV), (x1 = nI i) → (i ≤ 5) → (va = upc (upc (up2 v 116 40 1) 139 (keepS v (v 139))) 140 (ot1 v (v 140) i 0 0)) → 5 - i < n15 → ∀ (H : Heap) (locs : List Loc), HS Z gs va w H locs → ∀ ls : Array Slot, lv_has ls 2 [(0, .ref (zg Z 116)), (1, .int x1)] → W gp gl ge (rmm 1 22) gs gm ga gb gh gc H locs 0 0 (MQ gb (Qi Z (fun r u => r = nI n ∧ (upc (upc (up2 v 116 40 1) 139 (keepS v (v 139))) 140 (otS v (v 140)), w) = u)) ga gs 0 0 (zA Z)) (F0 gm 15 ls []) := by
    intro n15
    induction n15 with
    | zero => intro i x1 va hx1 hi hva hmu; exact absurd hmu (Nat.not_lt_zero _)
    | succ n15 ih15 =>
      intro i x1 va hx1 hi hva hmu15 H locs h ls hl
      refine lv_iload_n hx hb dX8_image_15 rfl (lv_at hl 1 rfl) ?_
      refine lv_iconst (v := 5) hx hb dX8_image_16 (by decide) ?_
      refine lv_icmp_ge (tgt := 52) hx hb dX8_image_17 (by decide) (fun c_17 => ?_) (fun c_17 => ?_)
      · skip
        have hil := nI_le1 (a := 5) (b := i) rfl hx1 (by omega) (by omega) c_17
        refine lv_iconst (v := 0) hx hb dX8_image_52 (by decide) ?_
        refine lv_istore_n (lv' := [(1, .int 0), (0, .ref (zg Z 116))]) hx hb dX8_image_53 rfl hl (by decide) rfl (fun ls hl => ?_)
        have L54 : ∀ (n54 : Nat) (i : Nat) (x1 : Int32) (vb : VV), (x1 = nI i) → (i ≤ 10) → (vb = upc (upc (up2 v 116 40 1) 139 (keepS v (v 139))) 140 (ot1 v (v 140) 5 i 0)) → 10 - i < n54 → ∀ (H : Heap) (locs : List Loc), HS Z gs vb w H locs → ∀ ls : Array Slot, lv_has ls 2 [(0, .ref (zg Z 116)), (1, .int x1)] → W gp gl ge (rmm 1 22) gs gm ga gb gh gc H locs 0 0 (MQ gb (Qi Z (fun r u => r = nI n ∧ (upc (upc (up2 v 116 40 1) 139 (keepS v (v 139))) 140 (otS v (v 140)), w) = u)) ga gs 0 0 (zA Z)) (F0 gm 54 ls []) := by
          intro n54
          induction n54 with
          | zero => intro i x1 vb hx1 hi hvb hmu; exact absurd hmu (Nat.not_lt_zero _)
          | succ n54 ih54 =>
            intro i x1 vb hx1 hi hvb hmu54 H locs h ls hl
            refine lv_iload_n hx hb dX8_image_54 rfl (lv_at hl 1 rfl) ?_
            refine lv_bipush (v := 10) hx hb dX8_image_55 (by decide) ?_
            refine lv_icmp_ge (tgt := 96) hx hb dX8_image_57 (by decide) (fun c_57 => ?_) (fun c_57 => ?_)
            · skip
              have hil := nI_le1 (a := 10) (b := i) rfl hx1 (by omega) (by omega) c_57
              refine lv_iconst (v := 0) hx hb dX8_image_96 (by decide) ?_
              refine lv_istore_n (lv' := [(1, .int 0), (0, .ref (zg Z 116))]) hx hb dX8_image_97 rfl hl (by decide) rfl (fun ls hl => ?_)
              have L98 : ∀ (n98 : Nat) (i : Nat) (x1 : Int32) (vc : VV), (x1 = nI i) → (i ≤ 8) → (vc = upc (upc (up2 v 116 40 1) 139 (keepS v (v 139))) 140 (ot1 v (v 140) 5 10 i)) → 8 - i < n98 → ∀ (H : Heap) (locs : List Loc), HS Z gs vc w H locs → ∀ ls : Array Slot, lv_has ls 2 [(0, .ref (zg Z 116)), (1, .int x1)] → W gp gl ge (rmm 1 22) gs gm ga gb gh gc H locs 0 0 (MQ gb (Qi Z (fun r u => r = nI n ∧ (upc (upc (up2 v 116 40 1) 139 (keepS v (v 139))) 140 (otS v (v 140)), w) = u)) ga gs 0 0 (zA Z)) (F0 gm 98 ls []) := by
                intro n98
                induction n98 with
                | zero => intro i x1 vc hx1 hi hvc hmu; exact absurd hmu (Nat.not_lt_zero _)
                | succ n98 ih98 =>
                  intro i x1 vc hx1 hi hvc hmu98 H locs h ls hl
                  refine lv_iload_n hx hb dX8_image_98 rfl (lv_at hl 1 rfl) ?_
                  refine lv_bipush (v := 8) hx hb dX8_image_99 (by decide) ?_
                  refine lv_icmp_ge (tgt := 140) hx hb dX8_image_101 (by decide) (fun c_101 => ?_) (fun c_101 => ?_)
                  · skip
                    have hil := nI_le1 (a := 8) (b := i) rfl hx1 (by omega) (by omega) c_101
                    refine lv_aload_n hx hb dX8_image_140 rfl (lv_at hl 0 rfl) ?_
                    refine g_geti X h (k := 0) (cc_116) fr_RX8_111 rfl (by decide) dX8_image_141 ?_
                    exact g_iret X h dX8_image_144 ⟨by rw [hvc]; simp [upc, up2, hn], by rw [hvc, show i = 8 by omega, ot1_e]⟩
                  · skip
                    have hil := nI_le0 (a := 8) (b := i) rfl hx1 (by omega) (by omega) c_101
                    refine lv_aload_n hx hb dX8_image_104 rfl (lv_at hl 0 rfl) ?_
                    refine g_getr X h (k := 42) (t := 140) (cc_116) fr_RX8_82 rfl (by decide) (by decide) (by decide) dX8_image_105 ?_
                    refine lv_bipush (v := 30) hx hb dX8_image_108 (by decide) ?_
                    refine lv_iload_n hx hb dX8_image_110 rfl (lv_at hl 1 rfl) ?_
                    refine lv_iadd hx hb dX8_image_111 ?_
                    refine lv_aload_n hx hb dX8_image_112 rfl (lv_at hl 0 rfl) ?_
                    refine g_getr X h (k := 35) (t := 136) (cc_116) fr_RX8_70 rfl (by decide) (by decide) (by decide) dX8_image_113 ?_
                    refine lv_iload_n hx hb dX8_image_116 rfl (lv_at hl 1 rfl) ?_
                    refine g_iald X h (k := i) (cc_136) hx1 (by omega) (by decide) dX8_image_117 ?_
                    refine g_tr (y := (v 136 i)) (by simp [hvc, up2, upc]) ?_
                    refine g_iast X h (k := (30 + i)) (cc_140) (by rw [show (30) = nI 30 from rfl, show (x1) = nI i from hx1, nI_add]) (by omega) (by decide) dX8_image_118 (fun v118 H locs ev118 h => ?_)
                    refine lv_aload_n hx hb dX8_image_119 rfl (lv_at hl 0 rfl) ?_
                    refine g_getr X h (k := 42) (t := 140) (cc_116) fr_RX8_82 rfl (by decide) (by decide) (by decide) dX8_image_120 ?_
                    refine lv_bipush (v := 38) hx hb dX8_image_123 (by decide) ?_
                    refine lv_iload_n hx hb dX8_image_125 rfl (lv_at hl 1 rfl) ?_
                    refine lv_iadd hx hb dX8_image_126 ?_
                    refine lv_aload_n hx hb dX8_image_127 rfl (lv_at hl 0 rfl) ?_
                    refine g_getr X h (k := 36) (t := 137) (cc_116) fr_RX8_73 rfl (by decide) (by decide) (by decide) dX8_image_128 ?_
                    refine lv_iload_n hx hb dX8_image_131 rfl (lv_at hl 1 rfl) ?_
                    refine g_iald X h (k := i) (cc_137) hx1 (by omega) (by decide) dX8_image_132 ?_
                    refine g_tr (y := (v 137 i)) (by simp [ev118, hvc, up2, upc]) ?_
                    refine g_iast X h (k := (38 + i)) (cc_140) (by rw [show (38) = nI 38 from rfl, show (x1) = nI i from hx1, nI_add]) (by omega) (by decide) dX8_image_133 (fun v133 H locs ev133 h => ?_)
                    refine lv_iinc (v := (x1 + 1)) (lv' := [(1, .int (x1 + 1)), (0, .ref (zg Z 116))]) hx hb dX8_image_134 hl (k := 1) rfl rfl (by decide) rfl (fun ls hl => ?_)
                    refine lv_goto (tgt := 98) hx hb dX8_image_137 (by decide) ?_
                    exact ih98 (i + 1) (x1 + 1) v133 (by rw [hx1]; exact nI_1 _) (by omega) (by rw [ev133, ev118, hvc, up2_upc, up2_upc, ot1_c (by omega)]) (by omega) _ _ h ls (lv_sub hl [1, 0] rfl)
              exact L98 (8 - 0 + 1) 0 0 vb rfl (Nat.zero_le _) (by rw [hvb, show i = 10 by omega]) (Nat.lt_succ_self _) _ _ h ls (lv_sub hl [1, 0] rfl)
            · skip
              have hil := nI_le0 (a := 10) (b := i) rfl hx1 (by omega) (by omega) c_57
              refine lv_aload_n hx hb dX8_image_60 rfl (lv_at hl 0 rfl) ?_
              refine g_getr X h (k := 42) (t := 140) (cc_116) fr_RX8_82 rfl (by decide) (by decide) (by decide) dX8_image_61 ?_
              refine lv_bipush (v := 10) hx hb dX8_image_64 (by decide) ?_
              refine lv_iload_n hx hb dX8_image_66 rfl (lv_at hl 1 rfl) ?_
              refine lv_iadd hx hb dX8_image_67 ?_
              refine lv_aload_n hx hb dX8_image_68 rfl (lv_at hl 0 rfl) ?_
              refine g_getr X h (k := 32) (t := 134) (cc_116) fr_RX8_64 rfl (by decide) (by decide) (by decide) dX8_image_69 ?_
              refine lv_iload_n hx hb dX8_image_72 rfl (lv_at hl 1 rfl) ?_
              refine g_iald X h (k := i) (cc_134) hx1 (by omega) (by decide) dX8_image_73 ?_
              refine g_tr (y := (v 134 i)) (by simp [hvb, up2, upc]) ?_
              refine g_iast X h (k := (10 + i)) (cc_140) (by rw [show (10) = nI 10 from rfl, show (x1) = nI i from hx1, nI_add]) (by omega) (by decide) dX8_image_74 (fun v74 H locs ev74 h => ?_)
              refine lv_aload_n hx hb dX8_image_75 rfl (lv_at hl 0 rfl) ?_
              refine g_getr X h (k := 42) (t := 140) (cc_116) fr_RX8_82 rfl (by decide) (by decide) (by decide) dX8_image_76 ?_
              refine lv_bipush (v := 20) hx hb dX8_image_79 (by decide) ?_
              refine lv_iload_n hx hb dX8_image_81 rfl (lv_at hl 1 rfl) ?_
              refine lv_iadd hx hb dX8_image_82 ?_
              refine lv_aload_n hx hb dX8_image_83 rfl (lv_at hl 0 rfl) ?_
              refine g_getr X h (k := 33) (t := 135) (cc_116) fr_RX8_67 rfl (by decide) (by decide) (by decide) dX8_image_84 ?_
              refine lv_iload_n hx hb dX8_image_87 rfl (lv_at hl 1 rfl) ?_
              refine g_iald X h (k := i) (cc_135) hx1 (by omega) (by decide) dX8_image_88 ?_
              refine g_tr (y := (v 135 i)) (by simp [ev74, hvb, up2, upc]) ?_
              refine g_iast X h (k := (20 + i)) (cc_140) (by rw [show (20) = nI 20 from rfl, show (x1) = nI i from hx1, nI_add]) (by omega) (by decide) dX8_image_89 (fun v89 H locs ev89 h => ?_)
              refine lv_iinc (v := (x1 + 1)) (lv' := [(1, .int (x1 + 1)), (0, .ref (zg Z 116))]) hx hb dX8_image_90 hl (k := 1) rfl rfl (by decide) rfl (fun ls hl => ?_)
              refine lv_goto (tgt := 54) hx hb dX8_image_93 (by decide) ?_
              exact ih54 (i + 1) (x1 + 1) v89 (by rw [hx1]; exact nI_1 _) (by omega) (by rw [ev89, ev74, hvb, up2_upc, up2_upc, ot1_b (by omega)]) (by omega) _ _ h ls (lv_sub hl [1, 0] rfl)
        exact L54 (10 - 0 + 1) 0 0 va rfl (Nat.zero_le _) (by rw [hva, show i = 5 by omega]) (Nat.lt_succ_self _) _ _ h ls (lv_sub hl [1, 0] rfl)
      · skip
        have hil := nI_le0 (a := 5) (b := i) rfl hx1 (by omega) (by omega) c_17
        refine lv_aload_n hx hb dX8_image_20 rfl (lv_at hl 0 rfl) ?_
        refine g_getr X h (k := 42) (t := 140) (cc_116) fr_RX8_82 rfl (by decide) (by decide) (by decide) dX8_image_21 ?_
        refine lv_iload_n hx hb dX8_image_24 rfl (lv_at hl 1 rfl) ?_
        refine lv_aload_n hx hb dX8_image_25 rfl (lv_at hl 0 rfl) ?_
        refine g_getr X h (k := 29) (t := 132) (cc_116) fr_RX8_58 rfl (by decide) (by decide) (by decide) dX8_image_26 ?_
        refine lv_iload_n hx hb dX8_image_29 rfl (lv_at hl 1 rfl) ?_
        refine g_iald X h (k := i) (cc_132) hx1 (by omega) (by decide) dX8_image_30 ?_
        refine g_tr (y := (v 132 i)) (by simp [hva, up2, upc]) ?_
        refine g_iast X h (k := i) (cc_140) hx1 (by omega) (by decide) dX8_image_31 (fun v31 H locs ev31 h => ?_)
        refine lv_aload_n hx hb dX8_image_32 rfl (lv_at hl 0 rfl) ?_
        refine g_getr X h (k := 42) (t := 140) (cc_116) fr_RX8_82 rfl (by decide) (by decide) (by decide) dX8_image_33 ?_
        refine lv_iconst (v := 5) hx hb dX8_image_36 (by decide) ?_
        refine lv_iload_n hx hb dX8_image_37 rfl (lv_at hl 1 rfl) ?_
        refine lv_iadd hx hb dX8_image_38 ?_
        refine lv_aload_n hx hb dX8_image_39 rfl (lv_at hl 0 rfl) ?_
        refine g_getr X h (k := 30) (t := 133) (cc_116) fr_RX8_61 rfl (by decide) (by decide) (by decide) dX8_image_40 ?_
        refine lv_iload_n hx hb dX8_image_43 rfl (lv_at hl 1 rfl) ?_
        refine g_iald X h (k := i) (cc_133) hx1 (by omega) (by decide) dX8_image_44 ?_
        refine g_tr (y := (v 133 i)) (by simp [ev31, hva, up2, upc]) ?_
        refine g_iast X h (k := (5 + i)) (cc_140) (by rw [show (5) = nI 5 from rfl, show (x1) = nI i from hx1, nI_add]) (by omega) (by decide) dX8_image_45 (fun v45 H locs ev45 h => ?_)
        refine lv_iinc (v := (x1 + 1)) (lv' := [(1, .int (x1 + 1)), (0, .ref (zg Z 116))]) hx hb dX8_image_46 hl (k := 1) rfl rfl (by decide) rfl (fun ls hl => ?_)
        refine lv_goto (tgt := 15) hx hb dX8_image_49 (by decide) ?_
        exact ih15 (i + 1) (x1 + 1) v45 (by rw [hx1]; exact nI_1 _) (by omega) (by rw [ev45, ev31, hva, up2_upc, up2_upc, ot1_a (by omega)]) (by omega) _ _ h ls (lv_sub hl [1, 0] rfl)
  exact L15 (5 - 0 + 1) 0 0 v10 rfl (Nat.zero_le _) (by rw [hv10, ot1_0]; exact (vb140 v _).symm) (Nat.lt_succ_self _) _ _ h ls (lv_sub hl [1, 0] rfl)

set_option maxRecDepth 100000 in
set_option maxHeartbeats 1000000 in
theorem c_X8_undo (gl : Launch) (Z : PL) (v : VV) (w : WV) : CT gl yX8_undo cX8_undo 2 (some .int) 1 22 Z [.ref (zg Z 116)] v w (Qi Z (fun r u => r = (if v 116 40 = 0 then -3 else v 139 54) ∧ ((if v 116 40 = 0 then v else un1 (againS v 139) 5 10 8), w) = u)) := by
  refine g_met (by decide) (Nat.le_of_ble_eq_true rfl) ?_
  intro gp ge gs gm ga gb gh gc X h ls hl
  have hx := X.1
  have hb := X.2.1
  have hl : lv_has ls 2 [(0, .ref (zg Z 116))] := hl
  refine lv_aload_n hx hb dX8_undo_0 rfl (lv_at hl 0 rfl) ?_
  refine g_geti X h (k := 40) (cc_116) fr_RX8_314 rfl (by decide) dX8_undo_1 ?_
  refine lv_if_ne (tgt := 10) hx hb dX8_undo_4 (by decide) (fun c_4 => ?_) (fun c_4 => ?_)
  · skip
    refine lv_aload_n hx hb dX8_undo_10 rfl (lv_at hl 0 rfl) ?_
    refine lv_aload_n hx hb dX8_undo_11 rfl (lv_at hl 0 rfl) ?_
    refine g_getr X h (k := 41) (t := 139) (cc_116) fr_RX8_79 rfl (by decide) (by decide) (by decide) dX8_undo_12 ?_
    refine g_kv h (g_runV X h (As := [.ref (zg Z 139)]) (rest := []) (c_X8_again gl Z v w 139 (Or.inr rfl)) mi_X8_again ml_RX8_280 (cc_116) (by decide) kl8 rfl ⟨Nat.le_of_ble_eq_true rfl, Nat.le_of_ble_eq_true rfl⟩ rfl hl.1 rfl (Nat.le_of_ble_eq_true rfl) dX8_undo_15) (fun v15 w15 H locs hp15 h => ?_)
    obtain ⟨ev15, rfl⟩ := Prod.mk.inj hp15
    replace ev15 := ev15.symm
    refine lv_iconst (v := 0) hx hb dX8_undo_18 (by decide) ?_
    refine lv_istore_n (lv' := [(1, .int 0), (0, .ref (zg Z 116))]) hx hb dX8_undo_19 rfl hl (by decide) rfl (fun ls hl => ?_)
    have L20 : ∀ (n20 : Nat) (i : Nat) (x1 : Int32) (va : VV), (x1 = nI i) → (i ≤ 5) → (va = un1 (againS v 139) i 0 0) → 5 - i < n20 → ∀ (H : Heap) (locs : List Loc), HS Z gs va w H locs → ∀ ls : Array Slot, lv_has ls 2 [(0, .ref (zg Z 116)), (1, .int x1)] → W gp gl ge (rmm 1 22) gs gm ga gb gh gc H locs 0 0 (MQ gb (Qi Z (fun r u => r = (if v 116 40 = 0 then -3 else v 139 54) ∧ ((if v 116 40 = 0 then v else un1 (againS v 139) 5 10 8), w) = u)) ga gs 0 0 (zA Z)) (F0 gm 20 ls []) := by
      intro n20
      induction n20 with
      | zero => intro i x1 va hx1 hi hva hmu; exact absurd hmu (Nat.not_lt_zero _)
      | succ n20 ih20 =>
        intro i x1 va hx1 hi hva hmu20 H locs h ls hl
        have hvt : va 140 = v15 140 := by rw [hva, un1_t, ev15]
        refine lv_iload_n hx hb dX8_undo_20 rfl (lv_at hl 1 rfl) ?_
        refine lv_iconst (v := 5) hx hb dX8_undo_21 (by decide) ?_
        refine lv_icmp_ge (tgt := 57) hx hb dX8_undo_22 (by decide) (fun c_22 => ?_) (fun c_22 => ?_)
        · skip
          have hil := nI_le1 (a := 5) (b := i) rfl hx1 (by omega) (by omega) c_22
          refine lv_iconst (v := 0) hx hb dX8_undo_57 (by decide) ?_
          refine lv_istore_n (lv' := [(1, .int 0), (0, .ref (zg Z 116))]) hx hb dX8_undo_58 rfl hl (by decide) rfl (fun ls hl => ?_)
          have L59 : ∀ (n59 : Nat) (i : Nat) (x1 : Int32) (vb : VV), (x1 = nI i) → (i ≤ 10) → (vb = un1 (againS v 139) 5 i 0) → 10 - i < n59 → ∀ (H : Heap) (locs : List Loc), HS Z gs vb w H locs → ∀ ls : Array Slot, lv_has ls 2 [(0, .ref (zg Z 116)), (1, .int x1)] → W gp gl ge (rmm 1 22) gs gm ga gb gh gc H locs 0 0 (MQ gb (Qi Z (fun r u => r = (if v 116 40 = 0 then -3 else v 139 54) ∧ ((if v 116 40 = 0 then v else un1 (againS v 139) 5 10 8), w) = u)) ga gs 0 0 (zA Z)) (F0 gm 59 ls []) := by
            intro n59
            induction n59 with
            | zero => intro i x1 vb hx1 hi hvb hmu; exact absurd hmu (Nat.not_lt_zero _)
            | succ n59 ih59 =>
              intro i x1 vb hx1 hi hvb hmu59 H locs h ls hl
              have hvt : vb 140 = v15 140 := by rw [hvb, un1_t, ev15]
              refine lv_iload_n hx hb dX8_undo_59 rfl (lv_at hl 1 rfl) ?_
              refine lv_bipush (v := 10) hx hb dX8_undo_60 (by decide) ?_
              refine lv_icmp_ge (tgt := 101) hx hb dX8_undo_62 (by decide) (fun c_62 => ?_) (fun c_62 => ?_)
              · skip
                have hil := nI_le1 (a := 10) (b := i) rfl hx1 (by omega) (by omega) c_62
                refine lv_iconst (v := 0) hx hb dX8_undo_101 (by decide) ?_
                refine lv_istore_n (lv' := [(1, .int 0), (0, .ref (zg Z 116))]) hx hb dX8_undo_102 rfl hl (by decide) rfl (fun ls hl => ?_)
                have L103 : ∀ (n103 : Nat) (i : Nat) (x1 : Int32) (vc : VV), (x1 = nI i) → (i ≤ 8) → (vc = un1 (againS v 139) 5 10 i) → 8 - i < n103 → ∀ (H : Heap) (locs : List Loc), HS Z gs vc w H locs → ∀ ls : Array Slot, lv_has ls 2 [(0, .ref (zg Z 116)), (1, .int x1)] → W gp gl ge (rmm 1 22) gs gm ga gb gh gc H locs 0 0 (MQ gb (Qi Z (fun r u => r = (if v 116 40 = 0 then -3 else v 139 54) ∧ ((if v 116 40 = 0 then v else un1 (againS v 139) 5 10 8), w) = u)) ga gs 0 0 (zA Z)) (F0 gm 103 ls []) := by
                  intro n103
                  induction n103 with
                  | zero => intro i x1 vc hx1 hi hvc hmu; exact absurd hmu (Nat.not_lt_zero _)
                  | succ n103 ih103 =>
                    intro i x1 vc hx1 hi hvc hmu103 H locs h ls hl
                    have hvt : vc 140 = v15 140 := by rw [hvc, un1_t, ev15]
                    refine lv_iload_n hx hb dX8_undo_103 rfl (lv_at hl 1 rfl) ?_
                    refine lv_bipush (v := 8) hx hb dX8_undo_104 (by decide) ?_
                    refine lv_icmp_ge (tgt := 145) hx hb dX8_undo_106 (by decide) (fun c_106 => ?_) (fun c_106 => ?_)
                    · skip
                      have hil := nI_le1 (a := 8) (b := i) rfl hx1 (by omega) (by omega) c_106
                      refine lv_aload_n hx hb dX8_undo_145 rfl (lv_at hl 0 rfl) ?_
                      refine g_geti X h (k := 0) (cc_116) fr_RX8_111 rfl (by decide) dX8_undo_146 ?_
                      exact g_iret X h dX8_undo_149 ⟨by rw [hvc, if_neg c_4]; simp [un1, againS, up2], by rw [hvc, show i = 8 by omega, if_neg c_4]⟩
                    · skip
                      have hil := nI_le0 (a := 8) (b := i) rfl hx1 (by omega) (by omega) c_106
                      refine lv_aload_n hx hb dX8_undo_109 rfl (lv_at hl 0 rfl) ?_
                      refine g_getr X h (k := 35) (t := 136) (cc_116) fr_RX8_70 rfl (by decide) (by decide) (by decide) dX8_undo_110 ?_
                      refine lv_iload_n hx hb dX8_undo_113 rfl (lv_at hl 1 rfl) ?_
                      refine lv_aload_n hx hb dX8_undo_114 rfl (lv_at hl 0 rfl) ?_
                      refine g_getr X h (k := 42) (t := 140) (cc_116) fr_RX8_82 rfl (by decide) (by decide) (by decide) dX8_undo_115 ?_
                      refine lv_bipush (v := 30) hx hb dX8_undo_118 (by decide) ?_
                      refine lv_iload_n hx hb dX8_undo_120 rfl (lv_at hl 1 rfl) ?_
                      refine lv_iadd hx hb dX8_undo_121 ?_
                      refine g_iald X h (k := (30 + i)) (cc_140) (by rw [show (30) = nI 30 from rfl, show (x1) = nI i from hx1, nI_add]) (by omega) (by decide) dX8_undo_122 ?_
                      refine g_tr (y := (v15 140 (30 + i))) (by simp [hvt, up2, upc]) ?_
                      refine g_iast X h (k := i) (cc_136) hx1 (by omega) (by decide) dX8_undo_123 (fun v123 H locs ev123 h => ?_)
                      refine lv_aload_n hx hb dX8_undo_124 rfl (lv_at hl 0 rfl) ?_
                      refine g_getr X h (k := 36) (t := 137) (cc_116) fr_RX8_73 rfl (by decide) (by decide) (by decide) dX8_undo_125 ?_
                      refine lv_iload_n hx hb dX8_undo_128 rfl (lv_at hl 1 rfl) ?_
                      refine lv_aload_n hx hb dX8_undo_129 rfl (lv_at hl 0 rfl) ?_
                      refine g_getr X h (k := 42) (t := 140) (cc_116) fr_RX8_82 rfl (by decide) (by decide) (by decide) dX8_undo_130 ?_
                      refine lv_bipush (v := 38) hx hb dX8_undo_133 (by decide) ?_
                      refine lv_iload_n hx hb dX8_undo_135 rfl (lv_at hl 1 rfl) ?_
                      refine lv_iadd hx hb dX8_undo_136 ?_
                      refine g_iald X h (k := (38 + i)) (cc_140) (by rw [show (38) = nI 38 from rfl, show (x1) = nI i from hx1, nI_add]) (by omega) (by decide) dX8_undo_137 ?_
                      refine g_tr (y := (v15 140 (38 + i))) (by simp [ev123, hvt, up2, upc]) ?_
                      refine g_iast X h (k := i) (cc_137) hx1 (by omega) (by decide) dX8_undo_138 (fun v138 H locs ev138 h => ?_)
                      refine lv_iinc (v := (x1 + 1)) (lv' := [(1, .int (x1 + 1)), (0, .ref (zg Z 116))]) hx hb dX8_undo_139 hl (k := 1) rfl rfl (by decide) rfl (fun ls hl => ?_)
                      refine lv_goto (tgt := 103) hx hb dX8_undo_142 (by decide) ?_
                      exact ih103 (i + 1) (x1 + 1) v138 (by rw [hx1]; exact nI_1 _) (by omega) (by rw [ev138, ev123, hvc, ev15, un1_c]) (by omega) _ _ h ls (lv_sub hl [1, 0] rfl)
                exact L103 (8 - 0 + 1) 0 0 vb rfl (Nat.zero_le _) (by rw [hvb, show i = 10 by omega]) (Nat.lt_succ_self _) _ _ h ls (lv_sub hl [1, 0] rfl)
              · skip
                have hil := nI_le0 (a := 10) (b := i) rfl hx1 (by omega) (by omega) c_62
                refine lv_aload_n hx hb dX8_undo_65 rfl (lv_at hl 0 rfl) ?_
                refine g_getr X h (k := 32) (t := 134) (cc_116) fr_RX8_64 rfl (by decide) (by decide) (by decide) dX8_undo_66 ?_
                refine lv_iload_n hx hb dX8_undo_69 rfl (lv_at hl 1 rfl) ?_
                refine lv_aload_n hx hb dX8_undo_70 rfl (lv_at hl 0 rfl) ?_
                refine g_getr X h (k := 42) (t := 140) (cc_116) fr_RX8_82 rfl (by decide) (by decide) (by decide) dX8_undo_71 ?_
                refine lv_bipush (v := 10) hx hb dX8_undo_74 (by decide) ?_
                refine lv_iload_n hx hb dX8_undo_76 rfl (lv_at hl 1 rfl) ?_
                refine lv_iadd hx hb dX8_undo_77 ?_
                refine g_iald X h (k := (10 + i)) (cc_140) (by rw [show (10) = nI 10 from rfl, show (x1) = nI i from hx1, nI_add]) (by omega) (by decide) dX8_undo_78 ?_
                refine g_tr (y := (v15 140 (10 + i))) (by simp [hvt, up2, upc]) ?_
                refine g_iast X h (k := i) (cc_134) hx1 (by omega) (by decide) dX8_undo_79 (fun v79 H locs ev79 h => ?_)
                refine lv_aload_n hx hb dX8_undo_80 rfl (lv_at hl 0 rfl) ?_
                refine g_getr X h (k := 33) (t := 135) (cc_116) fr_RX8_67 rfl (by decide) (by decide) (by decide) dX8_undo_81 ?_
                refine lv_iload_n hx hb dX8_undo_84 rfl (lv_at hl 1 rfl) ?_
                refine lv_aload_n hx hb dX8_undo_85 rfl (lv_at hl 0 rfl) ?_
                refine g_getr X h (k := 42) (t := 140) (cc_116) fr_RX8_82 rfl (by decide) (by decide) (by decide) dX8_undo_86 ?_
                refine lv_bipush (v := 20) hx hb dX8_undo_89 (by decide) ?_
                refine lv_iload_n hx hb dX8_undo_91 rfl (lv_at hl 1 rfl) ?_
                refine lv_iadd hx hb dX8_undo_92 ?_
                refine g_iald X h (k := (20 + i)) (cc_140) (by rw [show (20) = nI 20 from rfl, show (x1) = nI i from hx1, nI_add]) (by omega) (by decide) dX8_undo_93 ?_
                refine g_tr (y := (v15 140 (20 + i))) (by simp [ev79, hvt, up2, upc]) ?_
                refine g_iast X h (k := i) (cc_135) hx1 (by omega) (by decide) dX8_undo_94 (fun v94 H locs ev94 h => ?_)
                refine lv_iinc (v := (x1 + 1)) (lv' := [(1, .int (x1 + 1)), (0, .ref (zg Z 116))]) hx hb dX8_undo_95 hl (k := 1) rfl rfl (by decide) rfl (fun ls hl => ?_)
                refine lv_goto (tgt := 59) hx hb dX8_undo_98 (by decide) ?_
                exact ih59 (i + 1) (x1 + 1) v94 (by rw [hx1]; exact nI_1 _) (by omega) (by rw [ev94, ev79, hvb, ev15, un1_b]) (by omega) _ _ h ls (lv_sub hl [1, 0] rfl)
          exact L59 (10 - 0 + 1) 0 0 va rfl (Nat.zero_le _) (by rw [hva, show i = 5 by omega]) (Nat.lt_succ_self _) _ _ h ls (lv_sub hl [1, 0] rfl)
        · skip
          have hil := nI_le0 (a := 5) (b := i) rfl hx1 (by omega) (by omega) c_22
          refine lv_aload_n hx hb dX8_undo_25 rfl (lv_at hl 0 rfl) ?_
          refine g_getr X h (k := 29) (t := 132) (cc_116) fr_RX8_58 rfl (by decide) (by decide) (by decide) dX8_undo_26 ?_
          refine lv_iload_n hx hb dX8_undo_29 rfl (lv_at hl 1 rfl) ?_
          refine lv_aload_n hx hb dX8_undo_30 rfl (lv_at hl 0 rfl) ?_
          refine g_getr X h (k := 42) (t := 140) (cc_116) fr_RX8_82 rfl (by decide) (by decide) (by decide) dX8_undo_31 ?_
          refine lv_iload_n hx hb dX8_undo_34 rfl (lv_at hl 1 rfl) ?_
          refine g_iald X h (k := i) (cc_140) hx1 (by omega) (by decide) dX8_undo_35 ?_
          refine g_tr (y := (v15 140 i)) (by simp [hvt, up2, upc]) ?_
          refine g_iast X h (k := i) (cc_132) hx1 (by omega) (by decide) dX8_undo_36 (fun v36 H locs ev36 h => ?_)
          refine lv_aload_n hx hb dX8_undo_37 rfl (lv_at hl 0 rfl) ?_
          refine g_getr X h (k := 30) (t := 133) (cc_116) fr_RX8_61 rfl (by decide) (by decide) (by decide) dX8_undo_38 ?_
          refine lv_iload_n hx hb dX8_undo_41 rfl (lv_at hl 1 rfl) ?_
          refine lv_aload_n hx hb dX8_undo_42 rfl (lv_at hl 0 rfl) ?_
          refine g_getr X h (k := 42) (t := 140) (cc_116) fr_RX8_82 rfl (by decide) (by decide) (by decide) dX8_undo_43 ?_
          refine lv_iconst (v := 5) hx hb dX8_undo_46 (by decide) ?_
          refine lv_iload_n hx hb dX8_undo_47 rfl (lv_at hl 1 rfl) ?_
          refine lv_iadd hx hb dX8_undo_48 ?_
          refine g_iald X h (k := (5 + i)) (cc_140) (by rw [show (5) = nI 5 from rfl, show (x1) = nI i from hx1, nI_add]) (by omega) (by decide) dX8_undo_49 ?_
          refine g_tr (y := (v15 140 (5 + i))) (by simp [ev36, hvt, up2, upc]) ?_
          refine g_iast X h (k := i) (cc_133) hx1 (by omega) (by decide) dX8_undo_50 (fun v50 H locs ev50 h => ?_)
          refine lv_iinc (v := (x1 + 1)) (lv' := [(1, .int (x1 + 1)), (0, .ref (zg Z 116))]) hx hb dX8_undo_51 hl (k := 1) rfl rfl (by decide) rfl (fun ls hl => ?_)
          refine lv_goto (tgt := 20) hx hb dX8_undo_54 (by decide) ?_
          exact ih20 (i + 1) (x1 + 1) v50 (by rw [hx1]; exact nI_1 _) (by omega) (by rw [ev50, ev36, hva, ev15, un1_a]) (by omega) _ _ h ls (lv_sub hl [1, 0] rfl)
    exact L20 (5 - 0 + 1) 0 0 v15 rfl (Nat.zero_le _) (by rw [ev15, un1_0]) (Nat.lt_succ_self _) _ _ h ls (lv_sub hl [1, 0] rfl)
  · skip
    refine lv_bipush (v := (-3)) hx hb dX8_undo_7 (by decide) ?_
    exact g_iret X h dX8_undo_9 ⟨by rw [if_pos c_4], by rw [if_pos c_4]⟩
