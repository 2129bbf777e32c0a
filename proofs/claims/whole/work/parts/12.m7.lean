/-! seen, odds -/
def seenS (X : VV) (L : LND) (n : Nat) (sh sd : Nat → Int32) : Nat → Bool
  | 0 => true
  | i + 1 => seenS X L n sh sd i && decide (helS X L n (sd i).toNatClampNeg = sh i)
theorem seenS_f {X : VV} {L : LND} {n : Nat} {sh sd : Nat → Int32} {i : Nat} (h : seenS X L n sh sd i = false) : ∀ z, i ≤ z → seenS X L n sh sd z = false := by
  intro z hz
  induction z with
  | zero => rw [show i = 0 by omega] at h; exact h
  | succ z ih =>
    rcases Nat.lt_or_ge z i with q | q
    · rw [show z + 1 = i by omega]; exact h
    · rw [seenS, ih q]; rfl
def cntD (P : Nat → Bool) (top : Nat) : Nat → Int32
  | 0 => 0
  | k + 1 => if P (top - k) then cntD P top k + 1 else cntD P top k
def wasP (X : VV) (L : LND) (n : Nat) (sh sd : Nat → Int32) (z p g : Nat) : Bool := seenS (up2 X 3 p (nI g)) L n sh sd z
def canP (X : VV) (L : LND) (n : Nat) (sh sd : Nat → Int32) (z p g : Nat) : Bool := seenS (up2 X 2 p (nI g)) L n sh sd z
def sWas (X : VV) (L : LND) (n : Nat) (sh sd : Nat → Int32) (z : Nat) (x y : Int32) : Int32 := if isP (nI n) x && inR y 0 1 then (if y = 0 then cntD (wasP X L n sh sd z x.toNatClampNeg) 40 41 else minD (wasP X L n sh sd z x.toNatClampNeg) 40 41) else -1
def sCan (X : VV) (L : LND) (n : Nat) (sh sd : Nat → Int32) (z : Nat) (x y : Int32) : Int32 := if isP (nI n) x && inR y 0 1 then (if y = 0 then cntD (canP X L n sh sd z x.toNatClampNeg) 9 10 else minD (canP X L n sh sd z x.toNatClampNeg) 9 10) else -1
def sSee (z : Nat) (x y : Int32) : Int32 := if x = -1 then 0 else if inR x 0 999 && inR y 0 20 then (if z < 5 then nI (z + 1) else -4) else -2
def okSee (z : Nat) (x y : Int32) : Bool := inR x 0 999 && inR y 0 20 && decide (z < 5)
def okWin (n z : Nat) (x y : Int32) : Bool := inR x 0 3 && (decide (¬ x = 1) || isP (nI n) y) && decide (z < 10)
def sWin (n z : Nat) (x y : Int32) : Int32 := if x = -1 then 0 else if inR x 0 3 && (decide (¬ x = 1) || isP (nI n) y) then (if z < 10 then nI (z + 1) else -4) else -1
def okBook (n z : Nat) (x y : Int32) : Bool := isP (nI n) x && inR y 0 999 && decide (z < 8)
def sBook (n z : Nat) (x y : Int32) : Int32 := if x = -1 then 0 else if isP (nI n) x then (if inR y 0 999 then (if z < 8 then nI (z + 1) else -4) else -2) else -1
def lookF (th bk bt : Nat → Int32) : Nat → Nat → Int32
  | 0, _ => -5
  | f + 1, i => if th (bk i).toNatClampNeg = bt i then lookF th bk bt f (i + 1) else nI i
/-- a part of a / b in lowest terms -/
def fracS (a b : Nat) (pt : Int32) : Int64 := if pt = 0 then lN (a / Nat.gcd a b) else lN (b / Nat.gcd a b)
def livF (X : VV) (L : LND) (n k : Nat) : Nat → Nat
  | 0 => 0
  | p + 1 => if gwS X L n k p then livF X L n k p else livF X L n k p + 1
theorem livF_le (X : VV) (L : LND) (n k : Nat) : ∀ p, livF X L n k p ≤ p
  | 0 => Nat.le_refl 0
  | p + 1 => by
    have := livF_le X L n k p
    rw [livF]
    split <;> omega
def NOv : Int64 := -9223372036854775808
def sOdds (X : VV) (L : LND) (n : Nat) (x y : Int32) : Int64 := if inR x 0 60 && inR y 0 1 && decide (0 < n) then fracS (livF X L n x.toNatClampNeg n) n y else NOv
def sMean (X : VV) (L : LND) (n : Nat) (x y : Int32) : Int64 := if inR x 0 60 && inR y 0 1 && decide (0 < n) then fracS (lsum (daysS X L n x.toNatClampNeg 3) n).toNatClampNeg n y else NOv
theorem lsum_nat {f : Nat → Int32} {n : Nat} (hn : n ≤ 6) (h : ∀ p, p < n → 0 ≤ (f p).toInt ∧ (f p).toInt ≤ 999) : ∀ i, i ≤ n → ∃ m, lsum f i = nI m ∧ m ≤ 999 * i
  | 0, _ => ⟨0, rfl, by omega⟩
  | i + 1, hi => by
    obtain ⟨m, e, hm⟩ := lsum_nat hn h i (by omega)
    obtain ⟨k, e2, hk, -⟩ := i_nat (h i (by omega)).1
    have := (h i (by omega)).2
    exact ⟨m + k, by rw [lsum, e, e2, nI_add], by omega⟩
set_option maxRecDepth 100000 in
set_option maxHeartbeats 1000000 in
theorem c_X8_see (gl : Launch) (Z : PL) (v : VV) (w : WV) (x0 : Int32) (x1 : Int32) (z : Nat) (hz : v 116 28 = nI z) (hzm : z ≤ 5) : CT gl yX8_see cX8_see 3 (some .int) 1 22 Z [.ref (zg Z 116), .int x0, .int x1] v w (Qi Z (fun r u => r = sSee z x0 x1 ∧ (if x0 = -1 then up2 v 116 28 0 else if okSee z x0 x1 then up2 (up2 (up2 v 132 z x0) 116 28 (nI (z + 1))) 133 z x1 else v, w) = u)) := by
  refine g_met (by decide) (Nat.le_of_ble_eq_true rfl) ?_
  intro gp ge gs gm ga gb gh gc X h ls hl
  have hx := X.1
  have hb := X.2.1
  have hl : lv_has ls 3 [(0, .ref (zg Z 116)), (1, .int x0), (2, .int x1)] := hl
  refine lv_iload_n hx hb dX8_see_0 rfl (lv_at hl 1 rfl) ?_
  refine lv_iconst (v := (-1)) hx hb dX8_see_1 (by decide) ?_
  refine lv_icmp_ne (tgt := 12) hx hb dX8_see_2 (by decide) (fun c_2 => ?_) (fun c_2 => ?_)
  · skip
    refine lv_iload_n hx hb dX8_see_12 rfl (lv_at hl 1 rfl) ?_
    refine lv_iconst (v := 0) hx hb dX8_see_13 (by decide) ?_
    refine lv_sipush (v := 999) hx hb dX8_see_14 (by decide) ?_
    refine g_ki h (g_runS X h (As := [.int x0, .int 0, .int 999]) (rest := []) (c_X8_within gl Z v w x0 0 999) ms_X8_within ml_RX8_114 ⟨Nat.le_of_ble_eq_true rfl, Nat.le_of_ble_eq_true rfl⟩ rfl hl.1 rfl (Nat.le_of_ble_eq_true rfl) dX8_see_17) (fun r17 v17 w17 H locs hp17 h => ?_)
    obtain ⟨hr17, hu17⟩ := hp17; obtain ⟨rfl, rfl⟩ := Prod.mk.inj hu17
    refine lv_if_eq (tgt := 33) hx hb dX8_see_20 (by decide) (fun c_20 => ?_) (fun c_20 => ?_)
    · skip
      rw [hr17, bI_0] at c_20
      refine lv_bipush (v := (-2)) hx hb dX8_see_33 (by decide) ?_
      exact g_iret X h dX8_see_35 ⟨by simp [sSee, c_2, c_20], by rw [if_neg c_2, if_neg (by simp [okSee, c_2, c_20])]⟩
    · skip
      rw [hr17, bI_n] at c_20
      refine lv_iload_n hx hb dX8_see_23 rfl (lv_at hl 2 rfl) ?_
      refine lv_iconst (v := 0) hx hb dX8_see_24 (by decide) ?_
      refine lv_bipush (v := 20) hx hb dX8_see_25 (by decide) ?_
      refine g_ki h (g_runS X h (As := [.int x1, .int 0, .int 20]) (rest := []) (c_X8_within gl Z v w x1 0 20) ms_X8_within ml_RX8_114 ⟨Nat.le_of_ble_eq_true rfl, Nat.le_of_ble_eq_true rfl⟩ rfl hl.1 rfl (Nat.le_of_ble_eq_true rfl) dX8_see_27) (fun r27 v27 w27 H locs hp27 h => ?_)
      obtain ⟨hr27, hu27⟩ := hp27; obtain ⟨rfl, rfl⟩ := Prod.mk.inj hu27
      refine lv_if_ne (tgt := 36) hx hb dX8_see_30 (by decide) (fun c_30 => ?_) (fun c_30 => ?_)
      · skip
        rw [hr27, bI_n] at c_30
        refine lv_aload_n hx hb dX8_see_36 rfl (lv_at hl 0 rfl) ?_
        refine g_geti X h (k := 28) (cc_116) fr_RX8_296 rfl (by decide) dX8_see_37 ?_
        refine lv_iconst (v := 5) hx hb dX8_see_40 (by decide) ?_
        refine lv_icmp_ne (tgt := 47) hx hb dX8_see_41 (by decide) (fun c_41 => ?_) (fun c_41 => ?_)
        · skip
          have hz7 : z < 5 := by
            rcases Nat.lt_or_ge z 5 with y | y
            · exact y
            · exact absurd (by rw [hz, show z = 5 by omega]; rfl) c_41
          refine lv_aload_n hx hb dX8_see_47 rfl (lv_at hl 0 rfl) ?_
          refine g_getr X h (k := 29) (t := 132) (cc_116) fr_RX8_58 rfl (by decide) (by decide) (by decide) dX8_see_48 ?_
          refine lv_aload_n hx hb dX8_see_51 rfl (lv_at hl 0 rfl) ?_
          refine g_geti X h (k := 28) (cc_116) fr_RX8_296 rfl (by decide) dX8_see_52 ?_
          refine lv_iload_n hx hb dX8_see_55 rfl (lv_at hl 1 rfl) ?_
          refine g_iast X h (k := z) (cc_132) hz (by omega) (by decide) dX8_see_56 (fun v56 H locs ev56 h => ?_)
          refine lv_aload_n hx hb dX8_see_57 rfl (lv_at hl 0 rfl) ?_
          refine g_getr X h (k := 30) (t := 133) (cc_116) fr_RX8_61 rfl (by decide) (by decide) (by decide) dX8_see_58 ?_
          refine lv_aload_n hx hb dX8_see_61 rfl (lv_at hl 0 rfl) ?_
          refine lv_dup hx hb dX8_see_62 rfl ?_
          refine g_geti X h (k := 28) (cc_116) fr_RX8_296 rfl (by decide) dX8_see_63 ?_
          refine g_tr (y := (v 116 28)) (by simp [ev56, up2, upc]) ?_
          refine lv_dup_x1 hx hb dX8_see_66 rfl rfl ?_
          refine lv_iconst (v := 1) hx hb dX8_see_67 (by decide) ?_
          refine lv_iadd hx hb dX8_see_68 ?_
          refine g_puti X h (k := 28) (cc_116) fp_RX8_296 rfl (by decide) dX8_see_69 (fun v69 H locs ev69 h => ?_)
          refine lv_iload_n hx hb dX8_see_72 rfl (lv_at hl 2 rfl) ?_
          refine g_iast X h (k := z) (cc_133) hz (by omega) (by decide) dX8_see_73 (fun v73 H locs ev73 h => ?_)
          refine lv_aload_n hx hb dX8_see_74 rfl (lv_at hl 0 rfl) ?_
          refine g_geti X h (k := 28) (cc_116) fr_RX8_296 rfl (by decide) dX8_see_75 ?_
          refine g_tr (y := ((v 116 28) + 1)) (by simp [ev73, ev69, up2, upc]) ?_
          exact g_iret X h dX8_see_78 ⟨by simp [sSee, c_2, c_20, c_30, c_41, hz7, hz, nI_1], by rw [if_neg c_2, if_pos (by simp [okSee, c_2, c_20, c_30, c_41, hz7]), ev73, ev69, ev56, hz, nI_1]⟩
        · skip
          have hz7 : z = 5 := nI_inj (by omega) (by omega) (hz.symm.trans c_41)
          refine lv_bipush (v := (-4)) hx hb dX8_see_44 (by decide) ?_
          exact g_iret X h dX8_see_46 ⟨by simp [sSee, c_2, c_20, c_30, c_41, hz7], by rw [if_neg c_2, if_neg (by simp [okSee, c_2, c_20, c_30, c_41, hz7])]⟩
      · skip
        rw [hr27, bI_0] at c_30
        refine lv_bipush (v := (-2)) hx hb dX8_see_33 (by decide) ?_
        exact g_iret X h dX8_see_35 ⟨by simp [sSee, c_2, c_20, c_30], by rw [if_neg c_2, if_neg (by simp [okSee, c_2, c_20, c_30])]⟩
  · skip
    refine lv_aload_n hx hb dX8_see_5 rfl (lv_at hl 0 rfl) ?_
    refine lv_iconst (v := 0) hx hb dX8_see_6 (by decide) ?_
    refine g_puti X h (k := 28) (cc_116) fp_RX8_296 rfl (by decide) dX8_see_7 (fun v7 H locs ev7 h => ?_)
    refine lv_iconst (v := 0) hx hb dX8_see_10 (by decide) ?_
    exact g_iret X h dX8_see_11 ⟨by simp [sSee, c_2], by rw [if_pos c_2, ev7]⟩

set_option maxRecDepth 100000 in
set_option maxHeartbeats 1000000 in
theorem c_X8_winter (gl : Launch) (Z : PL) (v : VV) (w : WV) (x0 : Int32) (x1 : Int32) (n : Nat) (hn : v 116 0 = nI n) (h6 : n ≤ 6) (z : Nat) (hz : v 116 31 = nI z) (hzm : z ≤ 10) : CT gl yX8_winter cX8_winter 3 (some .int) 2 43 Z [.ref (zg Z 116), .int x0, .int x1] v w (Qi Z (fun r u => r = sWin n z x0 x1 ∧ (if x0 = -1 then up2 v 116 31 0 else if okWin n z x0 x1 then up2 (up2 (up2 v 134 z x0) 116 31 (nI (z + 1))) 135 z (if x0 = 1 then x1 else 0) else v, w) = u)) := by
  refine g_met (by decide) (Nat.le_of_ble_eq_true rfl) ?_
  intro gp ge gs gm ga gb gh gc X h ls hl
  have hx := X.1
  have hb := X.2.1
  have hl : lv_has ls 3 [(0, .ref (zg Z 116)), (1, .int x0), (2, .int x1)] := hl
  refine lv_iload_n hx hb dX8_winter_0 rfl (lv_at hl 1 rfl) ?_
  refine lv_iconst (v := (-1)) hx hb dX8_winter_1 (by decide) ?_
  refine lv_icmp_ne (tgt := 12) hx hb dX8_winter_2 (by decide) (fun c_2 => ?_) (fun c_2 => ?_)
  · skip
    refine lv_iload_n hx hb dX8_winter_12 rfl (lv_at hl 1 rfl) ?_
    refine lv_iconst (v := 0) hx hb dX8_winter_13 (by decide) ?_
    refine lv_iconst (v := 3) hx hb dX8_winter_14 (by decide) ?_
    refine g_ki h (g_runS X h (As := [.int x0, .int 0, .int 3]) (rest := []) (c_X8_within gl Z v w x0 0 3) ms_X8_within ml_RX8_114 ⟨Nat.le_of_ble_eq_true rfl, Nat.le_of_ble_eq_true rfl⟩ rfl hl.1 rfl (Nat.le_of_ble_eq_true rfl) dX8_winter_15) (fun r15 v15 w15 H locs hp15 h => ?_)
    obtain ⟨hr15, hu15⟩ := hp15; obtain ⟨rfl, rfl⟩ := Prod.mk.inj hu15
    refine lv_if_eq (tgt := 34) hx hb dX8_winter_18 (by decide) (fun c_18 => ?_) (fun c_18 => ?_)
    · skip
      rw [hr15, bI_0] at c_18
      refine lv_iconst (v := (-1)) hx hb dX8_winter_34 (by decide) ?_
      exact g_iret X h dX8_winter_35 ⟨by first | (simp [sWin, c_2, c_18]; done) | (simp only [sWin, if_neg c_2, c_18, c_31]; simp [c_23]; done), by rw [if_neg c_2, if_neg (by first | (simp [okWin, c_2, c_18]; done) | (simp only [okWin, c_18, c_31]; simp [c_23]; done))]⟩
    · skip
      rw [hr15, bI_n] at c_18
      refine lv_iload_n hx hb dX8_winter_21 rfl (lv_at hl 1 rfl) ?_
      refine lv_iconst (v := 1) hx hb dX8_winter_22 (by decide) ?_
      refine lv_icmp_ne (tgt := 36) hx hb dX8_winter_23 (by decide) (fun c_23 => ?_) (fun c_23 => ?_)
      · skip
        refine lv_aload_n hx hb dX8_winter_36 rfl (lv_at hl 0 rfl) ?_
        refine g_geti X h (k := 31) (cc_116) fr_RX8_308 rfl (by decide) dX8_winter_37 ?_
        refine lv_bipush (v := 10) hx hb dX8_winter_40 (by decide) ?_
        refine lv_icmp_ne (tgt := 48) hx hb dX8_winter_42 (by decide) (fun c_42 => ?_) (fun c_42 => ?_)
        · skip
          have hz7 : z < 10 := by
            rcases Nat.lt_or_ge z 10 with y | y
            · exact y
            · exact absurd (by rw [hz, show z = 10 by omega]; rfl) c_42
          refine lv_aload_n hx hb dX8_winter_48 rfl (lv_at hl 0 rfl) ?_
          refine g_getr X h (k := 32) (t := 134) (cc_116) fr_RX8_64 rfl (by decide) (by decide) (by decide) dX8_winter_49 ?_
          refine lv_aload_n hx hb dX8_winter_52 rfl (lv_at hl 0 rfl) ?_
          refine g_geti X h (k := 31) (cc_116) fr_RX8_308 rfl (by decide) dX8_winter_53 ?_
          refine lv_iload_n hx hb dX8_winter_56 rfl (lv_at hl 1 rfl) ?_
          refine g_iast X h (k := z) (cc_134) hz (by omega) (by decide) dX8_winter_57 (fun v57 H locs ev57 h => ?_)
          refine lv_aload_n hx hb dX8_winter_58 rfl (lv_at hl 0 rfl) ?_
          refine g_getr X h (k := 33) (t := 135) (cc_116) fr_RX8_67 rfl (by decide) (by decide) (by decide) dX8_winter_59 ?_
          refine lv_aload_n hx hb dX8_winter_62 rfl (lv_at hl 0 rfl) ?_
          refine lv_dup hx hb dX8_winter_63 rfl ?_
          refine g_geti X h (k := 31) (cc_116) fr_RX8_308 rfl (by decide) dX8_winter_64 ?_
          refine g_tr (y := (v 116 31)) (by simp [ev57, up2, upc]) ?_
          refine lv_dup_x1 hx hb dX8_winter_67 rfl rfl ?_
          refine lv_iconst (v := 1) hx hb dX8_winter_68 (by decide) ?_
          refine lv_iadd hx hb dX8_winter_69 ?_
          refine g_puti X h (k := 31) (cc_116) fp_RX8_308 rfl (by decide) dX8_winter_70 (fun v70 H locs ev70 h => ?_)
          refine lv_iload_n hx hb dX8_winter_73 rfl (lv_at hl 1 rfl) ?_
          refine lv_iconst (v := 1) hx hb dX8_winter_74 (by decide) ?_
          refine lv_icmp_ne (tgt := 82) hx hb dX8_winter_75 (by decide) (fun c_75 => ?_) (fun c_75 => ?_)
          · skip
            refine lv_iconst (v := 0) hx hb dX8_winter_82 (by decide) ?_
            refine g_iast X h (k := z) (cc_135) hz (by omega) (by decide) dX8_winter_83 (fun v83 H locs ev83 h => ?_)
            refine lv_aload_n hx hb dX8_winter_84 rfl (lv_at hl 0 rfl) ?_
            refine g_geti X h (k := 31) (cc_116) fr_RX8_308 rfl (by decide) dX8_winter_85 ?_
            refine g_tr (y := ((v 116 31) + 1)) (by simp [ev83, ev70, up2, upc]) ?_
            exact g_iret X h dX8_winter_88 ⟨by first | (simp only [sWin, if_neg c_2, c_18, c_31]; simp [c_23, hz7, hz, nI_1]; done) | (simp only [sWin, if_neg c_2, c_18]; simp [c_23, hz7, hz, nI_1]; done), by rw [if_neg c_2, if_pos (by first | (simp only [okWin, c_18, c_31]; simp [c_23, hz7]; done) | (simp only [okWin, c_18]; simp [c_23, hz7]; done)), ev83, ev70, ev57, hz, nI_1]; first | rw [if_pos c_75] | rw [if_neg c_75]⟩
          · skip
            refine lv_iload_n hx hb dX8_winter_78 rfl (lv_at hl 2 rfl) ?_
            refine lv_goto (tgt := 83) hx hb dX8_winter_79 (by decide) ?_
            refine g_iast X h (k := z) (cc_135) hz (by omega) (by decide) dX8_winter_83 (fun v83 H locs ev83 h => ?_)
            refine lv_aload_n hx hb dX8_winter_84 rfl (lv_at hl 0 rfl) ?_
            refine g_geti X h (k := 31) (cc_116) fr_RX8_308 rfl (by decide) dX8_winter_85 ?_
            refine g_tr (y := ((v 116 31) + 1)) (by simp [ev83, ev70, up2, upc]) ?_
            exact g_iret X h dX8_winter_88 ⟨by first | (simp only [sWin, if_neg c_2, c_18, c_31]; simp [c_23, hz7, hz, nI_1]; done) | (simp only [sWin, if_neg c_2, c_18]; simp [c_23, hz7, hz, nI_1]; done), by rw [if_neg c_2, if_pos (by first | (simp only [okWin, c_18, c_31]; simp [c_23, hz7]; done) | (simp only [okWin, c_18]; simp [c_23, hz7]; done)), ev83, ev70, ev57, hz, nI_1]; first | rw [if_pos c_75] | rw [if_neg c_75]⟩
        · skip
          have hz7 : z = 10 := nI_inj (by omega) (by omega) (hz.symm.trans c_42)
          refine lv_bipush (v := (-4)) hx hb dX8_winter_45 (by decide) ?_
          exact g_iret X h dX8_winter_47 ⟨by first | (simp only [sWin, if_neg c_2, c_18, c_31]; simp [c_23, hz7]; done) | (simp only [sWin, if_neg c_2, c_18]; simp [c_23, hz7]; done), by rw [if_neg c_2, if_neg (by simp [okWin, hz7])]⟩
      · skip
        refine lv_aload_n hx hb dX8_winter_26 rfl (lv_at hl 0 rfl) ?_
        refine lv_iload_n hx hb dX8_winter_27 rfl (lv_at hl 2 rfl) ?_
        refine g_ki h (g_runV X h (As := [.int x1]) (rest := []) (c_X8_isOne gl Z v w x1 n hn h6) mi_X8_isOne ml_RX8_118 (cc_116) (by decide) kl8 rfl ⟨Nat.le_of_ble_eq_true rfl, Nat.le_of_ble_eq_true rfl⟩ rfl hl.1 rfl (Nat.le_of_ble_eq_true rfl) dX8_winter_28) (fun r28 v28 w28 H locs hp28 h => ?_)
        obtain ⟨hr28, hu28⟩ := hp28; obtain ⟨rfl, rfl⟩ := Prod.mk.inj hu28
        refine lv_if_ne (tgt := 36) hx hb dX8_winter_31 (by decide) (fun c_31 => ?_) (fun c_31 => ?_)
        · skip
          rw [hr28, bI_n] at c_31
          refine lv_aload_n hx hb dX8_winter_36 rfl (lv_at hl 0 rfl) ?_
          refine g_geti X h (k := 31) (cc_116) fr_RX8_308 rfl (by decide) dX8_winter_37 ?_
          refine lv_bipush (v := 10) hx hb dX8_winter_40 (by decide) ?_
          refine lv_icmp_ne (tgt := 48) hx hb dX8_winter_42 (by decide) (fun c_42 => ?_) (fun c_42 => ?_)
          · skip
            have hz7 : z < 10 := by
              rcases Nat.lt_or_ge z 10 with y | y
              · exact y
              · exact absurd (by rw [hz, show z = 10 by omega]; rfl) c_42
            refine lv_aload_n hx hb dX8_winter_48 rfl (lv_at hl 0 rfl) ?_
            refine g_getr X h (k := 32) (t := 134) (cc_116) fr_RX8_64 rfl (by decide) (by decide) (by decide) dX8_winter_49 ?_
            refine lv_aload_n hx hb dX8_winter_52 rfl (lv_at hl 0 rfl) ?_
            refine g_geti X h (k := 31) (cc_116) fr_RX8_308 rfl (by decide) dX8_winter_53 ?_
            refine lv_iload_n hx hb dX8_winter_56 rfl (lv_at hl 1 rfl) ?_
            refine g_iast X h (k := z) (cc_134) hz (by omega) (by decide) dX8_winter_57 (fun v57 H locs ev57 h => ?_)
            refine lv_aload_n hx hb dX8_winter_58 rfl (lv_at hl 0 rfl) ?_
            refine g_getr X h (k := 33) (t := 135) (cc_116) fr_RX8_67 rfl (by decide) (by decide) (by decide) dX8_winter_59 ?_
            refine lv_aload_n hx hb dX8_winter_62 rfl (lv_at hl 0 rfl) ?_
            refine lv_dup hx hb dX8_winter_63 rfl ?_
            refine g_geti X h (k := 31) (cc_116) fr_RX8_308 rfl (by decide) dX8_winter_64 ?_
            refine g_tr (y := (v 116 31)) (by simp [ev57, up2, upc]) ?_
            refine lv_dup_x1 hx hb dX8_winter_67 rfl rfl ?_
            refine lv_iconst (v := 1) hx hb dX8_winter_68 (by decide) ?_
            refine lv_iadd hx hb dX8_winter_69 ?_
            refine g_puti X h (k := 31) (cc_116) fp_RX8_308 rfl (by decide) dX8_winter_70 (fun v70 H locs ev70 h => ?_)
            refine lv_iload_n hx hb dX8_winter_73 rfl (lv_at hl 1 rfl) ?_
            refine lv_iconst (v := 1) hx hb dX8_winter_74 (by decide) ?_
            refine lv_icmp_ne (tgt := 82) hx hb dX8_winter_75 (by decide) (fun c_75 => ?_) (fun c_75 => ?_)
            · skip
              refine lv_iconst (v := 0) hx hb dX8_winter_82 (by decide) ?_
              refine g_iast X h (k := z) (cc_135) hz (by omega) (by decide) dX8_winter_83 (fun v83 H locs ev83 h => ?_)
              refine lv_aload_n hx hb dX8_winter_84 rfl (lv_at hl 0 rfl) ?_
              refine g_geti X h (k := 31) (cc_116) fr_RX8_308 rfl (by decide) dX8_winter_85 ?_
              refine g_tr (y := ((v 116 31) + 1)) (by simp [ev83, ev70, up2, upc]) ?_
              exact g_iret X h dX8_winter_88 ⟨by first | (simp only [sWin, if_neg c_2, c_18, c_31]; simp [c_23, hz7, hz, nI_1]; done) | (simp only [sWin, if_neg c_2, c_18]; simp [c_23, hz7, hz, nI_1]; done), by rw [if_neg c_2, if_pos (by first | (simp only [okWin, c_18, c_31]; simp [c_23, hz7]; done) | (simp only [okWin, c_18]; simp [c_23, hz7]; done)), ev83, ev70, ev57, hz, nI_1]; first | rw [if_pos c_75] | rw [if_neg c_75]⟩
            · skip
              refine lv_iload_n hx hb dX8_winter_78 rfl (lv_at hl 2 rfl) ?_
              refine lv_goto (tgt := 83) hx hb dX8_winter_79 (by decide) ?_
              refine g_iast X h (k := z) (cc_135) hz (by omega) (by decide) dX8_winter_83 (fun v83 H locs ev83 h => ?_)
              refine lv_aload_n hx hb dX8_winter_84 rfl (lv_at hl 0 rfl) ?_
              refine g_geti X h (k := 31) (cc_116) fr_RX8_308 rfl (by decide) dX8_winter_85 ?_
              refine g_tr (y := ((v 116 31) + 1)) (by simp [ev83, ev70, up2, upc]) ?_
              exact g_iret X h dX8_winter_88 ⟨by first | (simp only [sWin, if_neg c_2, c_18, c_31]; simp [c_23, hz7, hz, nI_1]; done) | (simp only [sWin, if_neg c_2, c_18]; simp [c_23, hz7, hz, nI_1]; done), by rw [if_neg c_2, if_pos (by first | (simp only [okWin, c_18, c_31]; simp [c_23, hz7]; done) | (simp only [okWin, c_18]; simp [c_23, hz7]; done)), ev83, ev70, ev57, hz, nI_1]; first | rw [if_pos c_75] | rw [if_neg c_75]⟩
          · skip
            have hz7 : z = 10 := nI_inj (by omega) (by omega) (hz.symm.trans c_42)
            refine lv_bipush (v := (-4)) hx hb dX8_winter_45 (by decide) ?_
            exact g_iret X h dX8_winter_47 ⟨by first | (simp only [sWin, if_neg c_2, c_18, c_31]; simp [c_23, hz7]; done) | (simp only [sWin, if_neg c_2, c_18]; simp [c_23, hz7]; done), by rw [if_neg c_2, if_neg (by simp [okWin, hz7])]⟩
        · skip
          rw [hr28, bI_0] at c_31
          refine lv_iconst (v := (-1)) hx hb dX8_winter_34 (by decide) ?_
          exact g_iret X h dX8_winter_35 ⟨by first | (simp [sWin, c_2, c_18, c_23, c_31]; done) | (simp only [sWin, if_neg c_2, c_18, c_31]; simp [c_23]; done), by rw [if_neg c_2, if_neg (by first | (simp [okWin, c_2, c_18, c_23, c_31]; done) | (simp only [okWin, c_18, c_31]; simp [c_23]; done))]⟩
  · skip
    refine lv_aload_n hx hb dX8_winter_5 rfl (lv_at hl 0 rfl) ?_
    refine lv_iconst (v := 0) hx hb dX8_winter_6 (by decide) ?_
    refine g_puti X h (k := 31) (cc_116) fp_RX8_308 rfl (by decide) dX8_winter_7 (fun v7 H locs ev7 h => ?_)
    refine lv_iconst (v := 0) hx hb dX8_winter_10 (by decide) ?_
    exact g_iret X h dX8_winter_11 ⟨by simp [sWin, c_2], by rw [if_pos c_2, ev7]⟩

set_option maxRecDepth 100000 in
set_option maxHeartbeats 1000000 in
theorem c_X8_book (gl : Launch) (Z : PL) (v : VV) (w : WV) (x0 : Int32) (x1 : Int32) (n : Nat) (hn : v 116 0 = nI n) (h6 : n ≤ 6) (z : Nat) (hz : v 116 34 = nI z) (hzm : z ≤ 8) : CT gl yX8_book cX8_book 3 (some .int) 2 43 Z [.ref (zg Z 116), .int x0, .int x1] v w (Qi Z (fun r u => r = sBook n z x0 x1 ∧ (if x0 = -1 then up2 v 116 34 0 else if okBook n z x0 x1 then up2 (up2 (up2 v 136 z x0) 116 34 (nI (z + 1))) 137 z x1 else v, w) = u)) := by
  refine g_met (by decide) (Nat.le_of_ble_eq_true rfl) ?_
  intro gp ge gs gm ga gb gh gc X h ls hl
  have hx := X.1
  have hb := X.2.1
  have hl : lv_has ls 3 [(0, .ref (zg Z 116)), (1, .int x0), (2, .int x1)] := hl
  refine lv_iload_n hx hb dX8_book_0 rfl (lv_at hl 1 rfl) ?_
  refine lv_iconst (v := (-1)) hx hb dX8_book_1 (by decide) ?_
  refine lv_icmp_ne (tgt := 12) hx hb dX8_book_2 (by decide) (fun c_2 => ?_) (fun c_2 => ?_)
  · skip
    refine lv_aload_n hx hb dX8_book_12 rfl (lv_at hl 0 rfl) ?_
    refine lv_iload_n hx hb dX8_book_13 rfl (lv_at hl 1 rfl) ?_
    refine g_ki h (g_runV X h (As := [.int x0]) (rest := []) (c_X8_isOne gl Z v w x0 n hn h6) mi_X8_isOne ml_RX8_118 (cc_116) (by decide) kl8 rfl ⟨Nat.le_of_ble_eq_true rfl, Nat.le_of_ble_eq_true rfl⟩ rfl hl.1 rfl (Nat.le_of_ble_eq_true rfl) dX8_book_14) (fun r14 v14 w14 H locs hp14 h => ?_)
    obtain ⟨hr14, hu14⟩ := hp14; obtain ⟨rfl, rfl⟩ := Prod.mk.inj hu14
    refine lv_if_ne (tgt := 22) hx hb dX8_book_17 (by decide) (fun c_17 => ?_) (fun c_17 => ?_)
    · skip
      rw [hr14, bI_n] at c_17
      refine lv_iload_n hx hb dX8_book_22 rfl (lv_at hl 2 rfl) ?_
      refine lv_iconst (v := 0) hx hb dX8_book_23 (by decide) ?_
      refine lv_sipush (v := 999) hx hb dX8_book_24 (by decide) ?_
      refine g_ki h (g_runS X h (As := [.int x1, .int 0, .int 999]) (rest := []) (c_X8_within gl Z v w x1 0 999) ms_X8_within ml_RX8_114 ⟨Nat.le_of_ble_eq_true rfl, Nat.le_of_ble_eq_true rfl⟩ rfl hl.1 rfl (Nat.le_of_ble_eq_true rfl) dX8_book_27) (fun r27 v27 w27 H locs hp27 h => ?_)
      obtain ⟨hr27, hu27⟩ := hp27; obtain ⟨rfl, rfl⟩ := Prod.mk.inj hu27
      refine lv_if_ne (tgt := 36) hx hb dX8_book_30 (by decide) (fun c_30 => ?_) (fun c_30 => ?_)
      · skip
        rw [hr27, bI_n] at c_30
        refine lv_aload_n hx hb dX8_book_36 rfl (lv_at hl 0 rfl) ?_
        refine g_geti X h (k := 34) (cc_116) fr_RX8_311 rfl (by decide) dX8_book_37 ?_
        refine lv_bipush (v := 8) hx hb dX8_book_40 (by decide) ?_
        refine lv_icmp_ne (tgt := 48) hx hb dX8_book_42 (by decide) (fun c_42 => ?_) (fun c_42 => ?_)
        · skip
          have hz7 : z < 8 := by
            rcases Nat.lt_or_ge z 8 with y | y
            · exact y
            · exact absurd (by rw [hz, show z = 8 by omega]; rfl) c_42
          refine lv_aload_n hx hb dX8_book_48 rfl (lv_at hl 0 rfl) ?_
          refine g_getr X h (k := 35) (t := 136) (cc_116) fr_RX8_70 rfl (by decide) (by decide) (by decide) dX8_book_49 ?_
          refine lv_aload_n hx hb dX8_book_52 rfl (lv_at hl 0 rfl) ?_
          refine g_geti X h (k := 34) (cc_116) fr_RX8_311 rfl (by decide) dX8_book_53 ?_
          refine lv_iload_n hx hb dX8_book_56 rfl (lv_at hl 1 rfl) ?_
          refine g_iast X h (k := z) (cc_136) hz (by omega) (by decide) dX8_book_57 (fun v57 H locs ev57 h => ?_)
          refine lv_aload_n hx hb dX8_book_58 rfl (lv_at hl 0 rfl) ?_
          refine g_getr X h (k := 36) (t := 137) (cc_116) fr_RX8_73 rfl (by decide) (by decide) (by decide) dX8_book_59 ?_
          refine lv_aload_n hx hb dX8_book_62 rfl (lv_at hl 0 rfl) ?_
          refine lv_dup hx hb dX8_book_63 rfl ?_
          refine g_geti X h (k := 34) (cc_116) fr_RX8_311 rfl (by decide) dX8_book_64 ?_
          refine g_tr (y := (v 116 34)) (by simp [ev57, up2, upc]) ?_
          refine lv_dup_x1 hx hb dX8_book_67 rfl rfl ?_
          refine lv_iconst (v := 1) hx hb dX8_book_68 (by decide) ?_
          refine lv_iadd hx hb dX8_book_69 ?_
          refine g_puti X h (k := 34) (cc_116) fp_RX8_311 rfl (by decide) dX8_book_70 (fun v70 H locs ev70 h => ?_)
          refine lv_iload_n hx hb dX8_book_73 rfl (lv_at hl 2 rfl) ?_
          refine g_iast X h (k := z) (cc_137) hz (by omega) (by decide) dX8_book_74 (fun v74 H locs ev74 h => ?_)
          refine lv_aload_n hx hb dX8_book_75 rfl (lv_at hl 0 rfl) ?_
          refine g_geti X h (k := 34) (cc_116) fr_RX8_311 rfl (by decide) dX8_book_76 ?_
          refine g_tr (y := ((v 116 34) + 1)) (by simp [ev74, ev70, up2, upc]) ?_
          exact g_iret X h dX8_book_79 ⟨by simp [sBook, c_2, c_17, c_30, c_42, hz7, hz, nI_1], by rw [if_neg c_2, if_pos (by simp [okBook, c_2, c_17, c_30, c_42, hz7]), ev74, ev70, ev57, hz, nI_1]⟩
        · skip
          have hz7 : z = 8 := nI_inj (by omega) (by omega) (hz.symm.trans c_42)
          refine lv_bipush (v := (-4)) hx hb dX8_book_45 (by decide) ?_
          exact g_iret X h dX8_book_47 ⟨by simp [sBook, c_2, c_17, c_30, c_42, hz7], by rw [if_neg c_2, if_neg (by simp [okBook, c_2, c_17, c_30, c_42, hz7])]⟩
      · skip
        rw [hr27, bI_0] at c_30
        refine lv_bipush (v := (-2)) hx hb dX8_book_33 (by decide) ?_
        exact g_iret X h dX8_book_35 ⟨by simp [sBook, c_2, c_17, c_30], by rw [if_neg c_2, if_neg (by simp [okBook, c_2, c_17, c_30])]⟩
    · skip
      rw [hr14, bI_0] at c_17
      refine lv_iconst (v := (-1)) hx hb dX8_book_20 (by decide) ?_
      exact g_iret X h dX8_book_21 ⟨by simp [sBook, c_2, c_17], by rw [if_neg c_2, if_neg (by simp [okBook, c_2, c_17])]⟩
  · skip
    refine lv_aload_n hx hb dX8_book_5 rfl (lv_at hl 0 rfl) ?_
    refine lv_iconst (v := 0) hx hb dX8_book_6 (by decide) ?_
    refine g_puti X h (k := 34) (cc_116) fp_RX8_311 rfl (by decide) dX8_book_7 (fun v7 H locs ev7 h => ?_)
    refine lv_iconst (v := 0) hx hb dX8_book_10 (by decide) ?_
    exact g_iret X h dX8_book_11 ⟨by simp [sBook, c_2], by rw [if_pos c_2, ev7]⟩

set_option maxRecDepth 100000 in
set_option maxHeartbeats 1000000 in
theorem c_X8_looked (gl : Launch) (Z : PL) (v : VV) (w : WV) (z : Nat) (hz : v 116 34 = nI z) (hzm : z ≤ 8) (hbk : ∀ i, i < z → ∃ p, p < 6 ∧ v 136 i = nI p) : CT gl yX8_looked cX8_looked 2 (some .int) 0 0 Z [.ref (zg Z 116)] v w (Qi Z (fun r u => r = lookF (v 119) (v 136) (v 137) z 0 ∧ (v, w) = u)) := by
  refine g_met (by decide) (Nat.le_of_ble_eq_true rfl) ?_
  intro gp ge gs gm ga gb gh gc X h ls hl
  have hx := X.1
  have hb := X.2.1
  have hl : lv_has ls 2 [(0, .ref (zg Z 116))] := hl
  refine lv_iconst (v := 0) hx hb dX8_looked_0 (by decide) ?_
  refine lv_istore_n (lv' := [(1, .int 0), (0, .ref (zg Z 116))]) hx hb dX8_looked_1 rfl hl (by decide) rfl (fun ls hl => ?_)
  have L2 : ∀ (n2 : Nat) (i : Nat) (x1 : Int32), (x1 = nI i) → (i ≤ z) → (lookF (v 119) (v 136) (v 137) z 0 = lookF (v 119) (v 136) (v 137) (z - i) i) → z - i < n2 → ∀ (H : Heap) (locs : List Loc), HS Z gs v w H locs → ∀ ls : Array Slot, lv_has ls 2 [(0, .ref (zg Z 116)), (1, .int x1)] → W gp gl ge (rmm 0 0) gs gm ga gb gh gc H locs 0 0 (MQ gb (Qi Z (fun r u => r = lookF (v 119) (v 136) (v 137) z 0 ∧ (v, w) = u)) ga gs 0 0 (zA Z)) (F0 gm 2 ls []) := by
    intro n2
    induction n2 with
    | zero => intro i x1 hi1 hi hlk hmu; exact absurd hmu (Nat.not_lt_zero _)
    | succ n2 ih2 =>
      intro i x1 hi1 hi hlk hmu2 H locs h ls hl
      refine lv_iload_n hx hb dX8_looked_2 rfl (lv_at hl 1 rfl) ?_
      refine lv_aload_n hx hb dX8_looked_3 rfl (lv_at hl 0 rfl) ?_
      refine g_geti X h (k := 34) (cc_116) fr_RX8_311 rfl (by decide) dX8_looked_4 ?_
      refine lv_icmp_ge (tgt := 38) hx hb dX8_looked_7 (by decide) (fun c_7 => ?_) (fun c_7 => ?_)
      · skip
        have hil := nI_le1 (a := z) (b := i) hz hi1 (by omega) (by omega) c_7
        refine lv_bipush (v := (-5)) hx hb dX8_looked_38 (by decide) ?_
        exact g_iret X h dX8_looked_40 ⟨by rw [hlk, show z - i = 0 by omega]; rfl, rfl⟩
      · skip
        have hil := nI_le0 (a := z) (b := i) hz hi1 (by omega) (by omega) c_7
        obtain ⟨pp, hp6, hpc⟩ := hbk i hil
        refine lv_aload_n hx hb dX8_looked_10 rfl (lv_at hl 0 rfl) ?_
        refine g_getr X h (k := 3) (t := 119) (cc_116) fr_RX8_18 rfl (by decide) (by decide) (by decide) dX8_looked_11 ?_
        refine lv_aload_n hx hb dX8_looked_14 rfl (lv_at hl 0 rfl) ?_
        refine g_getr X h (k := 35) (t := 136) (cc_116) fr_RX8_70 rfl (by decide) (by decide) (by decide) dX8_looked_15 ?_
        refine lv_iload_n hx hb dX8_looked_18 rfl (lv_at hl 1 rfl) ?_
        refine g_iald X h (k := i) (cc_136) hi1 (by omega) (by decide) dX8_looked_19 ?_
        refine g_iald X h (k := pp) (cc_119) hpc (by omega) (by decide) dX8_looked_20 ?_
        refine lv_aload_n hx hb dX8_looked_21 rfl (lv_at hl 0 rfl) ?_
        refine g_getr X h (k := 36) (t := 137) (cc_116) fr_RX8_73 rfl (by decide) (by decide) (by decide) dX8_looked_22 ?_
        refine lv_iload_n hx hb dX8_looked_25 rfl (lv_at hl 1 rfl) ?_
        refine g_iald X h (k := i) (cc_137) hi1 (by omega) (by decide) dX8_looked_26 ?_
        refine lv_icmp_eq (tgt := 32) hx hb dX8_looked_27 (by decide) (fun c_27 => ?_) (fun c_27 => ?_)
        · skip
          refine lv_iinc (v := (x1 + 1)) (lv' := [(1, .int (x1 + 1)), (0, .ref (zg Z 116))]) hx hb dX8_looked_32 hl (k := 1) rfl rfl (by decide) rfl (fun ls hl => ?_)
          refine lv_goto (tgt := 2) hx hb dX8_looked_35 (by decide) ?_
          exact ih2 (i + 1) (x1 + 1) (by rw [hi1]; exact nI_1 _) (by omega) (by rw [hlk, show z - i = (z - (i + 1)) + 1 by omega, lookF, hpc, nI_clamp (by omega), if_pos c_27]) (by omega) _ _ h ls (lv_sub hl [1, 0] rfl)
        · skip
          refine lv_iload_n hx hb dX8_looked_30 rfl (lv_at hl 1 rfl) ?_
          exact g_iret X h dX8_looked_31 ⟨by rw [hlk, show z - i = (z - (i + 1)) + 1 by omega, lookF, hpc, nI_clamp (by omega), if_neg c_27, hi1], rfl⟩
  exact L2 (z - 0 + 1) 0 0 rfl (Nat.zero_le _) rfl (Nat.lt_succ_self _) _ _ h ls (lv_sub hl [1, 0] rfl)

set_option maxRecDepth 100000 in
set_option maxHeartbeats 1000000 in
theorem c_X8_isSeen (gl : Launch) (Z : PL) (v : VV) (w : WV) (n : Nat) (B : Nat) (L : LND) (hd : DM v n B L) (z : Nat) (hz : v 116 28 = nI z) (hzm : z ≤ 5) (hsd : ∀ i, i < z → ∃ d, d ≤ 20 ∧ v 133 i = nI d) (hB20 : B + 20 < 1000000) : CT gl yX8_isSeen cX8_isSeen 2 (some .boolean) 10 226 Z [.ref (zg Z 116)] v w (Qi Z (fun r u => r = bI (seenS (xM v n L) L n (v 132) (v 133) z) ∧ (u.1, w) = u ∧ scM v u.1)) := by
  refine g_met (by decide) (Nat.le_of_ble_eq_true rfl) ?_
  intro gp ge gs gm ga gb gh gc X h ls hl
  have hx := X.1
  have hb := X.2.1
  have hl : lv_has ls 2 [(0, .ref (zg Z 116))] := hl
  obtain ⟨hn, h6, hwf, hcur, hrx, hB⟩ := id hd
  refine lv_iconst (v := 0) hx hb dX8_isSeen_0 (by decide) ?_
  refine lv_istore_n (lv' := [(1, .int 0), (0, .ref (zg Z 116))]) hx hb dX8_isSeen_1 rfl hl (by decide) rfl (fun ls hl => ?_)
  have L2 : ∀ (n2 : Nat) (i : Nat) (x1 : Int32) (va : VV), (x1 = nI i) → (i ≤ z) → (seenS (xM v n L) L n (v 132) (v 133) i = true) → (scM v va) → z - i < n2 → ∀ (H : Heap) (locs : List Loc), HS Z gs va w H locs → ∀ ls : Array Slot, lv_has ls 2 [(0, .ref (zg Z 116)), (1, .int x1)] → W gp gl ge (rmm 10 226) gs gm ga gb gh gc H locs 0 0 (MQ gb (Qi Z (fun r u => r = bI (seenS (xM v n L) L n (v 132) (v 133) z) ∧ (u.1, w) = u ∧ scM v u.1)) ga gs 0 0 (zA Z)) (F0 gm 2 ls []) := by
    intro n2
    induction n2 with
    | zero => intro i x1 va hi1 hi hse hsa hmu; exact absurd hmu (Nat.not_lt_zero _)
    | succ n2 ih2 =>
      intro i x1 va hi1 hi hse hsa hmu2 H locs h ls hl
      refine lv_iload_n hx hb dX8_isSeen_2 rfl (lv_at hl 1 rfl) ?_
      refine lv_aload_n hx hb dX8_isSeen_3 rfl (lv_at hl 0 rfl) ?_
      refine g_geti X h (k := 28) (cc_116) fr_RX8_296 rfl (by decide) dX8_isSeen_4 ?_
      refine g_tr (y := (v 116 28)) (by simp [(scM.at hsa), up2, upc]) ?_
      refine lv_icmp_ge (tgt := 37) hx hb dX8_isSeen_7 (by decide) (fun c_7 => ?_) (fun c_7 => ?_)
      · skip
        have hil := nI_le1 (a := z) (b := i) hz hi1 (by omega) (by omega) c_7
        refine lv_iconst (v := 1) hx hb dX8_isSeen_37 (by decide) ?_
        exact g_nret X h dX8_isSeen_38 rfl ⟨by rw [show z = i by omega, hse]; rfl, rfl, hsa⟩
      · skip
        have hil := nI_le0 (a := z) (b := i) hz hi1 (by omega) (by omega) c_7
        obtain ⟨dd, hd20, hdd⟩ := hsd i hil
        refine lv_aload_n hx hb dX8_isSeen_10 rfl (lv_at hl 0 rfl) ?_
        refine lv_aload_n hx hb dX8_isSeen_11 rfl (lv_at hl 0 rfl) ?_
        refine g_getr X h (k := 30) (t := 133) (cc_116) fr_RX8_61 rfl (by decide) (by decide) (by decide) dX8_isSeen_12 ?_
        refine lv_iload_n hx hb dX8_isSeen_15 rfl (lv_at hl 1 rfl) ?_
        refine g_iald X h (k := i) (cc_133) hi1 (by omega) (by decide) dX8_isSeen_16 ?_
        refine g_tr (y := (v 133 i)) (by simp [(scM.at hsa), up2, upc]) ?_
        refine g_ki h (g_runV X h (As := [.int (v 133 i)]) (rest := []) (c_X8_healthOn gl Z va w (v 133 i) dd hdd n B L (hsa.DM hd) (by omega)) mi_X8_healthOn ml_RX8_283 (cc_116) (by decide) kl8 rfl ⟨Nat.le_of_ble_eq_true rfl, Nat.le_of_ble_eq_true rfl⟩ rfl hl.1 rfl (Nat.le_of_ble_eq_true rfl) dX8_isSeen_17) (fun r17 v17 w17 H locs hp17 h => ?_)
        obtain ⟨hr17, hw17, hsc17⟩ := hp17
        obtain ⟨-, rfl⟩ := Prod.mk.inj hw17
        replace hsc17 : scM _ v17 := hsc17
        rw [hsa.xM] at hr17
        refine lv_aload_n hx hb dX8_isSeen_20 rfl (lv_at hl 0 rfl) ?_
        refine g_getr X h (k := 29) (t := 132) (cc_116) fr_RX8_58 rfl (by decide) (by decide) (by decide) dX8_isSeen_21 ?_
        refine lv_iload_n hx hb dX8_isSeen_24 rfl (lv_at hl 1 rfl) ?_
        refine g_iald X h (k := i) (cc_132) hi1 (by omega) (by decide) dX8_isSeen_25 ?_
        refine g_tr (y := (v 132 i)) (by simp [(scM.at hsc17), (scM.at hsa), up2, upc]) ?_
        refine lv_icmp_eq (tgt := 31) hx hb dX8_isSeen_26 (by decide) (fun c_26 => ?_) (fun c_26 => ?_)
        · skip
          refine lv_iinc (v := (x1 + 1)) (lv' := [(1, .int (x1 + 1)), (0, .ref (zg Z 116))]) hx hb dX8_isSeen_31 hl (k := 1) rfl rfl (by decide) rfl (fun ls hl => ?_)
          refine lv_goto (tgt := 2) hx hb dX8_isSeen_34 (by decide) ?_
          exact ih2 (i + 1) (x1 + 1) v17 (by rw [hi1]; exact nI_1 _) (by omega) (by rw [seenS, hse, hdd, nI_clamp (by omega), ← hr17]; exact decide_eq_true c_26) (scM_trans hsa hsc17) (by omega) _ _ h ls (lv_sub hl [1, 0] rfl)
        · skip
          refine lv_iconst (v := 0) hx hb dX8_isSeen_29 (by decide) ?_
          exact g_nret X h dX8_isSeen_30 rfl ⟨(congrArg bI (seenS_f (i := i + 1) (by rw [seenS, hse, hdd, nI_clamp (by omega), ← hr17]; exact decide_eq_false c_26) z (by omega))).symm, rfl, scM_trans hsa hsc17⟩
  exact L2 (z - 0 + 1) 0 0 v rfl (Nat.zero_le _) rfl (scM_refl v) (Nat.lt_succ_self _) _ _ h ls (lv_sub hl [1, 0] rfl)

set_option maxRecDepth 100000 in
set_option maxHeartbeats 1000000 in
theorem c_X8_was (gl : Launch) (Z : PL) (v : VV) (w : WV) (x0 : Int32) (x1 : Int32) (n : Nat) (B : Nat) (L : LND) (hd : DM v n B L) (z : Nat) (hz : v 116 28 = nI z) (hzm : z ≤ 5) (hsd : ∀ i, i < z → ∃ d, d ≤ 20 ∧ v 133 i = nI d) (hB20 : B + 20 < 1000000) : CT gl yX8_was cX8_was 7 (some .int) 11 247 Z [.ref (zg Z 116), .int x0, .int x1] v w (Qi Z (fun r u => r = sWas (xM v n L) L n (v 132) (v 133) z x0 x1 ∧ (u.1, w) = u ∧ scM v u.1)) := by
  refine g_met (by decide) (Nat.le_of_ble_eq_true rfl) ?_
  intro gp ge gs gm ga gb gh gc X h ls hl
  have hx := X.1
  have hb := X.2.1
  have hl : lv_has ls 7 [(0, .ref (zg Z 116)), (1, .int x0), (2, .int x1)] := hl
  obtain ⟨hn, h6, hwf, hcur, hrx, hB⟩ := id hd
  refine lv_aload_n hx hb dX8_was_0 rfl (lv_at hl 0 rfl) ?_
  refine lv_iload_n hx hb dX8_was_1 rfl (lv_at hl 1 rfl) ?_
  refine g_ki h (g_runV X h (As := [.int x0]) (rest := []) (c_X8_isOne gl Z v w x0 n hn h6) mi_X8_isOne ml_RX8_118 (cc_116) (by decide) kl8 rfl ⟨Nat.le_of_ble_eq_true rfl, Nat.le_of_ble_eq_true rfl⟩ rfl hl.1 rfl (Nat.le_of_ble_eq_true rfl) dX8_was_2) (fun r2 v2 w2 H locs hp2 h => ?_)
  obtain ⟨hr2, hu2⟩ := hp2; obtain ⟨rfl, rfl⟩ := Prod.mk.inj hu2
  refine lv_if_eq (tgt := 17) hx hb dX8_was_5 (by decide) (fun c_5 => ?_) (fun c_5 => ?_)
  · skip
    rw [hr2, bI_0] at c_5
    refine lv_iconst (v := (-1)) hx hb dX8_was_17 (by decide) ?_
    exact g_iret X h dX8_was_18 ⟨by simp [sWas, c_5], rfl, scM_refl v⟩
  · skip
    rw [hr2, bI_n] at c_5
    obtain ⟨p, hp, hpn, hpc⟩ := isP_nat (by omega) c_5
    refine lv_iload_n hx hb dX8_was_8 rfl (lv_at hl 2 rfl) ?_
    refine lv_iconst (v := 0) hx hb dX8_was_9 (by decide) ?_
    refine lv_iconst (v := 1) hx hb dX8_was_10 (by decide) ?_
    refine g_ki h (g_runS X h (As := [.int x1, .int 0, .int 1]) (rest := []) (c_X8_within gl Z v w x1 0 1) ms_X8_within ml_RX8_114 ⟨Nat.le_of_ble_eq_true rfl, Nat.le_of_ble_eq_true rfl⟩ rfl hl.1 rfl (Nat.le_of_ble_eq_true rfl) dX8_was_11) (fun r11 v11 w11 H locs hp11 h => ?_)
    obtain ⟨hr11, hu11⟩ := hp11; obtain ⟨rfl, rfl⟩ := Prod.mk.inj hu11
    refine lv_if_ne (tgt := 19) hx hb dX8_was_14 (by decide) (fun c_14 => ?_) (fun c_14 => ?_)
    · skip
      rw [hr11, bI_n] at c_14
      refine lv_aload_n hx hb dX8_was_19 rfl (lv_at hl 0 rfl) ?_
      refine g_getr X h (k := 3) (t := 119) (cc_116) fr_RX8_18 rfl (by decide) (by decide) (by decide) dX8_was_20 ?_
      refine lv_iload_n hx hb dX8_was_23 rfl (lv_at hl 1 rfl) ?_
      refine g_iald X h (k := p) (cc_119) hp (by omega) (by decide) dX8_was_24 ?_
      refine lv_topi (fun x3_25 ex3_25 => ?_)
      refine lv_istore_n (lv' := [(3, .int x3_25), (0, .ref (zg Z 116)), (1, .int x0), (2, .int x1)]) hx hb dX8_was_25 rfl hl (by decide) rfl (fun ls hl => ?_)
      refine lv_iconst (v := 0) hx hb dX8_was_26 (by decide) ?_
      refine lv_istore (lv' := [(4, .int 0), (3, .int x3_25), (0, .ref (zg Z 116)), (1, .int x0), (2, .int x1)]) hx hb dX8_was_27 hl (by decide) rfl (fun ls hl => ?_)
      refine lv_bipush (v := (-5)) hx hb dX8_was_29 (by decide) ?_
      refine lv_istore (lv' := [(5, .int (-5)), (4, .int 0), (3, .int x3_25), (0, .ref (zg Z 116)), (1, .int x0), (2, .int x1)]) hx hb dX8_was_31 hl (by decide) rfl (fun ls hl => ?_)
      refine lv_bipush (v := 40) hx hb dX8_was_33 (by decide) ?_
      refine lv_istore (lv' := [(6, .int 40), (5, .int (-5)), (4, .int 0), (3, .int x3_25), (0, .ref (zg Z 116)), (1, .int x0), (2, .int x1)]) hx hb dX8_was_35 hl (by decide) rfl (fun ls hl => ?_)
      have L37 : ∀ (n37 : Nat) (j : Nat) (x4 x5 x6 : Int32) (va : VV), (x6 = dn 40 j) → (j ≤ 41) → (x4 = cntD (wasP (xM v n L) L n (v 132) (v 133) z p) 40 j) → (x5 = minD (wasP (xM v n L) L n (v 132) (v 133) z p) 40 j) → (scM v (up2 va 119 p (v 119 p))) → 41 - j < n37 → ∀ (H : Heap) (locs : List Loc), HS Z gs va w H locs → ∀ ls : Array Slot, lv_has ls 7 [(0, .ref (zg Z 116)), (1, .int x0), (2, .int x1), (3, .int x3_25), (4, .int x4), (5, .int x5), (6, .int x6)] → W gp gl ge (rmm 11 247) gs gm ga gb gh gc H locs 0 0 (MQ gb (Qi Z (fun r u => r = sWas (xM v n L) L n (v 132) (v 133) z x0 x1 ∧ (u.1, w) = u ∧ scM v u.1)) ga gs 0 0 (zA Z)) (F0 gm 37 ls []) := by
        intro n37
        induction n37 with
        | zero => intro j x4 x5 x6 va hx6 hj hx4 hx5 hsa hmu; exact absurd hmu (Nat.not_lt_zero _)
        | succ n37 ih37 =>
          intro j x4 x5 x6 va hx6 hj hx4 hx5 hsa hmu37 H locs h ls hl
          refine lv_iload hx hb dX8_was_37 (lv_at hl 6 rfl) ?_
          refine lv_if_lt (tgt := 73) hx hb dX8_was_39 (by decide) (fun c_39 => ?_) (fun c_39 => ?_)
          · skip
            have hji : 40 < j := dn_neg (by omega) (hx6 ▸ c_39)
            refine lv_aload_n hx hb dX8_was_73 rfl (lv_at hl 0 rfl) ?_
            refine g_getr X h (k := 3) (t := 119) (cc_116) fr_RX8_18 rfl (by decide) (by decide) (by decide) dX8_was_74 ?_
            refine lv_iload_n hx hb dX8_was_77 rfl (lv_at hl 1 rfl) ?_
            refine lv_iload_n hx hb dX8_was_78 rfl (lv_at hl 3 rfl) ?_
            refine g_iast X h (k := p) (cc_119) hp (by omega) (by decide) dX8_was_79 (fun v79 H locs ev79 h => ?_)
            refine lv_iload_n hx hb dX8_was_80 rfl (lv_at hl 2 rfl) ?_
            refine lv_if_ne (tgt := 89) hx hb dX8_was_81 (by decide) (fun c_81 => ?_) (fun c_81 => ?_)
            · skip
              refine lv_iload hx hb dX8_was_89 (lv_at hl 5 rfl) ?_
              exact g_iret X h dX8_was_91 (by have e : j = 41 := (by omega); subst e; exact ⟨by simp only [sWas, c_5, c_14, Bool.and_self, if_true, hpc]; first | (rw [if_pos c_81]; exact hx4) | (rw [if_neg c_81]; exact hx5), rfl, by show scM v v79; rw [ev79, ex3_25]; exact hsa⟩)
            · skip
              refine lv_iload hx hb dX8_was_84 (lv_at hl 4 rfl) ?_
              refine lv_goto (tgt := 91) hx hb dX8_was_86 (by decide) ?_
              exact g_iret X h dX8_was_91 (by have e : j = 41 := (by omega); subst e; exact ⟨by simp only [sWas, c_5, c_14, Bool.and_self, if_true, hpc]; first | (rw [if_pos c_81]; exact hx4) | (rw [if_neg c_81]; exact hx5), rfl, by show scM v v79; rw [ev79, ex3_25]; exact hsa⟩)
          · skip
            have hji : j ≤ 40 := dn_pos (hx6 ▸ c_39)
            rw [dn_at hji] at hx6
            refine lv_aload_n hx hb dX8_was_42 rfl (lv_at hl 0 rfl) ?_
            refine g_getr X h (k := 3) (t := 119) (cc_116) fr_RX8_18 rfl (by decide) (by decide) (by decide) dX8_was_43 ?_
            refine lv_iload_n hx hb dX8_was_46 rfl (lv_at hl 1 rfl) ?_
            refine lv_iload hx hb dX8_was_47 (lv_at hl 6 rfl) ?_
            refine g_iast X h (k := p) (cc_119) hp (by omega) (by decide) dX8_was_49 (fun v49 H locs ev49 h => ?_)
            refine lv_aload_n hx hb dX8_was_50 rfl (lv_at hl 0 rfl) ?_
            refine g_ki h (g_runV X h (As := []) (rest := []) (c_X8_isSeen gl Z v49 w n B L ((by rw [ev49, hx6]; exact sc_at hsa (nI (40 - j)) : scM (up2 v 119 p (nI (40 - j))) v49).DM (DM_th hd (by omega) (by omega))) z (by rw [(by rw [ev49, hx6]; exact sc_at hsa (nI (40 - j)) : scM (up2 v 119 p (nI (40 - j))) v49).at 116 (by decide) (by decide), up2_ne (by decide)]; exact hz) hzm (by rw [(by rw [ev49, hx6]; exact sc_at hsa (nI (40 - j)) : scM (up2 v 119 p (nI (40 - j))) v49).at 133 (by decide) (by decide), up2_ne (by decide)]; exact hsd) (by first | assumption | omega)) mi_X8_isSeen ml_RX8_299 (cc_116) (by decide) kl8 rfl ⟨Nat.le_of_ble_eq_true rfl, Nat.le_of_ble_eq_true rfl⟩ rfl hl.1 rfl (Nat.le_of_ble_eq_true rfl) dX8_was_51) (fun r51 v51 w51 H locs hp51 h => ?_)
            obtain ⟨hr51, hw51, hsc51⟩ := hp51
            obtain ⟨-, rfl⟩ := Prod.mk.inj hw51
            replace hsc51 : scM _ v51 := hsc51
            rw [(by rw [ev49, hx6]; exact sc_at hsa (nI (40 - j)) : scM (up2 v 119 p (nI (40 - j))) v49).xM, xM_up_th (by omega), (by rw [ev49, hx6]; exact sc_at hsa (nI (40 - j)) : scM (up2 v 119 p (nI (40 - j))) v49).at 132 (by decide) (by decide), (by rw [ev49, hx6]; exact sc_at hsa (nI (40 - j)) : scM (up2 v 119 p (nI (40 - j))) v49).at 133 (by decide) (by decide), up2_ne (by decide), up2_ne (by decide)] at hr51
            replace hr51 : r51 = bI (wasP (xM v n L) L n (v 132) (v 133) z p (40 - j)) := hr51
            refine lv_if_ne (tgt := 60) hx hb dX8_was_54 (by decide) (fun c_54 => ?_) (fun c_54 => ?_)
            · skip
              rw [hr51, bI_n] at c_54
              refine lv_iinc (v := (x4 + 1)) (lv' := [(4, .int (x4 + 1)), (0, .ref (zg Z 116)), (1, .int x0), (2, .int x1), (3, .int x3_25), (5, .int x5), (6, .int x6)]) hx hb dX8_was_60 hl (k := 4) rfl rfl (by decide) rfl (fun ls hl => ?_)
              refine lv_iload hx hb dX8_was_63 (lv_at hl 6 rfl) ?_
              refine lv_istore (lv' := [(5, .int x6), (4, .int (x4 + 1)), (0, .ref (zg Z 116)), (1, .int x0), (2, .int x1), (3, .int x3_25), (6, .int x6)]) hx hb dX8_was_65 hl (by decide) rfl (fun ls hl => ?_)
              refine lv_iinc (v := (x6 + (-1))) (lv' := [(6, .int (x6 + (-1))), (5, .int x6), (4, .int (x4 + 1)), (0, .ref (zg Z 116)), (1, .int x0), (2, .int x1), (3, .int x3_25)]) hx hb dX8_was_67 hl (k := 6) rfl rfl (by decide) rfl (fun ls hl => ?_)
              refine lv_goto (tgt := 37) hx hb dX8_was_70 (by decide) ?_
              exact ih37 (j + 1) (x4 + 1) x6 (x6 + (-1)) v51 (by rw [hx6, ← dn_at hji]; exact dn_s hji (by omega)) (by omega) (by rw [cntD, if_pos c_54, hx4]) (by rw [minD, if_pos c_54]; exact hx6) (sc_back hsa ev49 hsc51) (by omega) _ _ h ls (lv_sub hl [3, 4, 5, 6, 2, 1, 0] rfl)
            · skip
              rw [hr51, bI_0] at c_54
              refine lv_goto (tgt := 67) hx hb dX8_was_57 (by decide) ?_
              refine lv_iinc (v := (x6 + (-1))) (lv' := [(6, .int (x6 + (-1))), (0, .ref (zg Z 116)), (1, .int x0), (2, .int x1), (3, .int x3_25), (4, .int x4), (5, .int x5)]) hx hb dX8_was_67 hl (k := 6) rfl rfl (by decide) rfl (fun ls hl => ?_)
              refine lv_goto (tgt := 37) hx hb dX8_was_70 (by decide) ?_
              exact ih37 (j + 1) x4 x5 (x6 + (-1)) v51 (by rw [hx6, ← dn_at hji]; exact dn_s hji (by omega)) (by omega) (by rw [cntD, if_neg (fun q => by rw [q] at c_54; cases c_54)]; exact hx4) (by rw [minD, if_neg (fun q => by rw [q] at c_54; cases c_54)]; exact hx5) (sc_back hsa ev49 hsc51) (by omega) _ _ h ls (lv_sub hl [1, 2, 3, 4, 5, 6, 0] rfl)
      exact L37 (41 - 0 + 1) 0 0 (-5) 40 v (by rw [dn_0]; rfl) (by omega) rfl rfl sc_0 (Nat.lt_succ_self _) _ _ h ls (lv_sub hl [4, 5, 6, 3, 2, 1, 0] rfl)
    · skip
      rw [hr11, bI_0] at c_14
      refine lv_iconst (v := (-1)) hx hb dX8_was_17 (by decide) ?_
      exact g_iret X h dX8_was_18 ⟨by simp [sWas, c_5, c_14], rfl, scM_refl v⟩

set_option maxRecDepth 100000 in
set_option maxHeartbeats 1000000 in
theorem c_X8_can (gl : Launch) (Z : PL) (v : VV) (w : WV) (x0 : Int32) (x1 : Int32) (n : Nat) (B : Nat) (L : LND) (hd : DM v n B L) (z : Nat) (hz : v 116 28 = nI z) (hzm : z ≤ 5) (hsd : ∀ i, i < z → ∃ d, d ≤ 20 ∧ v 133 i = nI d) (hB20 : B + 20 < 1000000) : CT gl yX8_can cX8_can 7 (some .int) 11 247 Z [.ref (zg Z 116), .int x0, .int x1] v w (Qi Z (fun r u => r = sCan (xM v n L) L n (v 132) (v 133) z x0 x1 ∧ (u.1, w) = u ∧ scM v u.1)) := by
  refine g_met (by decide) (Nat.le_of_ble_eq_true rfl) ?_
  intro gp ge gs gm ga gb gh gc X h ls hl
  have hx := X.1
  have hb := X.2.1
  have hl : lv_has ls 7 [(0, .ref (zg Z 116)), (1, .int x0), (2, .int x1)] := hl
  obtain ⟨hn, h6, hwf, hcur, hrx, hB⟩ := id hd
  refine lv_aload_n hx hb dX8_can_0 rfl (lv_at hl 0 rfl) ?_
  refine lv_iload_n hx hb dX8_can_1 rfl (lv_at hl 1 rfl) ?_
  refine g_ki h (g_runV X h (As := [.int x0]) (rest := []) (c_X8_isOne gl Z v w x0 n hn h6) mi_X8_isOne ml_RX8_118 (cc_116) (by decide) kl8 rfl ⟨Nat.le_of_ble_eq_true rfl, Nat.le_of_ble_eq_true rfl⟩ rfl hl.1 rfl (Nat.le_of_ble_eq_true rfl) dX8_can_2) (fun r2 v2 w2 H locs hp2 h => ?_)
  obtain ⟨hr2, hu2⟩ := hp2; obtain ⟨rfl, rfl⟩ := Prod.mk.inj hu2
  refine lv_if_eq (tgt := 17) hx hb dX8_can_5 (by decide) (fun c_5 => ?_) (fun c_5 => ?_)
  · skip
    rw [hr2, bI_0] at c_5
    refine lv_iconst (v := (-1)) hx hb dX8_can_17 (by decide) ?_
    exact g_iret X h dX8_can_18 ⟨by simp [sCan, c_5], rfl, scM_refl v⟩
  · skip
    rw [hr2, bI_n] at c_5
    obtain ⟨p, hp, hpn, hpc⟩ := isP_nat (by omega) c_5
    refine lv_iload_n hx hb dX8_can_8 rfl (lv_at hl 2 rfl) ?_
    refine lv_iconst (v := 0) hx hb dX8_can_9 (by decide) ?_
    refine lv_iconst (v := 1) hx hb dX8_can_10 (by decide) ?_
    refine g_ki h (g_runS X h (As := [.int x1, .int 0, .int 1]) (rest := []) (c_X8_within gl Z v w x1 0 1) ms_X8_within ml_RX8_114 ⟨Nat.le_of_ble_eq_true rfl, Nat.le_of_ble_eq_true rfl⟩ rfl hl.1 rfl (Nat.le_of_ble_eq_true rfl) dX8_can_11) (fun r11 v11 w11 H locs hp11 h => ?_)
    obtain ⟨hr11, hu11⟩ := hp11; obtain ⟨rfl, rfl⟩ := Prod.mk.inj hu11
    refine lv_if_ne (tgt := 19) hx hb dX8_can_14 (by decide) (fun c_14 => ?_) (fun c_14 => ?_)
    · skip
      rw [hr11, bI_n] at c_14
      refine lv_aload_n hx hb dX8_can_19 rfl (lv_at hl 0 rfl) ?_
      refine g_getr X h (k := 2) (t := 118) (cc_116) fr_RX8_15 rfl (by decide) (by decide) (by decide) dX8_can_20 ?_
      refine lv_iload_n hx hb dX8_can_23 rfl (lv_at hl 1 rfl) ?_
      refine g_iald X h (k := p) (cc_118) hp (by omega) (by decide) dX8_can_24 ?_
      refine lv_topi (fun x3_25 ex3_25 => ?_)
      refine lv_istore_n (lv' := [(3, .int x3_25), (0, .ref (zg Z 116)), (1, .int x0), (2, .int x1)]) hx hb dX8_can_25 rfl hl (by decide) rfl (fun ls hl => ?_)
      refine lv_iconst (v := 0) hx hb dX8_can_26 (by decide) ?_
      refine lv_istore (lv' := [(4, .int 0), (3, .int x3_25), (0, .ref (zg Z 116)), (1, .int x0), (2, .int x1)]) hx hb dX8_can_27 hl (by decide) rfl (fun ls hl => ?_)
      refine lv_bipush (v := (-5)) hx hb dX8_can_29 (by decide) ?_
      refine lv_istore (lv' := [(5, .int (-5)), (4, .int 0), (3, .int x3_25), (0, .ref (zg Z 116)), (1, .int x0), (2, .int x1)]) hx hb dX8_can_31 hl (by decide) rfl (fun ls hl => ?_)
      refine lv_bipush (v := 9) hx hb dX8_can_33 (by decide) ?_
      refine lv_istore (lv' := [(6, .int 9), (5, .int (-5)), (4, .int 0), (3, .int x3_25), (0, .ref (zg Z 116)), (1, .int x0), (2, .int x1)]) hx hb dX8_can_35 hl (by decide) rfl (fun ls hl => ?_)
      have L37 : ∀ (n37 : Nat) (j : Nat) (x4 x5 x6 : Int32) (va : VV), (x6 = dn 9 j) → (j ≤ 10) → (x4 = cntD (canP (xM v n L) L n (v 132) (v 133) z p) 9 j) → (x5 = minD (canP (xM v n L) L n (v 132) (v 133) z p) 9 j) → (scM v (up2 va 118 p (v 118 p))) → 10 - j < n37 → ∀ (H : Heap) (locs : List Loc), HS Z gs va w H locs → ∀ ls : Array Slot, lv_has ls 7 [(0, .ref (zg Z 116)), (1, .int x0), (2, .int x1), (3, .int x3_25), (4, .int x4), (5, .int x5), (6, .int x6)] → W gp gl ge (rmm 11 247) gs gm ga gb gh gc H locs 0 0 (MQ gb (Qi Z (fun r u => r = sCan (xM v n L) L n (v 132) (v 133) z x0 x1 ∧ (u.1, w) = u ∧ scM v u.1)) ga gs 0 0 (zA Z)) (F0 gm 37 ls []) := by
        intro n37
        induction n37 with
        | zero => intro j x4 x5 x6 va hx6 hj hx4 hx5 hsa hmu; exact absurd hmu (Nat.not_lt_zero _)
        | succ n37 ih37 =>
          intro j x4 x5 x6 va hx6 hj hx4 hx5 hsa hmu37 H locs h ls hl
          refine lv_iload hx hb dX8_can_37 (lv_at hl 6 rfl) ?_
          refine lv_if_lt (tgt := 73) hx hb dX8_can_39 (by decide) (fun c_39 => ?_) (fun c_39 => ?_)
          · skip
            have hji : 9 < j := dn_neg (by omega) (hx6 ▸ c_39)
            refine lv_aload_n hx hb dX8_can_73 rfl (lv_at hl 0 rfl) ?_
            refine g_getr X h (k := 2) (t := 118) (cc_116) fr_RX8_15 rfl (by decide) (by decide) (by decide) dX8_can_74 ?_
            refine lv_iload_n hx hb dX8_can_77 rfl (lv_at hl 1 rfl) ?_
            refine lv_iload_n hx hb dX8_can_78 rfl (lv_at hl 3 rfl) ?_
            refine g_iast X h (k := p) (cc_118) hp (by omega) (by decide) dX8_can_79 (fun v79 H locs ev79 h => ?_)
            refine lv_iload_n hx hb dX8_can_80 rfl (lv_at hl 2 rfl) ?_
            refine lv_if_ne (tgt := 89) hx hb dX8_can_81 (by decide) (fun c_81 => ?_) (fun c_81 => ?_)
            · skip
              refine lv_iload hx hb dX8_can_89 (lv_at hl 5 rfl) ?_
              exact g_iret X h dX8_can_91 (by have e : j = 10 := (by omega); subst e; exact ⟨by simp only [sCan, c_5, c_14, Bool.and_self, if_true, hpc]; first | (rw [if_pos c_81]; exact hx4) | (rw [if_neg c_81]; exact hx5), rfl, by show scM v v79; rw [ev79, ex3_25]; exact hsa⟩)
            · skip
              refine lv_iload hx hb dX8_can_84 (lv_at hl 4 rfl) ?_
              refine lv_goto (tgt := 91) hx hb dX8_can_86 (by decide) ?_
              exact g_iret X h dX8_can_91 (by have e : j = 10 := (by omega); subst e; exact ⟨by simp only [sCan, c_5, c_14, Bool.and_self, if_true, hpc]; first | (rw [if_pos c_81]; exact hx4) | (rw [if_neg c_81]; exact hx5), rfl, by show scM v v79; rw [ev79, ex3_25]; exact hsa⟩)
          · skip
            have hji : j ≤ 9 := dn_pos (hx6 ▸ c_39)
            rw [dn_at hji] at hx6
            refine lv_aload_n hx hb dX8_can_42 rfl (lv_at hl 0 rfl) ?_
            refine g_getr X h (k := 2) (t := 118) (cc_116) fr_RX8_15 rfl (by decide) (by decide) (by decide) dX8_can_43 ?_
            refine lv_iload_n hx hb dX8_can_46 rfl (lv_at hl 1 rfl) ?_
            refine lv_iload hx hb dX8_can_47 (lv_at hl 6 rfl) ?_
            refine g_iast X h (k := p) (cc_118) hp (by omega) (by decide) dX8_can_49 (fun v49 H locs ev49 h => ?_)
            refine lv_aload_n hx hb dX8_can_50 rfl (lv_at hl 0 rfl) ?_
            refine g_ki h (g_runV X h (As := []) (rest := []) (c_X8_isSeen gl Z v49 w n B L ((by rw [ev49, hx6]; exact sc_at hsa (nI (9 - j)) : scM (up2 v 118 p (nI (9 - j))) v49).DM (DM_v hd (by omega) (by omega))) z (by rw [(by rw [ev49, hx6]; exact sc_at hsa (nI (9 - j)) : scM (up2 v 118 p (nI (9 - j))) v49).at 116 (by decide) (by decide), up2_ne (by decide)]; exact hz) hzm (by rw [(by rw [ev49, hx6]; exact sc_at hsa (nI (9 - j)) : scM (up2 v 118 p (nI (9 - j))) v49).at 133 (by decide) (by decide), up2_ne (by decide)]; exact hsd) (by first | assumption | omega)) mi_X8_isSeen ml_RX8_299 (cc_116) (by decide) kl8 rfl ⟨Nat.le_of_ble_eq_true rfl, Nat.le_of_ble_eq_true rfl⟩ rfl hl.1 rfl (Nat.le_of_ble_eq_true rfl) dX8_can_51) (fun r51 v51 w51 H locs hp51 h => ?_)
            obtain ⟨hr51, hw51, hsc51⟩ := hp51
            obtain ⟨-, rfl⟩ := Prod.mk.inj hw51
            replace hsc51 : scM _ v51 := hsc51
            rw [(by rw [ev49, hx6]; exact sc_at hsa (nI (9 - j)) : scM (up2 v 118 p (nI (9 - j))) v49).xM, xM_up_v (by omega), (by rw [ev49, hx6]; exact sc_at hsa (nI (9 - j)) : scM (up2 v 118 p (nI (9 - j))) v49).at 132 (by decide) (by decide), (by rw [ev49, hx6]; exact sc_at hsa (nI (9 - j)) : scM (up2 v 118 p (nI (9 - j))) v49).at 133 (by decide) (by decide), up2_ne (by decide), up2_ne (by decide)] at hr51
            replace hr51 : r51 = bI (canP (xM v n L) L n (v 132) (v 133) z p (9 - j)) := hr51
            refine lv_if_ne (tgt := 60) hx hb dX8_can_54 (by decide) (fun c_54 => ?_) (fun c_54 => ?_)
            · skip
              rw [hr51, bI_n] at c_54
              refine lv_iinc (v := (x4 + 1)) (lv' := [(4, .int (x4 + 1)), (0, .ref (zg Z 116)), (1, .int x0), (2, .int x1), (3, .int x3_25), (5, .int x5), (6, .int x6)]) hx hb dX8_can_60 hl (k := 4) rfl rfl (by decide) rfl (fun ls hl => ?_)
              refine lv_iload hx hb dX8_can_63 (lv_at hl 6 rfl) ?_
              refine lv_istore (lv' := [(5, .int x6), (4, .int (x4 + 1)), (0, .ref (zg Z 116)), (1, .int x0), (2, .int x1), (3, .int x3_25), (6, .int x6)]) hx hb dX8_can_65 hl (by decide) rfl (fun ls hl => ?_)
              refine lv_iinc (v := (x6 + (-1))) (lv' := [(6, .int (x6 + (-1))), (5, .int x6), (4, .int (x4 + 1)), (0, .ref (zg Z 116)), (1, .int x0), (2, .int x1), (3, .int x3_25)]) hx hb dX8_can_67 hl (k := 6) rfl rfl (by decide) rfl (fun ls hl => ?_)
              refine lv_goto (tgt := 37) hx hb dX8_can_70 (by decide) ?_
              exact ih37 (j + 1) (x4 + 1) x6 (x6 + (-1)) v51 (by rw [hx6, ← dn_at hji]; exact dn_s hji (by omega)) (by omega) (by rw [cntD, if_pos c_54, hx4]) (by rw [minD, if_pos c_54]; exact hx6) (sc_back hsa ev49 hsc51) (by omega) _ _ h ls (lv_sub hl [3, 4, 5, 6, 2, 1, 0] rfl)
            · skip
              rw [hr51, bI_0] at c_54
              refine lv_goto (tgt := 67) hx hb dX8_can_57 (by decide) ?_
              refine lv_iinc (v := (x6 + (-1))) (lv' := [(6, .int (x6 + (-1))), (0, .ref (zg Z 116)), (1, .int x0), (2, .int x1), (3, .int x3_25), (4, .int x4), (5, .int x5)]) hx hb dX8_can_67 hl (k := 6) rfl rfl (by decide) rfl (fun ls hl => ?_)
              refine lv_goto (tgt := 37) hx hb dX8_can_70 (by decide) ?_
              exact ih37 (j + 1) x4 x5 (x6 + (-1)) v51 (by rw [hx6, ← dn_at hji]; exact dn_s hji (by omega)) (by omega) (by rw [cntD, if_neg (fun q => by rw [q] at c_54; cases c_54)]; exact hx4) (by rw [minD, if_neg (fun q => by rw [q] at c_54; cases c_54)]; exact hx5) (sc_back hsa ev49 hsc51) (by omega) _ _ h ls (lv_sub hl [1, 2, 3, 4, 5, 6, 0] rfl)
      exact L37 (10 - 0 + 1) 0 0 (-5) 9 v (by rw [dn_0]; rfl) (by omega) rfl rfl sc_0 (Nat.lt_succ_self _) _ _ h ls (lv_sub hl [4, 5, 6, 3, 2, 1, 0] rfl)
    · skip
      rw [hr11, bI_0] at c_14
      refine lv_iconst (v := (-1)) hx hb dX8_can_17 (by decide) ?_
      exact g_iret X h dX8_can_18 ⟨by simp [sCan, c_5, c_14], rfl, scM_refl v⟩

set_option maxRecDepth 100000 in
set_option maxHeartbeats 1000000 in
theorem c_X8_part (gl : Launch) (Z : PL) (v : VV) (w : WV) (x0 : Int32) (a : Nat) (ha : x0 = nI a) (x1 : Int32) (d : Nat) (hd : x1 = nI d) (x2 : Int32) (hb0 : 0 < d) (ha9 : a < 1000000) (hb9 : d < 1000000) : CT gl yX8_part cX8_part 6 (some .long) 0 0 Z [.int x0, .int x1, .int x2] v w (Ql Z (fun r u => r = fracS a d x2 ∧ (v, w) = u)) := by
  refine g_met (by decide) (Nat.le_of_ble_eq_true rfl) ?_
  intro gp ge gs gm ga gb gh gc X h ls hl
  have hx := X.1
  have hb := X.2.1
  have hl : lv_has ls 6 [(0, .int x0), (1, .int x1), (2, .int x2)] := hl
  refine lv_iload_n hx hb dX8_part_0 rfl (lv_at hl 0 rfl) ?_
  refine lv_istore_n (lv' := [(3, .int x0), (0, .int x0), (1, .int x1), (2, .int x2)]) hx hb dX8_part_1 rfl hl (by decide) rfl (fun ls hl => ?_)
  refine lv_iload_n hx hb dX8_part_2 rfl (lv_at hl 2 rfl) ?_
  refine lv_istore (lv' := [(4, .int x1), (3, .int x0), (0, .int x0), (1, .int x1), (2, .int x2)]) hx hb dX8_part_3 hl (by decide) rfl (fun ls hl => ?_)
  have L5 : ∀ (n5 : Nat) (x y : Nat) (x3 x4 : Int32), (x3 = nI x) → (x4 = nI y) → (Nat.gcd x y = Nat.gcd a d) → (x < 1000000) → (y < 1000000) → y < n5 → ∀ (H : Heap) (locs : List Loc), HS Z gs v w H locs → ∀ ls : Array Slot, lv_has ls 6 [(0, .int x0), (1, .int x1), (2, .int x2), (3, .int x3), (4, .int x4)] → W gp gl ge (rmm 0 0) gs gm ga gb gh gc H locs 0 0 (MQ gb (Ql Z (fun r u => r = fracS a d x2 ∧ (v, w) = u)) ga gs 0 0 (zA Z)) (F0 gm 5 ls []) := by
    intro n5
    induction n5 with
    | zero => intro x y x3 x4 hx3 hx4 hg hx9 hy9 hmu; exact absurd hmu (Nat.not_lt_zero _)
    | succ n5 ih5 =>
      intro x y x3 x4 hx3 hx4 hg hx9 hy9 hmu5 H locs h ls hl
      refine lv_iload hx hb dX8_part_5 (lv_at hl 4 rfl) ?_
      refine lv_if_eq (tgt := 26) hx hb dX8_part_7 (by decide) (fun c_7 => ?_) (fun c_7 => ?_)
      · skip
        have hy0 : y = 0 := nI_inj (by omega) (by omega) (hx4.symm.trans c_7)
        have hgx : x = Nat.gcd a d := by rw [← hg, hy0, Nat.gcd_zero_right]
        have hxp : 0 < x := by rw [hgx]; exact Nat.gcd_pos_of_pos_right a hb0
        refine lv_iload_n hx hb dX8_part_26 rfl (lv_at hl 2 rfl) ?_
        refine lv_if_ne (tgt := 37) hx hb dX8_part_27 (by decide) (fun c_27 => ?_) (fun c_27 => ?_)
        · skip
          refine lv_iload_n hx hb dX8_part_37 rfl (lv_at hl 1 rfl) ?_
          refine lv_iload_n hx hb dX8_part_38 rfl (lv_at hl 3 rfl) ?_
          refine lv_idiv hx hb dX8_part_39 (by rw [hx3]; exact nI_ne0 hxp (by omega)) ?_
          refine lv_i2l hx hb dX8_part_40 rfl ?_
          exact g_lret X h dX8_part_41 ⟨by rw [fracS, if_neg c_27, hd, hx3, pk_div (by omega) hxp (by omega), hgx]; exact nI_l (Nat.lt_of_le_of_lt (Nat.div_le_self _ _) (by omega)), rfl⟩
        · skip
          refine lv_iload_n hx hb dX8_part_30 rfl (lv_at hl 0 rfl) ?_
          refine lv_iload_n hx hb dX8_part_31 rfl (lv_at hl 3 rfl) ?_
          refine lv_idiv hx hb dX8_part_32 (by rw [hx3]; exact nI_ne0 hxp (by omega)) ?_
          refine lv_i2l hx hb dX8_part_33 rfl ?_
          refine lv_goto (tgt := 41) hx hb dX8_part_34 (by decide) ?_
          exact g_lret X h dX8_part_41 ⟨by rw [fracS, if_pos c_27, ha, hx3, pk_div (by omega) hxp (by omega), hgx]; exact nI_l (Nat.lt_of_le_of_lt (Nat.div_le_self _ _) (by omega)), rfl⟩
      · skip
        have hy0 : 0 < y := Nat.pos_of_ne_zero (fun q => c_7 (by rw [hx4, q]; rfl))
        refine lv_iload_n hx hb dX8_part_10 rfl (lv_at hl 3 rfl) ?_
        refine lv_iload hx hb dX8_part_11 (lv_at hl 4 rfl) ?_
        refine lv_irem hx hb dX8_part_13 c_7 ?_
        refine lv_topi (fun x5_14 ex5_14 => ?_)
        refine lv_istore (lv' := [(5, .int x5_14), (0, .int x0), (1, .int x1), (2, .int x2), (3, .int x3), (4, .int x4)]) hx hb dX8_part_14 hl (by decide) rfl (fun ls hl => ?_)
        refine lv_iload hx hb dX8_part_16 (lv_at hl 5 rfl) ?_
        refine lv_istore_n (lv' := [(3, .int x4), (5, .int x5_14), (0, .int x0), (1, .int x1), (2, .int x2), (4, .int x4)]) hx hb dX8_part_18 rfl hl (by decide) rfl (fun ls hl => ?_)
        refine lv_iload hx hb dX8_part_19 (lv_at hl 1 rfl) ?_
        refine lv_istore (lv' := [(4, .int x5_14), (3, .int x4), (5, .int x5_14), (0, .int x0), (1, .int x1), (2, .int x2)]) hx hb dX8_part_21 hl (by decide) rfl (fun ls hl => ?_)
        refine lv_goto (tgt := 5) hx hb dX8_part_23 (by decide) ?_
        exact ih5 y (x % y) x4 x5_14 hx4 (by rw [ex5_14, hx3, hx4]; exact pk_rem (by omega) hy0 (by omega)) (by rw [← hg, Nat.gcd_comm x y, Nat.gcd_rec y x, Nat.gcd_comm]; ) hy9 (by have := Nat.mod_lt x hy0; omega) (by have := Nat.mod_lt x hy0; omega) _ _ h ls (lv_sub hl [3, 4, 5, 1, 0] rfl)
  exact L5 (d + 1) a d x0 x1 ha hd rfl ha9 hb9 (Nat.lt_succ_self _) _ _ h ls (lv_sub hl [2, 3, 4, 1, 0] rfl)

set_option maxRecDepth 100000 in
set_option maxHeartbeats 1000000 in
theorem c_X8_odds (gl : Launch) (Z : PL) (v : VV) (w : WV) (x0 : Int32) (x1 : Int32) (n : Nat) (B : Nat) (L : LND) (hd : DM v n B L) (hB60 : B + 60 < 1000000) : CT gl yX8_odds cX8_odds 5 (some .long) 12 271 Z [.ref (zg Z 116), .int x0, .int x1] v w (Ql Z (fun r u => r = sOdds (xM v n L) L n x0 x1 ∧ (u.1, w) = u ∧ scM v u.1)) := by
  refine g_met (by decide) (Nat.le_of_ble_eq_true rfl) ?_
  intro gp ge gs gm ga gb gh gc X h ls hl
  have hx := X.1
  have hb := X.2.1
  have hl : lv_has ls 5 [(0, .ref (zg Z 116)), (1, .int x0), (2, .int x1)] := hl
  obtain ⟨hn, h6, hwf, hcur, hrx, hB⟩ := id hd
  refine lv_iload_n hx hb dX8_odds_0 rfl (lv_at hl 1 rfl) ?_
  refine g_ki h (g_runS X h (As := [.int x0]) (rest := []) (c_X8_isDays gl Z v w x0) ms_X8_isDays ml_RX8_269 ⟨Nat.le_of_ble_eq_true rfl, Nat.le_of_ble_eq_true rfl⟩ rfl hl.1 rfl (Nat.le_of_ble_eq_true rfl) dX8_odds_1) (fun r1 v1 w1 H locs hp1 h => ?_)
  obtain ⟨hr1, hu1⟩ := hp1; obtain ⟨rfl, rfl⟩ := Prod.mk.inj hu1
  refine lv_if_eq (tgt := 23) hx hb dX8_odds_4 (by decide) (fun c_4 => ?_) (fun c_4 => ?_)
  · skip
    rw [hr1, bI_0] at c_4
    refine lv_ldc2 hx hb X.ow (X.ts _ cl_RX8_302) dX8_odds_23 ?_
    exact g_lret X h dX8_odds_26 ⟨by first | (simp [sOdds, c_4]; done) | (simp [sOdds, c_4, hn0]; done) | (simp [sOdds, hn0]; rfl) | (simp [sOdds, c_4]; rfl), rfl, scM_refl v⟩
  · skip
    rw [hr1, bI_n] at c_4
    obtain ⟨k, hk, hk0, hk60, hkc⟩ := inR_nat (a := 0) (b := 60) rfl rfl (by decide) c_4
    refine lv_iload_n hx hb dX8_odds_7 rfl (lv_at hl 2 rfl) ?_
    refine lv_iconst (v := 0) hx hb dX8_odds_8 (by decide) ?_
    refine lv_iconst (v := 1) hx hb dX8_odds_9 (by decide) ?_
    refine g_ki h (g_runS X h (As := [.int x1, .int 0, .int 1]) (rest := []) (c_X8_within gl Z v w x1 0 1) ms_X8_within ml_RX8_114 ⟨Nat.le_of_ble_eq_true rfl, Nat.le_of_ble_eq_true rfl⟩ rfl hl.1 rfl (Nat.le_of_ble_eq_true rfl) dX8_odds_10) (fun r10 v10 w10 H locs hp10 h => ?_)
    obtain ⟨hr10, hu10⟩ := hp10; obtain ⟨rfl, rfl⟩ := Prod.mk.inj hu10
    refine lv_if_eq (tgt := 23) hx hb dX8_odds_13 (by decide) (fun c_13 => ?_) (fun c_13 => ?_)
    · skip
      rw [hr10, bI_0] at c_13
      refine lv_ldc2 hx hb X.ow (X.ts _ cl_RX8_302) dX8_odds_23 ?_
      exact g_lret X h dX8_odds_26 ⟨by first | (simp [sOdds, c_4, c_13]; done) | (simp [sOdds, c_4, c_13, hn0]; done) | (simp [sOdds, hn0]; rfl) | (simp [sOdds, c_4, c_13]; rfl), rfl, scM_refl v⟩
    · skip
      rw [hr10, bI_n] at c_13
      refine lv_aload_n hx hb dX8_odds_16 rfl (lv_at hl 0 rfl) ?_
      refine g_geti X h (k := 0) (cc_116) fr_RX8_111 rfl (by decide) dX8_odds_17 ?_
      refine lv_if_ne (tgt := 27) hx hb dX8_odds_20 (by decide) (fun c_20 => ?_) (fun c_20 => ?_)
      · skip
        have hn0 : 0 < n := Nat.pos_of_ne_zero (fun q => c_20 (by rw [hn, q]; rfl))
        refine lv_iconst (v := 0) hx hb dX8_odds_27 (by decide) ?_
        refine lv_istore_n (lv' := [(3, .int 0), (0, .ref (zg Z 116)), (1, .int x0), (2, .int x1)]) hx hb dX8_odds_28 rfl hl (by decide) rfl (fun ls hl => ?_)
        refine lv_iconst (v := 0) hx hb dX8_odds_29 (by decide) ?_
        refine lv_istore (lv' := [(4, .int 0), (3, .int 0), (0, .ref (zg Z 116)), (1, .int x0), (2, .int x1)]) hx hb dX8_odds_30 hl (by decide) rfl (fun ls hl => ?_)
        have L32 : ∀ (n32 : Nat) (i : Nat) (x3 x4 : Int32) (va : VV), (x4 = nI i) → (i ≤ n) → (x3 = nI (livF (xM v n L) L n k i)) → (scM v va) → n - i < n32 → ∀ (H : Heap) (locs : List Loc), HS Z gs va w H locs → ∀ ls : Array Slot, lv_has ls 5 [(0, .ref (zg Z 116)), (1, .int x0), (2, .int x1), (3, .int x3), (4, .int x4)] → W gp gl ge (rmm 12 271) gs gm ga gb gh gc H locs 0 0 (MQ gb (Ql Z (fun r u => r = sOdds (xM v n L) L n x0 x1 ∧ (u.1, w) = u ∧ scM v u.1)) ga gs 0 0 (zA Z)) (F0 gm 32 ls []) := by
          intro n32
          induction n32 with
          | zero => intro i x3 x4 va hx4 hi hx3 hsa hmu; exact absurd hmu (Nat.not_lt_zero _)
          | succ n32 ih32 =>
            intro i x3 x4 va hx4 hi hx3 hsa hmu32 H locs h ls hl
            refine lv_iload hx hb dX8_odds_32 (lv_at hl 4 rfl) ?_
            refine lv_aload_n hx hb dX8_odds_34 rfl (lv_at hl 0 rfl) ?_
            refine g_geti X h (k := 0) (cc_116) fr_RX8_111 rfl (by decide) dX8_odds_35 ?_
            refine g_tr (y := (v 116 0)) (by simp [(scM.at hsa), up2, upc]) ?_
            refine lv_icmp_ge (tgt := 60) hx hb dX8_odds_38 (by decide) (fun c_38 => ?_) (fun c_38 => ?_)
            · skip
              have hil := nI_le1 (a := n) (b := i) hn hx4 (by omega) (by omega) c_38
              refine lv_iload_n hx hb dX8_odds_60 rfl (lv_at hl 3 rfl) ?_
              refine lv_aload_n hx hb dX8_odds_61 rfl (lv_at hl 0 rfl) ?_
              refine g_geti X h (k := 0) (cc_116) fr_RX8_111 rfl (by decide) dX8_odds_62 ?_
              refine g_tr (y := (v 116 0)) (by simp [(scM.at hsa), up2, upc]) ?_
              refine lv_iload_n hx hb dX8_odds_65 rfl (lv_at hl 2 rfl) ?_
              refine g_kl h (g_runS X h (As := [.int x3, .int (v 116 0), .int x1]) (rest := []) (c_X8_part gl Z va w x3 (livF (xM v n L) L n k i) hx3 (v 116 0) n hn x1 hn0 (by have := livF_le (xM v n L) L n k i; omega) (by omega)) ms_X8_part ml_RX8_304 ⟨Nat.le_of_ble_eq_true rfl, Nat.le_of_ble_eq_true rfl⟩ rfl hl.1 rfl (Nat.le_of_ble_eq_true rfl) dX8_odds_66) (fun r66 v66 w66 H locs hp66 h => ?_)
              obtain ⟨hr66, hu66⟩ := hp66; obtain ⟨rfl, rfl⟩ := Prod.mk.inj hu66
              exact g_lret X h dX8_odds_69 ⟨by rw [hr66, show i = n by omega]; simp [sOdds, c_4, c_13, hn0, hkc], rfl, hsa⟩
            · skip
              have hil := nI_le0 (a := n) (b := i) hn hx4 (by omega) (by omega) c_38
              refine lv_aload_n hx hb dX8_odds_41 rfl (lv_at hl 0 rfl) ?_
              refine lv_iload hx hb dX8_odds_42 (lv_at hl 4 rfl) ?_
              refine lv_iload_n hx hb dX8_odds_44 rfl (lv_at hl 1 rfl) ?_
              refine g_ki h (g_runV X h (As := [.int x4, .int x0]) (rest := []) (c_X8_isGoneWithout gl Z va w x4 i hx4 x0 k hk n B L (hsa.DM hd) hil (by omega)) mi_X8_isGoneWithout ml_RX8_293 (cc_116) (by decide) kl8 rfl ⟨Nat.le_of_ble_eq_true rfl, Nat.le_of_ble_eq_true rfl⟩ rfl hl.1 rfl (Nat.le_of_ble_eq_true rfl) dX8_odds_45) (fun r45 v45 w45 H locs hp45 h => ?_)
              obtain ⟨hr45, hw45, hsc45⟩ := hp45
              obtain ⟨-, rfl⟩ := Prod.mk.inj hw45
              replace hsc45 : scM _ v45 := hsc45
              rw [hsa.xM] at hr45
              refine lv_if_ne (tgt := 54) hx hb dX8_odds_48 (by decide) (fun c_48 => ?_) (fun c_48 => ?_)
              · skip
                rw [hr45, bI_n] at c_48
                refine lv_iinc (v := (x4 + 1)) (lv' := [(4, .int (x4 + 1)), (0, .ref (zg Z 116)), (1, .int x0), (2, .int x1), (3, .int x3)]) hx hb dX8_odds_54 hl (k := 4) rfl rfl (by decide) rfl (fun ls hl => ?_)
                refine lv_goto (tgt := 32) hx hb dX8_odds_57 (by decide) ?_
                exact ih32 (i + 1) x3 (x4 + 1) v45 (by rw [hx4]; exact nI_1 _) (by omega) (by rw [livF, if_pos c_48]; exact hx3) (scM_trans hsa hsc45) (by omega) _ _ h ls (lv_sub hl [1, 2, 3, 4, 0] rfl)
              · skip
                rw [hr45, bI_0] at c_48
                refine lv_iinc (v := (x3 + 1)) (lv' := [(3, .int (x3 + 1)), (0, .ref (zg Z 116)), (1, .int x0), (2, .int x1), (4, .int x4)]) hx hb dX8_odds_51 hl (k := 3) rfl rfl (by decide) rfl (fun ls hl => ?_)
                refine lv_iinc (v := (x4 + 1)) (lv' := [(4, .int (x4 + 1)), (3, .int (x3 + 1)), (0, .ref (zg Z 116)), (1, .int x0), (2, .int x1)]) hx hb dX8_odds_54 hl (k := 4) rfl rfl (by decide) rfl (fun ls hl => ?_)
                refine lv_goto (tgt := 32) hx hb dX8_odds_57 (by decide) ?_
                exact ih32 (i + 1) (x3 + 1) (x4 + 1) v45 (by rw [hx4]; exact nI_1 _) (by omega) (by rw [livF, if_neg (fun q => by rw [q] at c_48; cases c_48), hx3]; exact nI_1 _) (scM_trans hsa hsc45) (by omega) _ _ h ls (lv_sub hl [2, 3, 4, 1, 0] rfl)
        exact L32 (n - 0 + 1) 0 0 0 v rfl (Nat.zero_le _) rfl (scM_refl v) (Nat.lt_succ_self _) _ _ h ls (lv_sub hl [2, 3, 4, 1, 0] rfl)
      · skip
        have hn0 : n = 0 := nI_inj (by omega) (by omega) (hn.symm.trans c_20)
        refine lv_ldc2 hx hb X.ow (X.ts _ cl_RX8_302) dX8_odds_23 ?_
        exact g_lret X h dX8_odds_26 ⟨by first | (simp [sOdds, c_4, c_13, c_20]; done) | (simp [sOdds, c_4, c_13, c_20, hn0]; done) | (simp [sOdds, hn0]; rfl) | (simp [sOdds, c_4, c_13, c_20]; rfl), rfl, scM_refl v⟩

set_option maxRecDepth 100000 in
set_option maxHeartbeats 1000000 in
theorem c_X8_mean (gl : Launch) (Z : PL) (v : VV) (w : WV) (x0 : Int32) (x1 : Int32) (n : Nat) (B : Nat) (L : LND) (hd : DM v n B L) (hB60 : B + 60 < 1000000) : CT gl yX8_mean cX8_mean 5 (some .long) 9 204 Z [.ref (zg Z 116), .int x0, .int x1] v w (Ql Z (fun r u => r = sMean (xM v n L) L n x0 x1 ∧ (u.1, w) = u ∧ scM v u.1)) := by
  refine g_met (by decide) (Nat.le_of_ble_eq_true rfl) ?_
  intro gp ge gs gm ga gb gh gc X h ls hl
  have hx := X.1
  have hb := X.2.1
  have hl : lv_has ls 5 [(0, .ref (zg Z 116)), (1, .int x0), (2, .int x1)] := hl
  obtain ⟨hn, h6, hwf, hcur, hrx, hB⟩ := id hd
  refine lv_iload_n hx hb dX8_mean_0 rfl (lv_at hl 1 rfl) ?_
  refine g_ki h (g_runS X h (As := [.int x0]) (rest := []) (c_X8_isDays gl Z v w x0) ms_X8_isDays ml_RX8_269 ⟨Nat.le_of_ble_eq_true rfl, Nat.le_of_ble_eq_true rfl⟩ rfl hl.1 rfl (Nat.le_of_ble_eq_true rfl) dX8_mean_1) (fun r1 v1 w1 H locs hp1 h => ?_)
  obtain ⟨hr1, hu1⟩ := hp1; obtain ⟨rfl, rfl⟩ := Prod.mk.inj hu1
  refine lv_if_eq (tgt := 23) hx hb dX8_mean_4 (by decide) (fun c_4 => ?_) (fun c_4 => ?_)
  · skip
    rw [hr1, bI_0] at c_4
    refine lv_ldc2 hx hb X.ow (X.ts _ cl_RX8_302) dX8_mean_23 ?_
    exact g_lret X h dX8_mean_26 ⟨by first | (simp [sMean, c_4]; done) | (simp [sMean, c_4, hn0]; done) | (simp [sMean, hn0]; rfl) | (simp [sMean, c_4]; rfl), rfl, scM_refl v⟩
  · skip
    rw [hr1, bI_n] at c_4
    obtain ⟨k, hk, hk0, hk60, hkc⟩ := inR_nat (a := 0) (b := 60) rfl rfl (by decide) c_4
    refine lv_iload_n hx hb dX8_mean_7 rfl (lv_at hl 2 rfl) ?_
    refine lv_iconst (v := 0) hx hb dX8_mean_8 (by decide) ?_
    refine lv_iconst (v := 1) hx hb dX8_mean_9 (by decide) ?_
    refine g_ki h (g_runS X h (As := [.int x1, .int 0, .int 1]) (rest := []) (c_X8_within gl Z v w x1 0 1) ms_X8_within ml_RX8_114 ⟨Nat.le_of_ble_eq_true rfl, Nat.le_of_ble_eq_true rfl⟩ rfl hl.1 rfl (Nat.le_of_ble_eq_true rfl) dX8_mean_10) (fun r10 v10 w10 H locs hp10 h => ?_)
    obtain ⟨hr10, hu10⟩ := hp10; obtain ⟨rfl, rfl⟩ := Prod.mk.inj hu10
    refine lv_if_eq (tgt := 23) hx hb dX8_mean_13 (by decide) (fun c_13 => ?_) (fun c_13 => ?_)
    · skip
      rw [hr10, bI_0] at c_13
      refine lv_ldc2 hx hb X.ow (X.ts _ cl_RX8_302) dX8_mean_23 ?_
      exact g_lret X h dX8_mean_26 ⟨by first | (simp [sMean, c_4, c_13]; done) | (simp [sMean, c_4, c_13, hn0]; done) | (simp [sMean, hn0]; rfl) | (simp [sMean, c_4, c_13]; rfl), rfl, scM_refl v⟩
    · skip
      rw [hr10, bI_n] at c_13
      refine lv_aload_n hx hb dX8_mean_16 rfl (lv_at hl 0 rfl) ?_
      refine g_geti X h (k := 0) (cc_116) fr_RX8_111 rfl (by decide) dX8_mean_17 ?_
      refine lv_if_ne (tgt := 27) hx hb dX8_mean_20 (by decide) (fun c_20 => ?_) (fun c_20 => ?_)
      · skip
        have hn0 : 0 < n := Nat.pos_of_ne_zero (fun q => c_20 (by rw [hn, q]; rfl))
        refine lv_aload_n hx hb dX8_mean_27 rfl (lv_at hl 0 rfl) ?_
        refine lv_aload_n hx hb dX8_mean_28 rfl (lv_at hl 0 rfl) ?_
        refine g_getr X h (k := 39) (t := 138) (cc_116) fr_RX8_76 rfl (by decide) (by decide) (by decide) dX8_mean_29 ?_
        refine g_kv h (g_runV X h (As := [.ref (zg Z 138)]) (rest := []) (c_X8_keep gl Z v w 138 (Or.inl rfl)) mi_X8_keep ml_RX8_276 (cc_116) (by decide) kl8 rfl ⟨Nat.le_of_ble_eq_true rfl, Nat.le_of_ble_eq_true rfl⟩ rfl hl.1 rfl (Nat.le_of_ble_eq_true rfl) dX8_mean_32) (fun v32 w32 H locs hp32 h => ?_)
        obtain ⟨ev32, rfl⟩ := Prod.mk.inj hp32
        replace ev32 := ev32.symm
        have hs32 := scM_kp ev32
        refine lv_aload_n hx hb dX8_mean_35 rfl (lv_at hl 0 rfl) ?_
        refine lv_iload_n hx hb dX8_mean_36 rfl (lv_at hl 1 rfl) ?_
        refine g_kv h (g_runV X h (As := [.int x0]) (rest := []) (c_X8_days gl Z v32 w x0 k hk n B L (hs32.DM hd) (by omega)) mi_X8_days ml_RX8_272 (cc_116) (by decide) kl8 rfl ⟨Nat.le_of_ble_eq_true rfl, Nat.le_of_ble_eq_true rfl⟩ rfl hl.1 rfl (Nat.le_of_ble_eq_true rfl) dX8_mean_37) (fun v37 w37 H locs hp37 h => ?_)
        obtain ⟨hx37, hw37, hf37⟩ := hp37
        obtain ⟨-, rfl⟩ := Prod.mk.inj hw37
        replace hx37 : xM v37 n L = _ := hx37
        replace hf37 : frM _ v37 := hf37
        rw [hs32.xM] at hx37
        have hn37 : v37 116 0 = nI n := by rw [hf37.2.1 0 (by decide) (by decide) (by decide), hs32 116 (by decide) (by decide)]; exact hn
        have hR37 := RX_daysS (L := L) h6 hrx k (by omega)
        have hth : ∀ p, p < n → v37 119 p = daysS (xM v n L) L n k 3 p := fun p hp => by rw [← hx37, xM_th (by omega)]
        refine lv_iconst (v := 0) hx hb dX8_mean_40 (by decide) ?_
        refine lv_istore_n (lv' := [(3, .int 0), (0, .ref (zg Z 116)), (1, .int x0), (2, .int x1)]) hx hb dX8_mean_41 rfl hl (by decide) rfl (fun ls hl => ?_)
        refine lv_iconst (v := 0) hx hb dX8_mean_42 (by decide) ?_
        refine lv_istore (lv' := [(4, .int 0), (3, .int 0), (0, .ref (zg Z 116)), (1, .int x0), (2, .int x1)]) hx hb dX8_mean_43 hl (by decide) rfl (fun ls hl => ?_)
        have L45 : ∀ (n45 : Nat) (i : Nat) (x3 x4 : Int32), (x4 = nI i) → (i ≤ n) → (x3 = lsum (daysS (xM v n L) L n k 3) i) → n - i < n45 → ∀ (H : Heap) (locs : List Loc), HS Z gs v37 w H locs → ∀ ls : Array Slot, lv_has ls 5 [(0, .ref (zg Z 116)), (1, .int x0), (2, .int x1), (3, .int x3), (4, .int x4)] → W gp gl ge (rmm 9 204) gs gm ga gb gh gc H locs 0 0 (MQ gb (Ql Z (fun r u => r = sMean (xM v n L) L n x0 x1 ∧ (u.1, w) = u ∧ scM v u.1)) ga gs 0 0 (zA Z)) (F0 gm 45 ls []) := by
          intro n45
          induction n45 with
          | zero => intro i x3 x4 hx4 hi hx3 hmu; exact absurd hmu (Nat.not_lt_zero _)
          | succ n45 ih45 =>
            intro i x3 x4 hx4 hi hx3 hmu45 H locs h ls hl
            refine lv_iload hx hb dX8_mean_45 (lv_at hl 4 rfl) ?_
            refine lv_aload_n hx hb dX8_mean_47 rfl (lv_at hl 0 rfl) ?_
            refine g_geti X h (k := 0) (cc_116) fr_RX8_111 rfl (by decide) dX8_mean_48 ?_
            refine lv_icmp_ge (tgt := 70) hx hb dX8_mean_51 (by decide) (fun c_51 => ?_) (fun c_51 => ?_)
            · skip
              have hil := nI_le1 (a := n) (b := i) hn37 hx4 (by omega) (by omega) c_51
              refine lv_aload_n hx hb dX8_mean_70 rfl (lv_at hl 0 rfl) ?_
              refine lv_aload_n hx hb dX8_mean_71 rfl (lv_at hl 0 rfl) ?_
              refine g_getr X h (k := 39) (t := 138) (cc_116) fr_RX8_76 rfl (by decide) (by decide) (by decide) dX8_mean_72 ?_
              have hsa := again_all ev32 hf37
              obtain ⟨m, hm, hm9⟩ := lsum_nat (f := daysS (xM v n L) L n k 3) (n := n) h6 (fun p hp => (hR37.1 p hp).2.2.1) i hi
              refine g_kv h (g_runV X h (As := [.ref (zg Z 138)]) (rest := []) (c_X8_again gl Z v37 w 138 (Or.inl rfl)) mi_X8_again ml_RX8_280 (cc_116) (by decide) kl8 rfl ⟨Nat.le_of_ble_eq_true rfl, Nat.le_of_ble_eq_true rfl⟩ rfl hl.1 rfl (Nat.le_of_ble_eq_true rfl) dX8_mean_75) (fun v75 w75 H locs hp75 h => ?_)
              obtain ⟨ev75, rfl⟩ := Prod.mk.inj hp75
              replace ev75 := ev75.symm
              refine lv_iload_n hx hb dX8_mean_78 rfl (lv_at hl 3 rfl) ?_
              have hn75 : v75 116 0 = nI n := by rw [ev75, hsa 116 (by decide) (by decide)]; exact hn
              refine lv_aload_n hx hb dX8_mean_79 rfl (lv_at hl 0 rfl) ?_
              refine g_geti X h (k := 0) (cc_116) fr_RX8_111 rfl (by decide) dX8_mean_80 ?_
              refine lv_iload_n hx hb dX8_mean_83 rfl (lv_at hl 2 rfl) ?_
              refine g_kl h (g_runS X h (As := [.int x3, .int (v75 116 0), .int x1]) (rest := []) (c_X8_part gl Z v75 w x3 m (hx3.trans hm) (v75 116 0) n hn75 x1 hn0 (by omega) (by omega)) ms_X8_part ml_RX8_304 ⟨Nat.le_of_ble_eq_true rfl, Nat.le_of_ble_eq_true rfl⟩ rfl hl.1 rfl (Nat.le_of_ble_eq_true rfl) dX8_mean_84) (fun r84 v84 w84 H locs hp84 h => ?_)
              obtain ⟨hr84, hu84⟩ := hp84; obtain ⟨rfl, rfl⟩ := Prod.mk.inj hu84
              exact g_lret X h dX8_mean_87 (by have e : i = n := (by omega); subst e; exact ⟨by rw [hr84]; simp [sMean, c_4, c_13, hkc, hm, nI_clamp (show m < 2 ^ 31 by omega), hn0], rfl, by show scM v v75; rw [ev75]; exact hsa⟩)
            · skip
              have hil := nI_le0 (a := n) (b := i) hn37 hx4 (by omega) (by omega) c_51
              refine lv_iload_n hx hb dX8_mean_54 rfl (lv_at hl 3 rfl) ?_
              refine lv_aload_n hx hb dX8_mean_55 rfl (lv_at hl 0 rfl) ?_
              refine g_getr X h (k := 3) (t := 119) (cc_116) fr_RX8_18 rfl (by decide) (by decide) (by decide) dX8_mean_56 ?_
              refine lv_iload hx hb dX8_mean_59 (lv_at hl 4 rfl) ?_
              refine g_iald X h (k := i) (cc_119) hx4 (by omega) (by decide) dX8_mean_61 ?_
              refine lv_iadd hx hb dX8_mean_62 ?_
              refine lv_topi (fun x3_63 ex3_63 => ?_)
              refine lv_istore_n (lv' := [(3, .int x3_63), (0, .ref (zg Z 116)), (1, .int x0), (2, .int x1), (4, .int x4)]) hx hb dX8_mean_63 rfl hl (by decide) rfl (fun ls hl => ?_)
              refine lv_iinc (v := (x4 + 1)) (lv' := [(4, .int (x4 + 1)), (3, .int x3_63), (0, .ref (zg Z 116)), (1, .int x0), (2, .int x1)]) hx hb dX8_mean_64 hl (k := 4) rfl rfl (by decide) rfl (fun ls hl => ?_)
              refine lv_goto (tgt := 45) hx hb dX8_mean_67 (by decide) ?_
              exact ih45 (i + 1) x3_63 (x4 + 1) (by rw [hx4]; exact nI_1 _) (by omega) (by rw [ex3_63, hx3, hth i hil]; rfl) (by omega) _ _ h ls (lv_sub hl [2, 3, 4, 1, 0] rfl)
        exact L45 (n - 0 + 1) 0 0 0 rfl (Nat.zero_le _) rfl (Nat.lt_succ_self _) _ _ h ls (lv_sub hl [2, 3, 4, 1, 0] rfl)
      · skip
        have hn0 : n = 0 := nI_inj (by omega) (by omega) (hn.symm.trans c_20)
        refine lv_ldc2 hx hb X.ow (X.ts _ cl_RX8_302) dX8_mean_23 ?_
        exact g_lret X h dX8_mean_26 ⟨by first | (simp [sMean, c_4, c_13, c_20]; done) | (simp [sMean, c_4, c_13, c_20, hn0]; done) | (simp [sMean, hn0]; rfl) | (simp [sMean, c_4, c_13, c_20]; rfl), rfl, scM_refl v⟩
