theorem inR_isP' {n : Nat} {x : Int32} (h : n < 1000) : inR x 0 (nI n - 1) = isP (nI n) x := by
  have e2 : (nI n).toInt = n := nI_toInt (by omega)
  have e : (nI n - 1).toInt = (n : Int) - 1 := by rw [i_sub (by simp [e2]; omega) (by simp [e2]; omega), e2]; rfl
  unfold inR isP
  congr 1
  simp only [decide_eq_decide, i_le, i_lt, e, e2]
  omega
def actV (own : Nat) (a p vv x : Int32) : Int32 := if a = 0 then opV own p vv x else if a = 1 then prV own own p vv x else tlV own own p vv x
def actL (own : Nat) (a : Int32) : List Int32 := if a = 0 then opL own else if a = 1 then prL own own else tlL own own
def sAct (n : Nat) (kd vv : Nat → Int32) (x a y : Int32) : Int32 := if isP (nI n) x && inR a 0 2 then actV (kd x.toNatClampNeg).toNatClampNeg a x (vv x.toNatClampNeg) y else 0
def lAct (n : Nat) (kd : Nat → Int32) (x a : Int32) : List Int32 := if isP (nI n) x && inR a 0 2 then actL (kd x.toNatClampNeg).toNatClampNeg a else []
theorem up43 {v : VV} : up2 v 116 43 0 116 43 = nI 0 := by simp [up2]; rfl
def sTrace (t : Nat) (tr : Nat → Int32) (x : Int32) : Int32 := if isP (nI (min t 20)) x then tr x.toNatClampNeg else -1
theorem min20 {x : Int32} {t : Nat} (h : x = nI t) (ht : t < 1000) : (if x < 20 then x else 20) = nI (min t 20) := by
  subst h
  show (if nI t < nI 20 then nI t else nI 20) = _
  rcases Nat.lt_or_ge t 20 with q | q
  · rw [if_pos (nI_lt (b := 20) q (by omega)), Nat.min_eq_left (by omega)]
  · rw [if_neg (nI_nlt (b := 20) q (by omega)), Nat.min_eq_right q]
def undS (u k : Nat) : Bool := decide (u = k) || decide (k = 0) || (decide (u = 4) && decide (k = 1)) || (decide (u = 5) && decide (k = 2)) || (decide (u = 6) && decide (k = 3))
def abN (u : Nat) : Nat := if u = 4 then 1 else if u = 5 then 2 else if u = 6 then 3 else 0
theorem abS_N {x : Int32} {u : Nat} (h : x = nI u) (hu : u ≤ 6) : abS x = nI (abN u) := by
  subst h
  rcases (show u = 0 ∨ u = 1 ∨ u = 2 ∨ u = 3 ∨ u = 4 ∨ u = 5 ∨ u = 6 by omega) with rfl | rfl | rfl | rfl | rfl | rfl | rfl <;> decide
theorem und_up {u k : Nat} (hu : u ≤ 6) (h0 : 0 < u) (hk : k ≤ 6) (hne : u ≠ k) : undS (abN u) k = undS u k := by
  rcases (show u = 1 ∨ u = 2 ∨ u = 3 ∨ u = 4 ∨ u = 5 ∨ u = 6 by omega) with rfl | rfl | rfl | rfl | rfl | rfl <;>
  rcases (show k = 0 ∨ k = 1 ∨ k = 2 ∨ k = 3 ∨ k = 4 ∨ k = 5 ∨ k = 6 by omega) with rfl | rfl | rfl | rfl | rfl | rfl | rfl <;> first | decide | exact absurd rfl hne
theorem abN_lt {u : Nat} (h0 : 0 < u) : abN u < u := by unfold abN; split <;> (try split) <;> (try split) <;> omega
def sTaken (n : Nat) (kd : Nat → Int32) (x k : Int32) : Int32 := if inR k 0 6 then (if isP (nI n) x then (if undS (kd x.toNatClampNeg).toNatClampNeg k.toNatClampNeg then kd x.toNatClampNeg else -12) else -11) else -2
def sCount (a b c d e f g h x : Int32) : Int32 := if x = 0 then a else if x = 1 then b else if x = 2 then c else if x = 3 then d else if x = 4 then e else if x = 5 then f else if x = 6 then g else if x = 7 then h else -2
/-! tapes -/
def zrL (f : Nat → Int64) (a k : Nat) : Nat → Int64 := fun j => if a ≤ j ∧ j < a + k then 0 else f j
theorem zrL_0 (f : Nat → Int64) (a : Nat) : zrL f a 0 = f := by funext j; simp [zrL]; omega
theorem zrL_succ (f : Nat → Int64) (a k : Nat) : vp_updL (zrL f a k) (a + k) 0 = zrL f a (k + 1) := by
  funext j
  simp only [vp_updL, zrL]
  by_cases h : j = a + k
  · subst h; simp
  · rw [if_neg h]
    by_cases h2 : a ≤ j ∧ j < a + k
    · rw [if_pos h2, if_pos (by omega)]
    · rw [if_neg h2, if_neg (by omega)]
theorem upcL_self (w : WV) (i : Nat) : upcL w i (w i) = w := by funext j; by_cases h : j = i <;> simp [upcL, h]
theorem up2L_upcL (w : WV) (i k : Nat) (f : Nat → Int64) (x : Int64) : up2L (upcL w i f) i k x = upcL w i (vp_updL f k x) := by
  funext j a
  by_cases h : j = i <;> simp [upcL, up2L, vp_updL, h]
def okTape (t s n : Int32) : Bool := inR t 0 5 && inR s (-1) 4 && (decide (s < 0) || (decide (0 ≤ n) && decide (n ≤ 60)))
def sTape (t s n : Int32) : Int32 := if inR t 0 5 then (if inR s (-1) 4 && (decide (s < 0) || decide (n ≤ 60)) then (if decide (0 ≤ s) && decide (n < 0) then -14 else 1) else -2) else -1
def keptS (s : Int32) (x : Int64) : Int64 := if s = 0 then x.toInt32.toInt8.toInt32.toInt64 else if s = 1 then x.toInt32.toInt16.toInt32.toInt64 else if s = 2 then x.toInt32.toInt64 else if s = 3 then x else if x = 0 then 0 else 1
theorem cmp_eq {x y : Int64} : lg_cmp x y = 0 ↔ x = y := by
  unfold lg_cmp
  split
  · rename_i h
    constructor
    · intro e; exact absurd e (by decide)
    · intro e; subst e; exact absurd h (by simp [Int64.lt_irrefl])
  · split
    · rename_i h; exact ⟨fun _ => h, fun _ => rfl⟩
    · rename_i h; constructor
      · intro e; exact absurd e (by decide)
      · intro e; exact absurd e h
theorem cmp_lt {x y : Int64} : lg_cmp x y < 0 ↔ x < y := by
  unfold lg_cmp
  split
  · rename_i h
    constructor
    · intro e; exact absurd e (by decide)
    · intro e; have a := Int64.lt_iff_toInt_lt.mp e; have b := Int64.lt_iff_toInt_lt.mp h; omega
  · rename_i h0
    split
    · rename_i h; subst h; constructor
      · intro e; exact absurd e (by decide)
      · intro e; exact absurd e h0
    · rename_i h; constructor
      · intro _
        have a : ¬ y.toInt < x.toInt := fun q => h0 (Int64.lt_iff_toInt_lt.mpr q)
        have b : x.toInt ≠ y.toInt := fun q => h (Int64.toInt_inj.mp q)
        exact Int64.lt_iff_toInt_lt.mpr (by omega)
      · intro _; decide
theorem cmp_gt {x y : Int64} : 0 < lg_cmp x y ↔ y < x := by
  unfold lg_cmp
  split
  · rename_i h; exact ⟨fun _ => h, fun _ => by decide⟩
  · rename_i h0
    split
    · constructor
      · intro e; exact absurd e (by decide)
      · intro e; exact absurd e h0
    · constructor
      · intro e; exact absurd e (by decide)
      · intro e; exact absurd e h0
def TIv (ts sz : Nat → Int32) : Prop := ∀ t, t < 6 → (ts t = -1 ∧ sz t = 0) ∨ (∃ s z, s ≤ 4 ∧ z ≤ 60 ∧ ts t = nI s ∧ sz t = nI z)
def sItem (ts sz : Nat → Int32) (t i : Int32) : Int32 := if inR t 0 5 then (if ts t.toNatClampNeg < 0 then -11 else (if isP (sz t.toNatClampNeg) i then 1 else -13)) else -1
def okItem (ts sz : Nat → Int32) (t i : Int32) : Bool := inR t 0 5 && decide (¬ ts t.toNatClampNeg < 0) && isP (sz t.toNatClampNeg) i
def okRead (ts sz : Nat → Int32) (t i : Int32) : Bool := inR t 0 5 && decide (¬ ts t.toNatClampNeg < 0) && isP (sz t.toNatClampNeg) i
def sRead (ts sz : Nat → Int32) (it : Nat → Int64) (t i : Int32) : Int64 := if okRead ts sz t i then it (60 * t.toNatClampNeg + i.toNatClampNeg) else NOv
theorem sz_nat {ts sz : Nat → Int32} (h : TIv ts sz) {t : Nat} (ht : t < 6) : ∃ z, z ≤ 60 ∧ sz t = nI z := by
  rcases h t ht with ⟨-, e⟩ | ⟨s, z, hs, hz, e1, e2⟩
  · exact ⟨0, by omega, e⟩
  · exact ⟨z, hz, e2⟩
def lI (x : Int32) : Int64 := x.toInt64
/-- would n from i on stand within z -/
def outS (z i n : Int32) : Bool := decide (z.toInt64 < i.toInt64 + n.toInt64)
def okShift (ts sz : Nat → Int32) (t i o j n : Int32) : Bool := inR t 0 5 && inR o 0 5 && decide (¬ ts t.toNatClampNeg < 0) && decide (¬ ts o.toNatClampNeg < 0) && decide (ts t.toNatClampNeg = ts o.toNatClampNeg) && decide (¬ n < 0) && decide (¬ i < 0) && decide (¬ j < 0) && !outS (sz t.toNatClampNeg) i n && !outS (sz o.toNatClampNeg) j n
def sShift (ts sz : Nat → Int32) (t i o j n : Int32) : Int32 := if inR t 0 5 && inR o 0 5 then (if decide (ts t.toNatClampNeg < 0) || decide (ts o.toNatClampNeg < 0) then -11 else (if ts t.toNatClampNeg = ts o.toNatClampNeg then (if decide (n < 0) || decide (i < 0) || decide (j < 0) || outS (sz t.toNatClampNeg) i n || outS (sz o.toNatClampNeg) j n then -13 else n) else -12)) else -1
/-- in, told in numbers -/
theorem out_nat {z i n : Nat} {xz xi xn : Int32} (hz : xz = nI z) (hi : xi = nI i) (hn : xn = nI n) (hz2 : z < 2 ^ 31) (hi2 : i < 2 ^ 31) (hn2 : n < 2 ^ 31) : (xz.toInt64 < xi.toInt64 + xn.toInt64) ↔ z < i + n := by
  subst hz; subst hi; subst hn
  rw [nI_l hz2, nI_l hi2, nI_l hn2, lN_add]
  exact pk_lLT (by omega) (by omega)
/-- copied forth, k done -/
def cpF (f : Nat → Int64) (a b k : Nat) : Nat → Int64 := va_cpy f f a b k
theorem cpF_0 (f : Nat → Int64) (a b : Nat) : va_cpy f f a b 0 = f := by funext j; simp [va_cpy]; omega
theorem cpF_s {f : Nat → Int64} {a b k : Nat} (h : b ≤ a ∨ a + k < b) : vp_updL (va_cpy f f a b k) (b + k) (va_cpy f f a b k (a + k)) = va_cpy f f a b (k + 1) := by
  funext j
  simp only [vp_updL, va_cpy]
  by_cases e : j = b + k
  · subst e
    rw [if_pos rfl, if_neg (by omega), if_pos (by omega)]
    congr 1; omega
  · rw [if_neg e]
    by_cases e2 : b ≤ j ∧ j < b + k
    · rw [if_pos e2, if_pos (by omega)]
    · rw [if_neg e2, if_neg (by omega)]
/-- copied back, the last k done -/
def cpB (f : Nat → Int64) (a b n k : Nat) : Nat → Int64 := fun j => if b + (n - k) ≤ j ∧ j < b + n then f (a + (j - b)) else f j
theorem cpB_0 (f : Nat → Int64) (a b n : Nat) : cpB f a b n 0 = f := by funext j; simp [cpB]; omega
theorem cpB_s {f : Nat → Int64} {a b n k : Nat} (hk : k < n) (h : a < b) : vp_updL (cpB f a b n k) (b + (n - (k + 1))) (cpB f a b n k (a + (n - (k + 1)))) = cpB f a b n (k + 1) := by
  funext j
  simp only [vp_updL, cpB]
  by_cases e : j = b + (n - (k + 1))
  · subst e
    rw [if_pos rfl, if_neg (by omega), if_pos (by omega)]
    congr 1; omega
  · rw [if_neg e]
    by_cases e2 : b + (n - k) ≤ j ∧ j < b + n
    · rw [if_pos e2, if_pos (by omega)]
    · rw [if_neg e2, if_neg (by omega)]
theorem cpB_e (f : Nat → Int64) (a b n : Nat) : cpB f a b n n = va_cpy f f a b n := by funext j; simp [cpB, va_cpy]
set_option maxRecDepth 100000 in
set_option maxHeartbeats 1000000 in
theorem c_X8_act (gl : Launch) (Z : PL) (v : VV) (w : WV) (x0 : Int32) (x1 : Int32) (x2 : Int32) (n : Nat) (hn : v 116 0 = nI n) (h6 : n ≤ 6) (hkr : ∀ p, p < n → ∃ o, o ≤ 6 ∧ v 117 p = nI o) : CT gl yX8_act cX8_act 5 (some .int) 10 234 Z [.ref (zg Z 116), .int x0, .int x1, .int x2] v w (Qi Z (fun r u => r = sAct n (v 117) (v 118) x0 x1 x2 ∧ (ranL (up2 v 116 43 0) 0 (lAct n (v 117) x0 x1), w) = u)) := by
  refine g_met (by decide) (Nat.le_of_ble_eq_true rfl) ?_
  intro gp ge gs gm ga gb gh gc X h ls hl
  have hx := X.1
  have hb := X.2.1
  have hl : lv_has ls 5 [(0, .ref (zg Z 116)), (1, .int x0), (2, .int x1), (3, .int x2)] := hl
  refine lv_aload_n hx hb dX8_act_0 rfl (lv_at hl 0 rfl) ?_
  refine lv_iconst (v := 0) hx hb dX8_act_1 (by decide) ?_
  refine g_puti X h (k := 43) (cc_116) fp_RX8_318 rfl (by decide) dX8_act_2 (fun v2 H locs ev2 h => ?_)
  refine lv_aload_n hx hb dX8_act_5 rfl (lv_at hl 0 rfl) ?_
  refine lv_iload_n hx hb dX8_act_6 rfl (lv_at hl 1 rfl) ?_
  refine g_ki h (g_runV X h (As := [.int x0]) (rest := []) (c_X8_isOne gl Z v2 w x0 n (by rw [ev2]; simp [up2]; exact hn) h6) mi_X8_isOne ml_RX8_118 (cc_116) (by decide) kl8 rfl ⟨Nat.le_of_ble_eq_true rfl, Nat.le_of_ble_eq_true rfl⟩ rfl hl.1 rfl (Nat.le_of_ble_eq_true rfl) dX8_act_7) (fun r7 v7 w7 H locs hp7 h => ?_)
  obtain ⟨hr7, hu7⟩ := hp7; obtain ⟨rfl, rfl⟩ := Prod.mk.inj hu7
  refine lv_if_eq (tgt := 22) hx hb dX8_act_10 (by decide) (fun c_10 => ?_) (fun c_10 => ?_)
  · skip
    rw [hr7, bI_0] at c_10
    refine lv_iconst (v := 0) hx hb dX8_act_22 (by decide) ?_
    exact g_iret X h dX8_act_23 ⟨by simp [sAct, c_10], by simp only [lAct, c_10]; first | rfl | (simp; exact congrArg (fun z => (z, w)) ev2.symm) | exact congrArg (fun z => (z, w)) ev2.symm⟩
  · skip
    rw [hr7, bI_n] at c_10
    obtain ⟨p, hp, hpn, hpc⟩ := isP_nat (by omega) c_10
    refine lv_iload_n hx hb dX8_act_13 rfl (lv_at hl 2 rfl) ?_
    refine lv_iconst (v := 0) hx hb dX8_act_14 (by decide) ?_
    refine lv_iconst (v := 2) hx hb dX8_act_15 (by decide) ?_
    refine g_ki h (g_runS X h (As := [.int x1, .int 0, .int 2]) (rest := []) (c_X8_within gl Z v2 w x1 0 2) ms_X8_within ml_RX8_114 ⟨Nat.le_of_ble_eq_true rfl, Nat.le_of_ble_eq_true rfl⟩ rfl hl.1 rfl (Nat.le_of_ble_eq_true rfl) dX8_act_16) (fun r16 v16 w16 H locs hp16 h => ?_)
    obtain ⟨hr16, hu16⟩ := hp16; obtain ⟨rfl, rfl⟩ := Prod.mk.inj hu16
    refine lv_if_ne (tgt := 24) hx hb dX8_act_19 (by decide) (fun c_19 => ?_) (fun c_19 => ?_)
    · skip
      rw [hr16, bI_n] at c_19
      obtain ⟨own, ho6, hkd⟩ := hkr p hpn
      refine lv_aload_n hx hb dX8_act_24 rfl (lv_at hl 0 rfl) ?_
      refine g_getr X h (k := 1) (t := 117) (cc_116) fr_RX8_9 rfl (by decide) (by decide) (by decide) dX8_act_25 ?_
      refine lv_iload_n hx hb dX8_act_28 rfl (lv_at hl 1 rfl) ?_
      refine g_iald X h (k := p) (cc_117) hp (by omega) (by decide) dX8_act_29 ?_
      refine g_tr (y := (v 117 p)) (by simp [ev2, up2, upc]) ?_
      refine lv_topi (fun x4_30 ex4_30 => ?_)
      refine lv_istore (lv' := [(4, .int x4_30), (0, .ref (zg Z 116)), (1, .int x0), (2, .int x1), (3, .int x2)]) hx hb dX8_act_30 hl (by decide) rfl (fun ls hl => ?_)
      rcases kind7 hkd ho6 with hk7 | hk7 | hk7 | hk7 | hk7 | hk7 | hk7
      · skip
        obtain rfl : own = 0 := nI_eq1 (b := 0) hkd rfl (by omega) (by omega) hk7
        obtain rfl : x4_30 = 0 := ex4_30.trans hk7
        refine lv_iload_n hx hb dX8_act_32 rfl (lv_at hl 3 rfl) ?_
        refine lv_if_ne (tgt := 47) hx hb dX8_act_33 (by decide) (fun c_33 => ?_) (fun c_33 => ?_)
        · skip
          refine lv_iload_n hx hb dX8_act_47 rfl (lv_at hl 3 rfl) ?_
          refine lv_iconst (v := 1) hx hb dX8_act_48 (by decide) ?_
          refine lv_icmp_ne (tgt := 63) hx hb dX8_act_49 (by decide) (fun c_49 => ?_) (fun c_49 => ?_)
          · skip
            refine lv_aload_n hx hb dX8_act_63 rfl (lv_at hl 1 rfl) ?_
            refine lv_iload_n hx hb dX8_act_64 rfl (lv_at hl 2 rfl) ?_
            refine lv_iload hx hb dX8_act_65 (lv_at hl 0 rfl) ?_
            refine lv_iload_n hx hb dX8_act_67 rfl (lv_at hl 4 rfl) ?_
            refine g_ki h (g_runV X h (As := [.int x0, .int 0, .int x2]) (rest := []) (c_X8_tells_k0 gl Z v2 w x0 p hp x2 (by omega) 0 (by omega) 0 (by rw [ev2, up2_ne (by decide)]; exact hkd) (by rw [ev2]; exact up43) (by omega)) mi_X8_tells ml_RX8_332 (cc_116) (by decide) kl8 rfl ⟨Nat.le_of_ble_eq_true rfl, Nat.le_of_ble_eq_true rfl⟩ rfl hl.1 rfl (Nat.le_of_ble_eq_true rfl) dX8_act_68) (fun r68 v68 w68 H locs hp68 h => ?_)
            obtain ⟨hr68, hw68⟩ := hp68
            obtain ⟨ev68, rfl⟩ := Prod.mk.inj hw68
            replace ev68 := ev68.symm
            rw [ev2, up2_ne (by decide)] at hr68
            rw [ev2] at ev68
            exact g_iret X h dX8_act_71 ⟨by rw [hr68]; simp only [sAct, actV, c_10, c_19, Bool.and_self, if_true, hpc, hk7]; simp [c_33, c_49, show Int32.toNatClampNeg 0 = 0 from rfl], by rw [ev68]; simp only [lAct, actL, c_10, c_19, Bool.and_self, if_true, hpc, hk7]; simp [c_33, c_49, show Int32.toNatClampNeg 0 = 0 from rfl]⟩
          · skip
            refine lv_aload_n hx hb dX8_act_52 rfl (lv_at hl 1 rfl) ?_
            refine lv_iload_n hx hb dX8_act_53 rfl (lv_at hl 2 rfl) ?_
            refine lv_iload hx hb dX8_act_54 (lv_at hl 0 rfl) ?_
            refine lv_iload_n hx hb dX8_act_56 rfl (lv_at hl 4 rfl) ?_
            refine g_ki h (g_runV X h (As := [.int x0, .int 0, .int x2]) (rest := []) (c_X8_prays__k0 gl Z v2 w x0 p hp x2 (by omega) 0 (by omega) 0 (by rw [ev2, up2_ne (by decide)]; exact hkd) (by rw [ev2]; exact up43) (by omega)) mi_X8_prays_ ml_RX8_330 (cc_116) (by decide) kl8 rfl ⟨Nat.le_of_ble_eq_true rfl, Nat.le_of_ble_eq_true rfl⟩ rfl hl.1 rfl (Nat.le_of_ble_eq_true rfl) dX8_act_57) (fun r57 v57 w57 H locs hp57 h => ?_)
            obtain ⟨hr57, hw57⟩ := hp57
            obtain ⟨ev57, rfl⟩ := Prod.mk.inj hw57
            replace ev57 := ev57.symm
            rw [ev2, up2_ne (by decide)] at hr57
            rw [ev2] at ev57
            refine lv_goto (tgt := 71) hx hb dX8_act_60 (by decide) ?_
            exact g_iret X h dX8_act_71 ⟨by rw [hr57]; simp only [sAct, actV, c_10, c_19, Bool.and_self, if_true, hpc, hk7]; simp [c_33, c_49, show Int32.toNatClampNeg 0 = 0 from rfl], by rw [ev57]; simp only [lAct, actL, c_10, c_19, Bool.and_self, if_true, hpc, hk7]; simp [c_33, c_49, show Int32.toNatClampNeg 0 = 0 from rfl]⟩
        · skip
          refine lv_aload_n hx hb dX8_act_36 rfl (lv_at hl 1 rfl) ?_
          refine lv_iload_n hx hb dX8_act_37 rfl (lv_at hl 2 rfl) ?_
          refine lv_iload hx hb dX8_act_38 (lv_at hl 0 rfl) ?_
          refine lv_iload_n hx hb dX8_act_40 rfl (lv_at hl 4 rfl) ?_
          refine g_ki h (g_runV X h (As := [.int x0, .int 0, .int x2]) (rest := []) (c_X8_opens__k0 gl Z v2 w x0 p hp x2 (by omega) 0 (by omega) 0 (by rw [ev2, up2_ne (by decide)]; exact hkd) (by rw [ev2]; exact up43) (by omega)) mi_X8_opens_ ml_RX8_324 (cc_116) (by decide) kl8 rfl ⟨Nat.le_of_ble_eq_true rfl, Nat.le_of_ble_eq_true rfl⟩ rfl hl.1 rfl (Nat.le_of_ble_eq_true rfl) dX8_act_41) (fun r41 v41 w41 H locs hp41 h => ?_)
          obtain ⟨hr41, hw41⟩ := hp41
          obtain ⟨ev41, rfl⟩ := Prod.mk.inj hw41
          replace ev41 := ev41.symm
          rw [ev2, up2_ne (by decide)] at hr41
          rw [ev2] at ev41
          refine lv_goto (tgt := 71) hx hb dX8_act_44 (by decide) ?_
          exact g_iret X h dX8_act_71 ⟨by rw [hr41]; simp only [sAct, actV, c_10, c_19, Bool.and_self, if_true, hpc, hk7]; simp [c_33, show Int32.toNatClampNeg 0 = 0 from rfl], by rw [ev41]; simp only [lAct, actL, c_10, c_19, Bool.and_self, if_true, hpc, hk7]; simp [c_33, show Int32.toNatClampNeg 0 = 0 from rfl]⟩
      · skip
        obtain rfl : own = 1 := nI_eq1 (b := 1) hkd rfl (by omega) (by omega) hk7
        obtain rfl : x4_30 = 1 := ex4_30.trans hk7
        refine lv_iload_n hx hb dX8_act_32 rfl (lv_at hl 3 rfl) ?_
        refine lv_if_ne (tgt := 47) hx hb dX8_act_33 (by decide) (fun c_33 => ?_) (fun c_33 => ?_)
        · skip
          refine lv_iload_n hx hb dX8_act_47 rfl (lv_at hl 3 rfl) ?_
          refine lv_iconst (v := 1) hx hb dX8_act_48 (by decide) ?_
          refine lv_icmp_ne (tgt := 63) hx hb dX8_act_49 (by decide) (fun c_49 => ?_) (fun c_49 => ?_)
          · skip
            refine lv_aload_n hx hb dX8_act_63 rfl (lv_at hl 1 rfl) ?_
            refine lv_iload_n hx hb dX8_act_64 rfl (lv_at hl 2 rfl) ?_
            refine lv_iload hx hb dX8_act_65 (lv_at hl 0 rfl) ?_
            refine lv_iload_n hx hb dX8_act_67 rfl (lv_at hl 4 rfl) ?_
            refine g_ki h (g_runV X h (As := [.int x0, .int 1, .int x2]) (rest := []) (c_X8_tells_k1 gl Z v2 w x0 p hp x2 (by omega) 1 (by omega) 0 (by rw [ev2, up2_ne (by decide)]; exact hkd) (by rw [ev2]; exact up43) (by omega)) mi_X8_tells ml_RX8_332 (cc_116) (by decide) kl8 rfl ⟨Nat.le_of_ble_eq_true rfl, Nat.le_of_ble_eq_true rfl⟩ rfl hl.1 rfl (Nat.le_of_ble_eq_true rfl) dX8_act_68) (fun r68 v68 w68 H locs hp68 h => ?_)
            obtain ⟨hr68, hw68⟩ := hp68
            obtain ⟨ev68, rfl⟩ := Prod.mk.inj hw68
            replace ev68 := ev68.symm
            rw [ev2, up2_ne (by decide)] at hr68
            rw [ev2] at ev68
            exact g_iret X h dX8_act_71 ⟨by rw [hr68]; simp only [sAct, actV, c_10, c_19, Bool.and_self, if_true, hpc, hk7]; simp [c_33, c_49, show Int32.toNatClampNeg 1 = 1 from rfl], by rw [ev68]; simp only [lAct, actL, c_10, c_19, Bool.and_self, if_true, hpc, hk7]; simp [c_33, c_49, show Int32.toNatClampNeg 1 = 1 from rfl]⟩
          · skip
            refine lv_aload_n hx hb dX8_act_52 rfl (lv_at hl 1 rfl) ?_
            refine lv_iload_n hx hb dX8_act_53 rfl (lv_at hl 2 rfl) ?_
            refine lv_iload hx hb dX8_act_54 (lv_at hl 0 rfl) ?_
            refine lv_iload_n hx hb dX8_act_56 rfl (lv_at hl 4 rfl) ?_
            refine g_ki h (g_runV X h (As := [.int x0, .int 1, .int x2]) (rest := []) (c_X8_prays__k1 gl Z v2 w x0 p hp x2 (by omega) 1 (by omega) 0 (by rw [ev2, up2_ne (by decide)]; exact hkd) (by rw [ev2]; exact up43) (by omega)) mi_X8_prays_ ml_RX8_330 (cc_116) (by decide) kl8 rfl ⟨Nat.le_of_ble_eq_true rfl, Nat.le_of_ble_eq_true rfl⟩ rfl hl.1 rfl (Nat.le_of_ble_eq_true rfl) dX8_act_57) (fun r57 v57 w57 H locs hp57 h => ?_)
            obtain ⟨hr57, hw57⟩ := hp57
            obtain ⟨ev57, rfl⟩ := Prod.mk.inj hw57
            replace ev57 := ev57.symm
            rw [ev2, up2_ne (by decide)] at hr57
            rw [ev2] at ev57
            refine lv_goto (tgt := 71) hx hb dX8_act_60 (by decide) ?_
            exact g_iret X h dX8_act_71 ⟨by rw [hr57]; simp only [sAct, actV, c_10, c_19, Bool.and_self, if_true, hpc, hk7]; simp [c_33, c_49, show Int32.toNatClampNeg 1 = 1 from rfl], by rw [ev57]; simp only [lAct, actL, c_10, c_19, Bool.and_self, if_true, hpc, hk7]; simp [c_33, c_49, show Int32.toNatClampNeg 1 = 1 from rfl]⟩
        · skip
          refine lv_aload_n hx hb dX8_act_36 rfl (lv_at hl 1 rfl) ?_
          refine lv_iload_n hx hb dX8_act_37 rfl (lv_at hl 2 rfl) ?_
          refine lv_iload hx hb dX8_act_38 (lv_at hl 0 rfl) ?_
          refine lv_iload_n hx hb dX8_act_40 rfl (lv_at hl 4 rfl) ?_
          refine g_ki h (g_runV X h (As := [.int x0, .int 1, .int x2]) (rest := []) (c_X8_opens__k1 gl Z v2 w x0 p hp x2 (by omega) 1 (by omega) 0 (by rw [ev2, up2_ne (by decide)]; exact hkd) (by rw [ev2]; exact up43) (by omega)) mi_X8_opens_ ml_RX8_324 (cc_116) (by decide) kl8 rfl ⟨Nat.le_of_ble_eq_true rfl, Nat.le_of_ble_eq_true rfl⟩ rfl hl.1 rfl (Nat.le_of_ble_eq_true rfl) dX8_act_41) (fun r41 v41 w41 H locs hp41 h => ?_)
          obtain ⟨hr41, hw41⟩ := hp41
          obtain ⟨ev41, rfl⟩ := Prod.mk.inj hw41
          replace ev41 := ev41.symm
          rw [ev2, up2_ne (by decide)] at hr41
          rw [ev2] at ev41
          refine lv_goto (tgt := 71) hx hb dX8_act_44 (by decide) ?_
          exact g_iret X h dX8_act_71 ⟨by rw [hr41]; simp only [sAct, actV, c_10, c_19, Bool.and_self, if_true, hpc, hk7]; simp [c_33, show Int32.toNatClampNeg 1 = 1 from rfl], by rw [ev41]; simp only [lAct, actL, c_10, c_19, Bool.and_self, if_true, hpc, hk7]; simp [c_33, show Int32.toNatClampNeg 1 = 1 from rfl]⟩
      · skip
        obtain rfl : own = 2 := nI_eq1 (b := 2) hkd rfl (by omega) (by omega) hk7
        obtain rfl : x4_30 = 2 := ex4_30.trans hk7
        refine lv_iload_n hx hb dX8_act_32 rfl (lv_at hl 3 rfl) ?_
        refine lv_if_ne (tgt := 47) hx hb dX8_act_33 (by decide) (fun c_33 => ?_) (fun c_33 => ?_)
        · skip
          refine lv_iload_n hx hb dX8_act_47 rfl (lv_at hl 3 rfl) ?_
          refine lv_iconst (v := 1) hx hb dX8_act_48 (by decide) ?_
          refine lv_icmp_ne (tgt := 63) hx hb dX8_act_49 (by decide) (fun c_49 => ?_) (fun c_49 => ?_)
          · skip
            refine lv_aload_n hx hb dX8_act_63 rfl (lv_at hl 1 rfl) ?_
            refine lv_iload_n hx hb dX8_act_64 rfl (lv_at hl 2 rfl) ?_
            refine lv_iload hx hb dX8_act_65 (lv_at hl 0 rfl) ?_
            refine lv_iload_n hx hb dX8_act_67 rfl (lv_at hl 4 rfl) ?_
            refine g_ki h (g_runV X h (As := [.int x0, .int 2, .int x2]) (rest := []) (c_X8_tells_k2 gl Z v2 w x0 p hp x2 (by omega) 2 (by omega) 0 (by rw [ev2, up2_ne (by decide)]; exact hkd) (by rw [ev2]; exact up43) (by omega)) mi_X8_tells ml_RX8_332 (cc_116) (by decide) kl8 rfl ⟨Nat.le_of_ble_eq_true rfl, Nat.le_of_ble_eq_true rfl⟩ rfl hl.1 rfl (Nat.le_of_ble_eq_true rfl) dX8_act_68) (fun r68 v68 w68 H locs hp68 h => ?_)
            obtain ⟨hr68, hw68⟩ := hp68
            obtain ⟨ev68, rfl⟩ := Prod.mk.inj hw68
            replace ev68 := ev68.symm
            rw [ev2, up2_ne (by decide)] at hr68
            rw [ev2] at ev68
            exact g_iret X h dX8_act_71 ⟨by rw [hr68]; simp only [sAct, actV, c_10, c_19, Bool.and_self, if_true, hpc, hk7]; simp [c_33, c_49, show Int32.toNatClampNeg 2 = 2 from rfl], by rw [ev68]; simp only [lAct, actL, c_10, c_19, Bool.and_self, if_true, hpc, hk7]; simp [c_33, c_49, show Int32.toNatClampNeg 2 = 2 from rfl]⟩
          · skip
            refine lv_aload_n hx hb dX8_act_52 rfl (lv_at hl 1 rfl) ?_
            refine lv_iload_n hx hb dX8_act_53 rfl (lv_at hl 2 rfl) ?_
            refine lv_iload hx hb dX8_act_54 (lv_at hl 0 rfl) ?_
            refine lv_iload_n hx hb dX8_act_56 rfl (lv_at hl 4 rfl) ?_
            refine g_ki h (g_runV X h (As := [.int x0, .int 2, .int x2]) (rest := []) (c_X8_prays__k2 gl Z v2 w x0 p hp x2 (by omega) 2 (by omega) 0 (by rw [ev2, up2_ne (by decide)]; exact hkd) (by rw [ev2]; exact up43) (by omega)) mi_X8_prays_ ml_RX8_330 (cc_116) (by decide) kl8 rfl ⟨Nat.le_of_ble_eq_true rfl, Nat.le_of_ble_eq_true rfl⟩ rfl hl.1 rfl (Nat.le_of_ble_eq_true rfl) dX8_act_57) (fun r57 v57 w57 H locs hp57 h => ?_)
            obtain ⟨hr57, hw57⟩ := hp57
            obtain ⟨ev57, rfl⟩ := Prod.mk.inj hw57
            replace ev57 := ev57.symm
            rw [ev2, up2_ne (by decide)] at hr57
            rw [ev2] at ev57
            refine lv_goto (tgt := 71) hx hb dX8_act_60 (by decide) ?_
            exact g_iret X h dX8_act_71 ⟨by rw [hr57]; simp only [sAct, actV, c_10, c_19, Bool.and_self, if_true, hpc, hk7]; simp [c_33, c_49, show Int32.toNatClampNeg 2 = 2 from rfl], by rw [ev57]; simp only [lAct, actL, c_10, c_19, Bool.and_self, if_true, hpc, hk7]; simp [c_33, c_49, show Int32.toNatClampNeg 2 = 2 from rfl]⟩
        · skip
          refine lv_aload_n hx hb dX8_act_36 rfl (lv_at hl 1 rfl) ?_
          refine lv_iload_n hx hb dX8_act_37 rfl (lv_at hl 2 rfl) ?_
          refine lv_iload hx hb dX8_act_38 (lv_at hl 0 rfl) ?_
          refine lv_iload_n hx hb dX8_act_40 rfl (lv_at hl 4 rfl) ?_
          refine g_ki h (g_runV X h (As := [.int x0, .int 2, .int x2]) (rest := []) (c_X8_opens__k2 gl Z v2 w x0 p hp x2 (by omega) 2 (by omega) 0 (by rw [ev2, up2_ne (by decide)]; exact hkd) (by rw [ev2]; exact up43) (by omega)) mi_X8_opens_ ml_RX8_324 (cc_116) (by decide) kl8 rfl ⟨Nat.le_of_ble_eq_true rfl, Nat.le_of_ble_eq_true rfl⟩ rfl hl.1 rfl (Nat.le_of_ble_eq_true rfl) dX8_act_41) (fun r41 v41 w41 H locs hp41 h => ?_)
          obtain ⟨hr41, hw41⟩ := hp41
          obtain ⟨ev41, rfl⟩ := Prod.mk.inj hw41
          replace ev41 := ev41.symm
          rw [ev2, up2_ne (by decide)] at hr41
          rw [ev2] at ev41
          refine lv_goto (tgt := 71) hx hb dX8_act_44 (by decide) ?_
          exact g_iret X h dX8_act_71 ⟨by rw [hr41]; simp only [sAct, actV, c_10, c_19, Bool.and_self, if_true, hpc, hk7]; simp [c_33, show Int32.toNatClampNeg 2 = 2 from rfl], by rw [ev41]; simp only [lAct, actL, c_10, c_19, Bool.and_self, if_true, hpc, hk7]; simp [c_33, show Int32.toNatClampNeg 2 = 2 from rfl]⟩
      · skip
        obtain rfl : own = 3 := nI_eq1 (b := 3) hkd rfl (by omega) (by omega) hk7
        obtain rfl : x4_30 = 3 := ex4_30.trans hk7
        refine lv_iload_n hx hb dX8_act_32 rfl (lv_at hl 3 rfl) ?_
        refine lv_if_ne (tgt := 47) hx hb dX8_act_33 (by decide) (fun c_33 => ?_) (fun c_33 => ?_)
        · skip
          refine lv_iload_n hx hb dX8_act_47 rfl (lv_at hl 3 rfl) ?_
          refine lv_iconst (v := 1) hx hb dX8_act_48 (by decide) ?_
          refine lv_icmp_ne (tgt := 63) hx hb dX8_act_49 (by decide) (fun c_49 => ?_) (fun c_49 => ?_)
          · skip
            refine lv_aload_n hx hb dX8_act_63 rfl (lv_at hl 1 rfl) ?_
            refine lv_iload_n hx hb dX8_act_64 rfl (lv_at hl 2 rfl) ?_
            refine lv_iload hx hb dX8_act_65 (lv_at hl 0 rfl) ?_
            refine lv_iload_n hx hb dX8_act_67 rfl (lv_at hl 4 rfl) ?_
            refine g_ki h (g_runV X h (As := [.int x0, .int 3, .int x2]) (rest := []) (c_X8_tells_k3 gl Z v2 w x0 p hp x2 (by omega) 3 (by omega) 0 (by rw [ev2, up2_ne (by decide)]; exact hkd) (by rw [ev2]; exact up43) (by omega)) mi_X8_tells ml_RX8_332 (cc_116) (by decide) kl8 rfl ⟨Nat.le_of_ble_eq_true rfl, Nat.le_of_ble_eq_true rfl⟩ rfl hl.1 rfl (Nat.le_of_ble_eq_true rfl) dX8_act_68) (fun r68 v68 w68 H locs hp68 h => ?_)
            obtain ⟨hr68, hw68⟩ := hp68
            obtain ⟨ev68, rfl⟩ := Prod.mk.inj hw68
            replace ev68 := ev68.symm
            rw [ev2, up2_ne (by decide)] at hr68
            rw [ev2] at ev68
            exact g_iret X h dX8_act_71 ⟨by rw [hr68]; simp only [sAct, actV, c_10, c_19, Bool.and_self, if_true, hpc, hk7]; simp [c_33, c_49, show Int32.toNatClampNeg 3 = 3 from rfl], by rw [ev68]; simp only [lAct, actL, c_10, c_19, Bool.and_self, if_true, hpc, hk7]; simp [c_33, c_49, show Int32.toNatClampNeg 3 = 3 from rfl]⟩
          · skip
            refine lv_aload_n hx hb dX8_act_52 rfl (lv_at hl 1 rfl) ?_
            refine lv_iload_n hx hb dX8_act_53 rfl (lv_at hl 2 rfl) ?_
            refine lv_iload hx hb dX8_act_54 (lv_at hl 0 rfl) ?_
            refine lv_iload_n hx hb dX8_act_56 rfl (lv_at hl 4 rfl) ?_
            refine g_ki h (g_runV X h (As := [.int x0, .int 3, .int x2]) (rest := []) (c_X8_prays__k3 gl Z v2 w x0 p hp x2 (by omega) 3 (by omega) 0 (by rw [ev2, up2_ne (by decide)]; exact hkd) (by rw [ev2]; exact up43) (by omega)) mi_X8_prays_ ml_RX8_330 (cc_116) (by decide) kl8 rfl ⟨Nat.le_of_ble_eq_true rfl, Nat.le_of_ble_eq_true rfl⟩ rfl hl.1 rfl (Nat.le_of_ble_eq_true rfl) dX8_act_57) (fun r57 v57 w57 H locs hp57 h => ?_)
            obtain ⟨hr57, hw57⟩ := hp57
            obtain ⟨ev57, rfl⟩ := Prod.mk.inj hw57
            replace ev57 := ev57.symm
            rw [ev2, up2_ne (by decide)] at hr57
            rw [ev2] at ev57
            refine lv_goto (tgt := 71) hx hb dX8_act_60 (by decide) ?_
            exact g_iret X h dX8_act_71 ⟨by rw [hr57]; simp only [sAct, actV, c_10, c_19, Bool.and_self, if_true, hpc, hk7]; simp [c_33, c_49, show Int32.toNatClampNeg 3 = 3 from rfl], by rw [ev57]; simp only [lAct, actL, c_10, c_19, Bool.and_self, if_true, hpc, hk7]; simp [c_33, c_49, show Int32.toNatClampNeg 3 = 3 from rfl]⟩
        · skip
          refine lv_aload_n hx hb dX8_act_36 rfl (lv_at hl 1 rfl) ?_
          refine lv_iload_n hx hb dX8_act_37 rfl (lv_at hl 2 rfl) ?_
          refine lv_iload hx hb dX8_act_38 (lv_at hl 0 rfl) ?_
          refine lv_iload_n hx hb dX8_act_40 rfl (lv_at hl 4 rfl) ?_
          refine g_ki h (g_runV X h (As := [.int x0, .int 3, .int x2]) (rest := []) (c_X8_opens__k3 gl Z v2 w x0 p hp x2 (by omega) 3 (by omega) 0 (by rw [ev2, up2_ne (by decide)]; exact hkd) (by rw [ev2]; exact up43) (by omega)) mi_X8_opens_ ml_RX8_324 (cc_116) (by decide) kl8 rfl ⟨Nat.le_of_ble_eq_true rfl, Nat.le_of_ble_eq_true rfl⟩ rfl hl.1 rfl (Nat.le_of_ble_eq_true rfl) dX8_act_41) (fun r41 v41 w41 H locs hp41 h => ?_)
          obtain ⟨hr41, hw41⟩ := hp41
          obtain ⟨ev41, rfl⟩ := Prod.mk.inj hw41
          replace ev41 := ev41.symm
          rw [ev2, up2_ne (by decide)] at hr41
          rw [ev2] at ev41
          refine lv_goto (tgt := 71) hx hb dX8_act_44 (by decide) ?_
          exact g_iret X h dX8_act_71 ⟨by rw [hr41]; simp only [sAct, actV, c_10, c_19, Bool.and_self, if_true, hpc, hk7]; simp [c_33, show Int32.toNatClampNeg 3 = 3 from rfl], by rw [ev41]; simp only [lAct, actL, c_10, c_19, Bool.and_self, if_true, hpc, hk7]; simp [c_33, show Int32.toNatClampNeg 3 = 3 from rfl]⟩
      · skip
        obtain rfl : own = 4 := nI_eq1 (b := 4) hkd rfl (by omega) (by omega) hk7
        obtain rfl : x4_30 = 4 := ex4_30.trans hk7
        refine lv_iload_n hx hb dX8_act_32 rfl (lv_at hl 3 rfl) ?_
        refine lv_if_ne (tgt := 47) hx hb dX8_act_33 (by decide) (fun c_33 => ?_) (fun c_33 => ?_)
        · skip
          refine lv_iload_n hx hb dX8_act_47 rfl (lv_at hl 3 rfl) ?_
          refine lv_iconst (v := 1) hx hb dX8_act_48 (by decide) ?_
          refine lv_icmp_ne (tgt := 63) hx hb dX8_act_49 (by decide) (fun c_49 => ?_) (fun c_49 => ?_)
          · skip
            refine lv_aload_n hx hb dX8_act_63 rfl (lv_at hl 1 rfl) ?_
            refine lv_iload_n hx hb dX8_act_64 rfl (lv_at hl 2 rfl) ?_
            refine lv_iload hx hb dX8_act_65 (lv_at hl 0 rfl) ?_
            refine lv_iload_n hx hb dX8_act_67 rfl (lv_at hl 4 rfl) ?_
            refine g_ki h (g_runV X h (As := [.int x0, .int 4, .int x2]) (rest := []) (c_X8_tells_k4 gl Z v2 w x0 p hp x2 (by omega) 4 (by omega) 0 (by rw [ev2, up2_ne (by decide)]; exact hkd) (by rw [ev2]; exact up43) (by omega)) mi_X8_tells ml_RX8_332 (cc_116) (by decide) kl8 rfl ⟨Nat.le_of_ble_eq_true rfl, Nat.le_of_ble_eq_true rfl⟩ rfl hl.1 rfl (Nat.le_of_ble_eq_true rfl) dX8_act_68) (fun r68 v68 w68 H locs hp68 h => ?_)
            obtain ⟨hr68, hw68⟩ := hp68
            obtain ⟨ev68, rfl⟩ := Prod.mk.inj hw68
            replace ev68 := ev68.symm
            rw [ev2, up2_ne (by decide)] at hr68
            rw [ev2] at ev68
            exact g_iret X h dX8_act_71 ⟨by rw [hr68]; simp only [sAct, actV, c_10, c_19, Bool.and_self, if_true, hpc, hk7]; simp [c_33, c_49, show Int32.toNatClampNeg 4 = 4 from rfl], by rw [ev68]; simp only [lAct, actL, c_10, c_19, Bool.and_self, if_true, hpc, hk7]; simp [c_33, c_49, show Int32.toNatClampNeg 4 = 4 from rfl]⟩
          · skip
            refine lv_aload_n hx hb dX8_act_52 rfl (lv_at hl 1 rfl) ?_
            refine lv_iload_n hx hb dX8_act_53 rfl (lv_at hl 2 rfl) ?_
            refine lv_iload hx hb dX8_act_54 (lv_at hl 0 rfl) ?_
            refine lv_iload_n hx hb dX8_act_56 rfl (lv_at hl 4 rfl) ?_
            refine g_ki h (g_runV X h (As := [.int x0, .int 4, .int x2]) (rest := []) (c_X8_prays__k4 gl Z v2 w x0 p hp x2 (by omega) 4 (by omega) 0 (by rw [ev2, up2_ne (by decide)]; exact hkd) (by rw [ev2]; exact up43) (by omega)) mi_X8_prays_ ml_RX8_330 (cc_116) (by decide) kl8 rfl ⟨Nat.le_of_ble_eq_true rfl, Nat.le_of_ble_eq_true rfl⟩ rfl hl.1 rfl (Nat.le_of_ble_eq_true rfl) dX8_act_57) (fun r57 v57 w57 H locs hp57 h => ?_)
            obtain ⟨hr57, hw57⟩ := hp57
            obtain ⟨ev57, rfl⟩ := Prod.mk.inj hw57
            replace ev57 := ev57.symm
            rw [ev2, up2_ne (by decide)] at hr57
            rw [ev2] at ev57
            refine lv_goto (tgt := 71) hx hb dX8_act_60 (by decide) ?_
            exact g_iret X h dX8_act_71 ⟨by rw [hr57]; simp only [sAct, actV, c_10, c_19, Bool.and_self, if_true, hpc, hk7]; simp [c_33, c_49, show Int32.toNatClampNeg 4 = 4 from rfl], by rw [ev57]; simp only [lAct, actL, c_10, c_19, Bool.and_self, if_true, hpc, hk7]; simp [c_33, c_49, show Int32.toNatClampNeg 4 = 4 from rfl]⟩
        · skip
          refine lv_aload_n hx hb dX8_act_36 rfl (lv_at hl 1 rfl) ?_
          refine lv_iload_n hx hb dX8_act_37 rfl (lv_at hl 2 rfl) ?_
          refine lv_iload hx hb dX8_act_38 (lv_at hl 0 rfl) ?_
          refine lv_iload_n hx hb dX8_act_40 rfl (lv_at hl 4 rfl) ?_
          refine g_ki h (g_runV X h (As := [.int x0, .int 4, .int x2]) (rest := []) (c_X8_opens__k4 gl Z v2 w x0 p hp x2 (by omega) 4 (by omega) 0 (by rw [ev2, up2_ne (by decide)]; exact hkd) (by rw [ev2]; exact up43) (by omega)) mi_X8_opens_ ml_RX8_324 (cc_116) (by decide) kl8 rfl ⟨Nat.le_of_ble_eq_true rfl, Nat.le_of_ble_eq_true rfl⟩ rfl hl.1 rfl (Nat.le_of_ble_eq_true rfl) dX8_act_41) (fun r41 v41 w41 H locs hp41 h => ?_)
          obtain ⟨hr41, hw41⟩ := hp41
          obtain ⟨ev41, rfl⟩ := Prod.mk.inj hw41
          replace ev41 := ev41.symm
          rw [ev2, up2_ne (by decide)] at hr41
          rw [ev2] at ev41
          refine lv_goto (tgt := 71) hx hb dX8_act_44 (by decide) ?_
          exact g_iret X h dX8_act_71 ⟨by rw [hr41]; simp only [sAct, actV, c_10, c_19, Bool.and_self, if_true, hpc, hk7]; simp [c_33, show Int32.toNatClampNeg 4 = 4 from rfl], by rw [ev41]; simp only [lAct, actL, c_10, c_19, Bool.and_self, if_true, hpc, hk7]; simp [c_33, show Int32.toNatClampNeg 4 = 4 from rfl]⟩
      · skip
        obtain rfl : own = 5 := nI_eq1 (b := 5) hkd rfl (by omega) (by omega) hk7
        obtain rfl : x4_30 = 5 := ex4_30.trans hk7
        refine lv_iload_n hx hb dX8_act_32 rfl (lv_at hl 3 rfl) ?_
        refine lv_if_ne (tgt := 47) hx hb dX8_act_33 (by decide) (fun c_33 => ?_) (fun c_33 => ?_)
        · skip
          refine lv_iload_n hx hb dX8_act_47 rfl (lv_at hl 3 rfl) ?_
          refine lv_iconst (v := 1) hx hb dX8_act_48 (by decide) ?_
          refine lv_icmp_ne (tgt := 63) hx hb dX8_act_49 (by decide) (fun c_49 => ?_) (fun c_49 => ?_)
          · skip
            refine lv_aload_n hx hb dX8_act_63 rfl (lv_at hl 1 rfl) ?_
            refine lv_iload_n hx hb dX8_act_64 rfl (lv_at hl 2 rfl) ?_
            refine lv_iload hx hb dX8_act_65 (lv_at hl 0 rfl) ?_
            refine lv_iload_n hx hb dX8_act_67 rfl (lv_at hl 4 rfl) ?_
            refine g_ki h (g_runV X h (As := [.int x0, .int 5, .int x2]) (rest := []) (c_X8_tells_k5 gl Z v2 w x0 p hp x2 (by omega) 5 (by omega) 0 (by rw [ev2, up2_ne (by decide)]; exact hkd) (by rw [ev2]; exact up43) (by omega)) mi_X8_tells ml_RX8_332 (cc_116) (by decide) kl8 rfl ⟨Nat.le_of_ble_eq_true rfl, Nat.le_of_ble_eq_true rfl⟩ rfl hl.1 rfl (Nat.le_of_ble_eq_true rfl) dX8_act_68) (fun r68 v68 w68 H locs hp68 h => ?_)
            obtain ⟨hr68, hw68⟩ := hp68
            obtain ⟨ev68, rfl⟩ := Prod.mk.inj hw68
            replace ev68 := ev68.symm
            rw [ev2, up2_ne (by decide)] at hr68
            rw [ev2] at ev68
            exact g_iret X h dX8_act_71 ⟨by rw [hr68]; simp only [sAct, actV, c_10, c_19, Bool.and_self, if_true, hpc, hk7]; simp [c_33, c_49, show Int32.toNatClampNeg 5 = 5 from rfl], by rw [ev68]; simp only [lAct, actL, c_10, c_19, Bool.and_self, if_true, hpc, hk7]; simp [c_33, c_49, show Int32.toNatClampNeg 5 = 5 from rfl]⟩
          · skip
            refine lv_aload_n hx hb dX8_act_52 rfl (lv_at hl 1 rfl) ?_
            refine lv_iload_n hx hb dX8_act_53 rfl (lv_at hl 2 rfl) ?_
            refine lv_iload hx hb dX8_act_54 (lv_at hl 0 rfl) ?_
            refine lv_iload_n hx hb dX8_act_56 rfl (lv_at hl 4 rfl) ?_
            refine g_ki h (g_runV X h (As := [.int x0, .int 5, .int x2]) (rest := []) (c_X8_prays__k5 gl Z v2 w x0 p hp x2 (by omega) 5 (by omega) 0 (by rw [ev2, up2_ne (by decide)]; exact hkd) (by rw [ev2]; exact up43) (by omega)) mi_X8_prays_ ml_RX8_330 (cc_116) (by decide) kl8 rfl ⟨Nat.le_of_ble_eq_true rfl, Nat.le_of_ble_eq_true rfl⟩ rfl hl.1 rfl (Nat.le_of_ble_eq_true rfl) dX8_act_57) (fun r57 v57 w57 H locs hp57 h => ?_)
            obtain ⟨hr57, hw57⟩ := hp57
            obtain ⟨ev57, rfl⟩ := Prod.mk.inj hw57
            replace ev57 := ev57.symm
            rw [ev2, up2_ne (by decide)] at hr57
            rw [ev2] at ev57
            refine lv_goto (tgt := 71) hx hb dX8_act_60 (by decide) ?_
            exact g_iret X h dX8_act_71 ⟨by rw [hr57]; simp only [sAct, actV, c_10, c_19, Bool.and_self, if_true, hpc, hk7]; simp [c_33, c_49, show Int32.toNatClampNeg 5 = 5 from rfl], by rw [ev57]; simp only [lAct, actL, c_10, c_19, Bool.and_self, if_true, hpc, hk7]; simp [c_33, c_49, show Int32.toNatClampNeg 5 = 5 from rfl]⟩
        · skip
          refine lv_aload_n hx hb dX8_act_36 rfl (lv_at hl 1 rfl) ?_
          refine lv_iload_n hx hb dX8_act_37 rfl (lv_at hl 2 rfl) ?_
          refine lv_iload hx hb dX8_act_38 (lv_at hl 0 rfl) ?_
          refine lv_iload_n hx hb dX8_act_40 rfl (lv_at hl 4 rfl) ?_
          refine g_ki h (g_runV X h (As := [.int x0, .int 5, .int x2]) (rest := []) (c_X8_opens__k5 gl Z v2 w x0 p hp x2 (by omega) 5 (by omega) 0 (by rw [ev2, up2_ne (by decide)]; exact hkd) (by rw [ev2]; exact up43) (by omega)) mi_X8_opens_ ml_RX8_324 (cc_116) (by decide) kl8 rfl ⟨Nat.le_of_ble_eq_true rfl, Nat.le_of_ble_eq_true rfl⟩ rfl hl.1 rfl (Nat.le_of_ble_eq_true rfl) dX8_act_41) (fun r41 v41 w41 H locs hp41 h => ?_)
          obtain ⟨hr41, hw41⟩ := hp41
          obtain ⟨ev41, rfl⟩ := Prod.mk.inj hw41
          replace ev41 := ev41.symm
          rw [ev2, up2_ne (by decide)] at hr41
          rw [ev2] at ev41
          refine lv_goto (tgt := 71) hx hb dX8_act_44 (by decide) ?_
          exact g_iret X h dX8_act_71 ⟨by rw [hr41]; simp only [sAct, actV, c_10, c_19, Bool.and_self, if_true, hpc, hk7]; simp [c_33, show Int32.toNatClampNeg 5 = 5 from rfl], by rw [ev41]; simp only [lAct, actL, c_10, c_19, Bool.and_self, if_true, hpc, hk7]; simp [c_33, show Int32.toNatClampNeg 5 = 5 from rfl]⟩
      · skip
        obtain rfl : own = 6 := nI_eq1 (b := 6) hkd rfl (by omega) (by omega) hk7
        obtain rfl : x4_30 = 6 := ex4_30.trans hk7
        refine lv_iload_n hx hb dX8_act_32 rfl (lv_at hl 3 rfl) ?_
        refine lv_if_ne (tgt := 47) hx hb dX8_act_33 (by decide) (fun c_33 => ?_) (fun c_33 => ?_)
        · skip
          refine lv_iload_n hx hb dX8_act_47 rfl (lv_at hl 3 rfl) ?_
          refine lv_iconst (v := 1) hx hb dX8_act_48 (by decide) ?_
          refine lv_icmp_ne (tgt := 63) hx hb dX8_act_49 (by decide) (fun c_49 => ?_) (fun c_49 => ?_)
          · skip
            refine lv_aload_n hx hb dX8_act_63 rfl (lv_at hl 1 rfl) ?_
            refine lv_iload_n hx hb dX8_act_64 rfl (lv_at hl 2 rfl) ?_
            refine lv_iload hx hb dX8_act_65 (lv_at hl 0 rfl) ?_
            refine lv_iload_n hx hb dX8_act_67 rfl (lv_at hl 4 rfl) ?_
            refine g_ki h (g_runV X h (As := [.int x0, .int 6, .int x2]) (rest := []) (c_X8_tells_k6 gl Z v2 w x0 p hp x2 (by omega) 6 (by omega) 0 (by rw [ev2, up2_ne (by decide)]; exact hkd) (by rw [ev2]; exact up43) (by omega)) mi_X8_tells ml_RX8_332 (cc_116) (by decide) kl8 rfl ⟨Nat.le_of_ble_eq_true rfl, Nat.le_of_ble_eq_true rfl⟩ rfl hl.1 rfl (Nat.le_of_ble_eq_true rfl) dX8_act_68) (fun r68 v68 w68 H locs hp68 h => ?_)
            obtain ⟨hr68, hw68⟩ := hp68
            obtain ⟨ev68, rfl⟩ := Prod.mk.inj hw68
            replace ev68 := ev68.symm
            rw [ev2, up2_ne (by decide)] at hr68
            rw [ev2] at ev68
            exact g_iret X h dX8_act_71 ⟨by rw [hr68]; simp only [sAct, actV, c_10, c_19, Bool.and_self, if_true, hpc, hk7]; simp [c_33, c_49, show Int32.toNatClampNeg 6 = 6 from rfl], by rw [ev68]; simp only [lAct, actL, c_10, c_19, Bool.and_self, if_true, hpc, hk7]; simp [c_33, c_49, show Int32.toNatClampNeg 6 = 6 from rfl]⟩
          · skip
            refine lv_aload_n hx hb dX8_act_52 rfl (lv_at hl 1 rfl) ?_
            refine lv_iload_n hx hb dX8_act_53 rfl (lv_at hl 2 rfl) ?_
            refine lv_iload hx hb dX8_act_54 (lv_at hl 0 rfl) ?_
            refine lv_iload_n hx hb dX8_act_56 rfl (lv_at hl 4 rfl) ?_
            refine g_ki h (g_runV X h (As := [.int x0, .int 6, .int x2]) (rest := []) (c_X8_prays__k6 gl Z v2 w x0 p hp x2 (by omega) 6 (by omega) 0 (by rw [ev2, up2_ne (by decide)]; exact hkd) (by rw [ev2]; exact up43) (by omega)) mi_X8_prays_ ml_RX8_330 (cc_116) (by decide) kl8 rfl ⟨Nat.le_of_ble_eq_true rfl, Nat.le_of_ble_eq_true rfl⟩ rfl hl.1 rfl (Nat.le_of_ble_eq_true rfl) dX8_act_57) (fun r57 v57 w57 H locs hp57 h => ?_)
            obtain ⟨hr57, hw57⟩ := hp57
            obtain ⟨ev57, rfl⟩ := Prod.mk.inj hw57
            replace ev57 := ev57.symm
            rw [ev2, up2_ne (by decide)] at hr57
            rw [ev2] at ev57
            refine lv_goto (tgt := 71) hx hb dX8_act_60 (by decide) ?_
            exact g_iret X h dX8_act_71 ⟨by rw [hr57]; simp only [sAct, actV, c_10, c_19, Bool.and_self, if_true, hpc, hk7]; simp [c_33, c_49, show Int32.toNatClampNeg 6 = 6 from rfl], by rw [ev57]; simp only [lAct, actL, c_10, c_19, Bool.and_self, if_true, hpc, hk7]; simp [c_33, c_49, show Int32.toNatClampNeg 6 = 6 from rfl]⟩
        · skip
          refine lv_aload_n hx hb dX8_act_36 rfl (lv_at hl 1 rfl) ?_
          refine lv_iload_n hx hb dX8_act_37 rfl (lv_at hl 2 rfl) ?_
          refine lv_iload hx hb dX8_act_38 (lv_at hl 0 rfl) ?_
          refine lv_iload_n hx hb dX8_act_40 rfl (lv_at hl 4 rfl) ?_
          refine g_ki h (g_runV X h (As := [.int x0, .int 6, .int x2]) (rest := []) (c_X8_opens__k6 gl Z v2 w x0 p hp x2 (by omega) 6 (by omega) 0 (by rw [ev2, up2_ne (by decide)]; exact hkd) (by rw [ev2]; exact up43) (by omega)) mi_X8_opens_ ml_RX8_324 (cc_116) (by decide) kl8 rfl ⟨Nat.le_of_ble_eq_true rfl, Nat.le_of_ble_eq_true rfl⟩ rfl hl.1 rfl (Nat.le_of_ble_eq_true rfl) dX8_act_41) (fun r41 v41 w41 H locs hp41 h => ?_)
          obtain ⟨hr41, hw41⟩ := hp41
          obtain ⟨ev41, rfl⟩ := Prod.mk.inj hw41
          replace ev41 := ev41.symm
          rw [ev2, up2_ne (by decide)] at hr41
          rw [ev2] at ev41
          refine lv_goto (tgt := 71) hx hb dX8_act_44 (by decide) ?_
          exact g_iret X h dX8_act_71 ⟨by rw [hr41]; simp only [sAct, actV, c_10, c_19, Bool.and_self, if_true, hpc, hk7]; simp [c_33, show Int32.toNatClampNeg 6 = 6 from rfl], by rw [ev41]; simp only [lAct, actL, c_10, c_19, Bool.and_self, if_true, hpc, hk7]; simp [c_33, show Int32.toNatClampNeg 6 = 6 from rfl]⟩
    · skip
      rw [hr16, bI_0] at c_19
      refine lv_iconst (v := 0) hx hb dX8_act_22 (by decide) ?_
      exact g_iret X h dX8_act_23 ⟨by simp [sAct, c_10, c_19], by simp only [lAct, c_10, c_19]; first | rfl | (simp; exact congrArg (fun z => (z, w)) ev2.symm) | exact congrArg (fun z => (z, w)) ev2.symm⟩

set_option maxRecDepth 100000 in
set_option maxHeartbeats 1000000 in
theorem c_X8_trace (gl : Launch) (Z : PL) (v : VV) (w : WV) (x0 : Int32) (t : Nat) (htr : v 116 43 = nI t) (ht9 : t < 1000) : CT gl yX8_trace cX8_trace 2 (some .int) 1 22 Z [.ref (zg Z 116), .int x0] v w (Qi Z (fun r u => r = sTrace t (v 141) x0 ∧ (v, w) = u)) := by
  refine g_met (by decide) (Nat.le_of_ble_eq_true rfl) ?_
  intro gp ge gs gm ga gb gh gc X h ls hl
  have hx := X.1
  have hb := X.2.1
  have hl : lv_has ls 2 [(0, .ref (zg Z 116)), (1, .int x0)] := hl
  refine lv_iload_n hx hb dX8_trace_0 rfl (lv_at hl 1 rfl) ?_
  refine lv_iconst (v := 0) hx hb dX8_trace_1 (by decide) ?_
  refine lv_bipush (v := 20) hx hb dX8_trace_2 (by decide) ?_
  refine lv_aload_n hx hb dX8_trace_4 rfl (lv_at hl 0 rfl) ?_
  refine g_geti X h (k := 43) (cc_116) fr_RX8_318 rfl (by decide) dX8_trace_5 ?_
  refine g_min X hl.1 ml_RX8_263 ⟨Nat.le_of_ble_eq_true rfl, Nat.le_of_ble_eq_true rfl⟩ (Nat.le_of_ble_eq_true rfl) dX8_trace_8 ?_
  refine lv_iconst (v := 1) hx hb dX8_trace_11 (by decide) ?_
  refine lv_isub hx hb dX8_trace_12 ?_
  refine g_ki h (g_runS X h (As := [.int x0, .int 0, .int ((if (v 116 43) < 20 then (v 116 43) else 20) - 1)]) (rest := []) (c_X8_within gl Z v w x0 0 ((if (v 116 43) < 20 then (v 116 43) else 20) - 1)) ms_X8_within ml_RX8_114 ⟨Nat.le_of_ble_eq_true rfl, Nat.le_of_ble_eq_true rfl⟩ rfl hl.1 rfl (Nat.le_of_ble_eq_true rfl) dX8_trace_13) (fun r13 v13 w13 H locs hp13 h => ?_)
  obtain ⟨hr13, hu13⟩ := hp13; obtain ⟨rfl, rfl⟩ := Prod.mk.inj hu13
  rw [min20 htr ht9, inR_isP' (by omega)] at hr13
  refine lv_if_eq (tgt := 28) hx hb dX8_trace_16 (by decide) (fun c_16 => ?_) (fun c_16 => ?_)
  · skip
    rw [hr13, bI_0] at c_16
    refine lv_iconst (v := (-1)) hx hb dX8_trace_28 (by decide) ?_
    exact g_iret X h dX8_trace_29 ⟨by simp [sTrace, c_16], rfl⟩
  · skip
    rw [hr13, bI_n] at c_16
    obtain ⟨k, hk, hkn, hkc⟩ := isP_nat (by omega) c_16
    refine lv_aload_n hx hb dX8_trace_19 rfl (lv_at hl 0 rfl) ?_
    refine g_getr X h (k := 44) (t := 141) (cc_116) fr_RX8_85 rfl (by decide) (by decide) (by decide) dX8_trace_20 ?_
    refine lv_iload_n hx hb dX8_trace_23 rfl (lv_at hl 1 rfl) ?_
    refine g_iald X h (k := k) (cc_141) hk (by omega) (by decide) dX8_trace_24 ?_
    refine lv_goto (tgt := 29) hx hb dX8_trace_25 (by decide) ?_
    exact g_iret X h dX8_trace_29 ⟨by simp [sTrace, c_16, hkc], rfl⟩

set_option maxRecDepth 100000 in
set_option maxHeartbeats 1000000 in
theorem c_X8_taken (gl : Launch) (Z : PL) (v : VV) (w : WV) (x0 : Int32) (x1 : Int32) (n : Nat) (hn : v 116 0 = nI n) (h6 : n ≤ 6) (hkr : ∀ p, p < n → ∃ o, o ≤ 6 ∧ v 117 p = nI o) : CT gl yX8_taken cX8_taken 4 (some .int) 2 43 Z [.ref (zg Z 116), .int x0, .int x1] v w (Qi Z (fun r u => r = sTaken n (v 117) x0 x1 ∧ (v, w) = u)) := by
  refine g_met (by decide) (Nat.le_of_ble_eq_true rfl) ?_
  intro gp ge gs gm ga gb gh gc X h ls hl
  have hx := X.1
  have hb := X.2.1
  have hl : lv_has ls 4 [(0, .ref (zg Z 116)), (1, .int x0), (2, .int x1)] := hl
  refine lv_iload_n hx hb dX8_taken_0 rfl (lv_at hl 2 rfl) ?_
  refine lv_iconst (v := 0) hx hb dX8_taken_1 (by decide) ?_
  refine lv_bipush (v := 6) hx hb dX8_taken_2 (by decide) ?_
  refine g_ki h (g_runS X h (As := [.int x1, .int 0, .int 6]) (rest := []) (c_X8_within gl Z v w x1 0 6) ms_X8_within ml_RX8_114 ⟨Nat.le_of_ble_eq_true rfl, Nat.le_of_ble_eq_true rfl⟩ rfl hl.1 rfl (Nat.le_of_ble_eq_true rfl) dX8_taken_4) (fun r4 v4 w4 H locs hp4 h => ?_)
  obtain ⟨hr4, hu4⟩ := hp4; obtain ⟨rfl, rfl⟩ := Prod.mk.inj hu4
  refine lv_if_ne (tgt := 13) hx hb dX8_taken_7 (by decide) (fun c_7 => ?_) (fun c_7 => ?_)
  · skip
    rw [hr4, bI_n] at c_7
    obtain ⟨kk, hkk, hkk0, hkk6, hkkc⟩ := inR_nat (a := 0) (b := 6) rfl rfl (by decide) c_7
    refine lv_aload_n hx hb dX8_taken_13 rfl (lv_at hl 0 rfl) ?_
    refine lv_iload_n hx hb dX8_taken_14 rfl (lv_at hl 1 rfl) ?_
    refine g_ki h (g_runV X h (As := [.int x0]) (rest := []) (c_X8_isOne gl Z v w x0 n hn h6) mi_X8_isOne ml_RX8_118 (cc_116) (by decide) kl8 rfl ⟨Nat.le_of_ble_eq_true rfl, Nat.le_of_ble_eq_true rfl⟩ rfl hl.1 rfl (Nat.le_of_ble_eq_true rfl) dX8_taken_15) (fun r15 v15 w15 H locs hp15 h => ?_)
    obtain ⟨hr15, hu15⟩ := hp15; obtain ⟨rfl, rfl⟩ := Prod.mk.inj hu15
    refine lv_if_ne (tgt := 24) hx hb dX8_taken_18 (by decide) (fun c_18 => ?_) (fun c_18 => ?_)
    · skip
      rw [hr15, bI_n] at c_18
      obtain ⟨p, hp, hpn, hpc⟩ := isP_nat (by omega) c_18
      refine lv_aload_n hx hb dX8_taken_24 rfl (lv_at hl 0 rfl) ?_
      refine g_getr X h (k := 1) (t := 117) (cc_116) fr_RX8_9 rfl (by decide) (by decide) (by decide) dX8_taken_25 ?_
      refine lv_iload_n hx hb dX8_taken_28 rfl (lv_at hl 1 rfl) ?_
      refine g_iald X h (k := p) (cc_117) hp (by omega) (by decide) dX8_taken_29 ?_
      obtain ⟨o, ho6, hok⟩ := hkr p hpn
      refine lv_topi (fun x3_30 ex3_30 => ?_)
      refine lv_istore_n (lv' := [(3, .int x3_30), (0, .ref (zg Z 116)), (1, .int x0), (2, .int x1)]) hx hb dX8_taken_30 rfl hl (by decide) rfl (fun ls hl => ?_)
      have L31 : ∀ (n31 : Nat) (u : Nat) (x3 : Int32), (x3 = nI u) → (u ≤ 6) → (undS u kk = undS o kk) → u < n31 → ∀ (H : Heap) (locs : List Loc), HS Z gs v w H locs → ∀ ls : Array Slot, lv_has ls 4 [(0, .ref (zg Z 116)), (1, .int x0), (2, .int x1), (3, .int x3)] → W gp gl ge (rmm 2 43) gs gm ga gb gh gc H locs 0 0 (MQ gb (Qi Z (fun r u => r = sTaken n (v 117) x0 x1 ∧ (v, w) = u)) ga gs 0 0 (zA Z)) (F0 gm 31 ls []) := by
        intro n31
        induction n31 with
        | zero => intro u x3 hu3 hu6 hun hmu; exact absurd hmu (Nat.not_lt_zero _)
        | succ n31 ih31 =>
          intro u x3 hu3 hu6 hun hmu31 H locs h ls hl
          refine lv_iload_n hx hb dX8_taken_31 rfl (lv_at hl 3 rfl) ?_
          refine lv_iload_n hx hb dX8_taken_32 rfl (lv_at hl 2 rfl) ?_
          refine lv_icmp_eq (tgt := 48) hx hb dX8_taken_33 (by decide) (fun c_33 => ?_) (fun c_33 => ?_)
          · skip
            have huk := nI_eq1 (a := u) (b := kk) hu3 hkk (by omega) (by omega) c_33
            refine lv_iload_n hx hb dX8_taken_48 rfl (lv_at hl 3 rfl) ?_
            refine lv_iload_n hx hb dX8_taken_49 rfl (lv_at hl 2 rfl) ?_
            refine lv_icmp_ne (tgt := 62) hx hb dX8_taken_50 (by decide) (fun c_50 => ?_) (fun c_50 => ?_)
            · skip
              refine lv_bipush (v := (-12)) hx hb dX8_taken_62 (by decide) ?_
              exact g_iret X h dX8_taken_64 ⟨by have e : undS o kk = false := (by rw [← hun]; have z := nI_eq0 hu3 hkk c_50; have z2 : u = 0 := (by omega); subst z2; simp [undS]; omega); simp [sTaken, c_7, c_18, hpc, hok, hkkc, nI_clamp (show o < 2 ^ 31 by omega), e], rfl⟩
            · skip
              refine lv_aload_n hx hb dX8_taken_53 rfl (lv_at hl 0 rfl) ?_
              refine g_getr X h (k := 1) (t := 117) (cc_116) fr_RX8_9 rfl (by decide) (by decide) (by decide) dX8_taken_54 ?_
              refine lv_iload_n hx hb dX8_taken_57 rfl (lv_at hl 1 rfl) ?_
              refine g_iald X h (k := p) (cc_117) hp (by omega) (by decide) dX8_taken_58 ?_
              refine lv_goto (tgt := 64) hx hb dX8_taken_59 (by decide) ?_
              exact g_iret X h dX8_taken_64 ⟨by have e : undS o kk = true := (by rw [← hun]; first | (subst huk; simp [undS]; done) | (have z := nI_eq1 hu3 hkk (by omega) (by omega) c_50; subst z; simp [undS])); simp [sTaken, c_7, c_18, hpc, hok, hkkc, nI_clamp (show o < 2 ^ 31 by omega), e], rfl⟩
          · skip
            have huk := nI_eq0 (a := u) (b := kk) hu3 hkk c_33
            refine lv_iload_n hx hb dX8_taken_36 rfl (lv_at hl 3 rfl) ?_
            refine lv_if_le (tgt := 48) hx hb dX8_taken_37 (by decide) (fun c_37 => ?_) (fun c_37 => ?_)
            · skip
              have hu0 := nI_le1 (a := u) (b := 0) hu3 rfl (by omega) (by omega) c_37
              refine lv_iload_n hx hb dX8_taken_48 rfl (lv_at hl 3 rfl) ?_
              refine lv_iload_n hx hb dX8_taken_49 rfl (lv_at hl 2 rfl) ?_
              refine lv_icmp_ne (tgt := 62) hx hb dX8_taken_50 (by decide) (fun c_50 => ?_) (fun c_50 => ?_)
              · skip
                refine lv_bipush (v := (-12)) hx hb dX8_taken_62 (by decide) ?_
                exact g_iret X h dX8_taken_64 ⟨by have e : undS o kk = false := (by rw [← hun]; have z := nI_eq0 hu3 hkk c_50; have z2 : u = 0 := (by omega); subst z2; simp [undS]; omega); simp [sTaken, c_7, c_18, hpc, hok, hkkc, nI_clamp (show o < 2 ^ 31 by omega), e], rfl⟩
              · skip
                refine lv_aload_n hx hb dX8_taken_53 rfl (lv_at hl 0 rfl) ?_
                refine g_getr X h (k := 1) (t := 117) (cc_116) fr_RX8_9 rfl (by decide) (by decide) (by decide) dX8_taken_54 ?_
                refine lv_iload_n hx hb dX8_taken_57 rfl (lv_at hl 1 rfl) ?_
                refine g_iald X h (k := p) (cc_117) hp (by omega) (by decide) dX8_taken_58 ?_
                refine lv_goto (tgt := 64) hx hb dX8_taken_59 (by decide) ?_
                exact g_iret X h dX8_taken_64 ⟨by have e : undS o kk = true := (by rw [← hun]; first | (subst huk; simp [undS]; done) | (have z := nI_eq1 hu3 hkk (by omega) (by omega) c_50; subst z; simp [undS])); simp [sTaken, c_7, c_18, hpc, hok, hkkc, nI_clamp (show o < 2 ^ 31 by omega), e], rfl⟩
            · skip
              have hu0 := nI_le0 (a := u) (b := 0) hu3 rfl (by omega) (by omega) c_37
              refine lv_iload_n hx hb dX8_taken_40 rfl (lv_at hl 3 rfl) ?_
              refine g_ki h (g_runS X h (As := [.int x3]) (rest := []) (c_X8_above gl Z v w x3) ms_X8_above ml_RX8_327 ⟨Nat.le_of_ble_eq_true rfl, Nat.le_of_ble_eq_true rfl⟩ rfl hl.1 rfl (Nat.le_of_ble_eq_true rfl) dX8_taken_41) (fun r41 v41 w41 H locs hp41 h => ?_)
              obtain ⟨hr41, hu41⟩ := hp41; obtain ⟨rfl, rfl⟩ := Prod.mk.inj hu41
              refine lv_istore_n (lv' := [(3, .int r41), (0, .ref (zg Z 116)), (1, .int x0), (2, .int x1)]) hx hb dX8_taken_44 rfl hl (by decide) rfl (fun ls hl => ?_)
              refine lv_goto (tgt := 31) hx hb dX8_taken_45 (by decide) ?_
              exact ih31 (abN u) r41 (by rw [hr41]; exact abS_N hu3 hu6) (by have := abN_lt hu0; omega) (by rw [und_up hu6 hu0 hkk6 huk]; exact hun) (by have := abN_lt hu0; omega) _ _ h ls (lv_sub hl [1, 2, 3, 0] rfl)
      exact L31 (o + 1) o x3_30 (ex3_30.trans hok) ho6 rfl (Nat.lt_succ_self _) _ _ h ls (lv_sub hl [1, 2, 3, 0] rfl)
    · skip
      rw [hr15, bI_0] at c_18
      refine lv_bipush (v := (-11)) hx hb dX8_taken_21 (by decide) ?_
      exact g_iret X h dX8_taken_23 ⟨by simp [sTaken, c_7, c_18], rfl⟩
  · skip
    rw [hr4, bI_0] at c_7
    refine lv_bipush (v := (-2)) hx hb dX8_taken_10 (by decide) ?_
    exact g_iret X h dX8_taken_12 ⟨by simp [sTaken, c_7], rfl⟩

set_option maxRecDepth 100000 in
set_option maxHeartbeats 1000000 in
theorem c_X8_count (gl : Launch) (Z : PL) (v : VV) (w : WV) (x0 : Int32) : CT gl yX8_count cX8_count 2 (some .int) 0 0 Z [.ref (zg Z 116), .int x0] v w (Qi Z (fun r u => r = sCount (v 116 0) (v 116 14) (v 116 9) (v 116 28) (v 116 31) (v 116 34) (v 116 12) (v 116 43) x0 ∧ (v, w) = u)) := by
  refine g_met (by decide) (Nat.le_of_ble_eq_true rfl) ?_
  intro gp ge gs gm ga gb gh gc X h ls hl
  have hx := X.1
  have hb := X.2.1
  have hl : lv_has ls 2 [(0, .ref (zg Z 116)), (1, .int x0)] := hl
  refine lv_iload_n hx hb dX8_count_0 rfl (lv_at hl 1 rfl) ?_
  by_cases t1_0 : x0 = 0
  · refine lv_tableIn (off := 47) (tgt := 48) hx hb dX8_count_1 (by rw [t1_0]; decide) (by rw [t1_0]; decide) (by rw [t1_0]; rfl) (by decide) ?_
    refine lv_aload_n hx hb dX8_count_48 rfl (lv_at hl 0 rfl) ?_
    refine g_geti X h (k := 0) (cc_116) fr_RX8_111 rfl (by decide) dX8_count_49 ?_
    exact g_iret X h dX8_count_52 ⟨by rw [sCount, if_pos t1_0], rfl⟩
  · skip
    by_cases t1_1 : x0 = 1
    · refine lv_tableIn (off := 52) (tgt := 53) hx hb dX8_count_1 (by rw [t1_1]; decide) (by rw [t1_1]; decide) (by rw [t1_1]; rfl) (by decide) ?_
      refine lv_aload_n hx hb dX8_count_53 rfl (lv_at hl 0 rfl) ?_
      refine g_geti X h (k := 14) (cc_116) fr_RX8_218 rfl (by decide) dX8_count_54 ?_
      exact g_iret X h dX8_count_57 ⟨by rw [sCount, if_neg t1_0, if_pos t1_1], rfl⟩
    · skip
      by_cases t1_2 : x0 = 2
      · refine lv_tableIn (off := 57) (tgt := 58) hx hb dX8_count_1 (by rw [t1_2]; decide) (by rw [t1_2]; decide) (by rw [t1_2]; rfl) (by decide) ?_
        refine lv_aload_n hx hb dX8_count_58 rfl (lv_at hl 0 rfl) ?_
        refine g_geti X h (k := 9) (cc_116) fr_RX8_139 rfl (by decide) dX8_count_59 ?_
        exact g_iret X h dX8_count_62 ⟨by rw [sCount, if_neg t1_0, if_neg t1_1, if_pos t1_2], rfl⟩
      · skip
        by_cases t1_3 : x0 = 3
        · refine lv_tableIn (off := 62) (tgt := 63) hx hb dX8_count_1 (by rw [t1_3]; decide) (by rw [t1_3]; decide) (by rw [t1_3]; rfl) (by decide) ?_
          refine lv_aload_n hx hb dX8_count_63 rfl (lv_at hl 0 rfl) ?_
          refine g_geti X h (k := 28) (cc_116) fr_RX8_296 rfl (by decide) dX8_count_64 ?_
          exact g_iret X h dX8_count_67 ⟨by rw [sCount, if_neg t1_0, if_neg t1_1, if_neg t1_2, if_pos t1_3], rfl⟩
        · skip
          by_cases t1_4 : x0 = 4
          · refine lv_tableIn (off := 67) (tgt := 68) hx hb dX8_count_1 (by rw [t1_4]; decide) (by rw [t1_4]; decide) (by rw [t1_4]; rfl) (by decide) ?_
            refine lv_aload_n hx hb dX8_count_68 rfl (lv_at hl 0 rfl) ?_
            refine g_geti X h (k := 31) (cc_116) fr_RX8_308 rfl (by decide) dX8_count_69 ?_
            exact g_iret X h dX8_count_72 ⟨by rw [sCount, if_neg t1_0, if_neg t1_1, if_neg t1_2, if_neg t1_3, if_pos t1_4], rfl⟩
          · skip
            by_cases t1_5 : x0 = 5
            · refine lv_tableIn (off := 72) (tgt := 73) hx hb dX8_count_1 (by rw [t1_5]; decide) (by rw [t1_5]; decide) (by rw [t1_5]; rfl) (by decide) ?_
              refine lv_aload_n hx hb dX8_count_73 rfl (lv_at hl 0 rfl) ?_
              refine g_geti X h (k := 34) (cc_116) fr_RX8_311 rfl (by decide) dX8_count_74 ?_
              exact g_iret X h dX8_count_77 ⟨by rw [sCount, if_neg t1_0, if_neg t1_1, if_neg t1_2, if_neg t1_3, if_neg t1_4, if_pos t1_5], rfl⟩
            · skip
              by_cases t1_6 : x0 = 6
              · refine lv_tableIn (off := 77) (tgt := 78) hx hb dX8_count_1 (by rw [t1_6]; decide) (by rw [t1_6]; decide) (by rw [t1_6]; rfl) (by decide) ?_
                refine lv_aload_n hx hb dX8_count_78 rfl (lv_at hl 0 rfl) ?_
                refine g_geti X h (k := 12) (cc_116) fr_RX8_142 rfl (by decide) dX8_count_79 ?_
                exact g_iret X h dX8_count_82 ⟨by rw [sCount, if_neg t1_0, if_neg t1_1, if_neg t1_2, if_neg t1_3, if_neg t1_4, if_neg t1_5, if_pos t1_6], rfl⟩
              · skip
                by_cases t1_7 : x0 = 7
                · refine lv_tableIn (off := 82) (tgt := 83) hx hb dX8_count_1 (by rw [t1_7]; decide) (by rw [t1_7]; decide) (by rw [t1_7]; rfl) (by decide) ?_
                  refine lv_aload_n hx hb dX8_count_83 rfl (lv_at hl 0 rfl) ?_
                  refine g_geti X h (k := 43) (cc_116) fr_RX8_318 rfl (by decide) dX8_count_84 ?_
                  exact g_iret X h dX8_count_87 ⟨by rw [sCount, if_neg t1_0, if_neg t1_1, if_neg t1_2, if_neg t1_3, if_neg t1_4, if_neg t1_5, if_neg t1_6, if_pos t1_7], rfl⟩
                · skip
                  have q0 := lv_neT t1_0 (a := 0) (by decide)
                  have q1 := lv_neT t1_1 (a := 1) (by decide)
                  have q2 := lv_neT t1_2 (a := 2) (by decide)
                  have q3 := lv_neT t1_3 (a := 3) (by decide)
                  have q4 := lv_neT t1_4 (a := 4) (by decide)
                  have q5 := lv_neT t1_5 (a := 5) (by decide)
                  have q6 := lv_neT t1_6 (a := 6) (by decide)
                  have q7 := lv_neT t1_7 (a := 7) (by decide)
                  refine lv_tableOut (tgt := 88) hx hb dX8_count_1 (by omega) (by decide) ?_
                  refine lv_bipush (v := (-2)) hx hb dX8_count_88 (by decide) ?_
                  exact g_iret X h dX8_count_90 ⟨by rw [sCount, if_neg t1_0, if_neg t1_1, if_neg t1_2, if_neg t1_3, if_neg t1_4, if_neg t1_5, if_neg t1_6, if_neg t1_7], rfl⟩

set_option maxRecDepth 100000 in
set_option maxHeartbeats 1000000 in
theorem c_X8_isTape (gl : Launch) (Z : PL) (v : VV) (w : WV) (x0 : Int32) : CT gl yX8_isTape cX8_isTape 1 (some .boolean) 1 22 Z [.int x0] v w (Qi Z (fun r u => r = bI (inR x0 0 5) ∧ (v, w) = u)) := by
  refine g_met (by decide) (Nat.le_of_ble_eq_true rfl) ?_
  intro gp ge gs gm ga gb gh gc X h ls hl
  have hx := X.1
  have hb := X.2.1
  have hl : lv_has ls 1 [(0, .int x0)] := hl
  refine lv_iload_n hx hb dX8_isTape_0 rfl (lv_at hl 0 rfl) ?_
  refine lv_iconst (v := 0) hx hb dX8_isTape_1 (by decide) ?_
  refine lv_iconst (v := 5) hx hb dX8_isTape_2 (by decide) ?_
  refine g_ki h (g_runS X h (As := [.int x0, .int 0, .int 5]) (rest := []) (c_X8_within gl Z v w x0 0 5) ms_X8_within ml_RX8_114 ⟨Nat.le_of_ble_eq_true rfl, Nat.le_of_ble_eq_true rfl⟩ rfl hl.1 rfl (Nat.le_of_ble_eq_true rfl) dX8_isTape_3) (fun r3 v3 w3 H locs hp3 h => ?_)
  obtain ⟨hr3, hu3⟩ := hp3; obtain ⟨rfl, rfl⟩ := Prod.mk.inj hu3
  exact g_nret X h dX8_isTape_6 (by rw [hr3]; exact nar_bI _) ⟨hr3, rfl⟩

set_option maxRecDepth 100000 in
set_option maxHeartbeats 1000000 in
theorem c_X8_tape (gl : Launch) (Z : PL) (v : VV) (w : WV) (x0 : Int32) (x1 : Int32) (x2 : Int32) : CT gl yX8_tape cX8_tape 5 (some .int) 2 42 Z [.ref (zg Z 116), .int x0, .int x1, .int x2] v w (Qi Z (fun r u => r = sTape x0 x1 x2 ∧ (if okTape x0 x1 x2 then (up2 (up2 v 142 x0.toNatClampNeg x1) 143 x0.toNatClampNeg (if x1 < 0 then 0 else x2), upcL w 144 (zrL (w 144) (60 * x0.toNatClampNeg) 60)) else (v, w)) = u)) := by
  refine g_met (by decide) (Nat.le_of_ble_eq_true rfl) ?_
  intro gp ge gs gm ga gb gh gc X h ls hl
  have hx := X.1
  have hb := X.2.1
  have hl : lv_has ls 5 [(0, .ref (zg Z 116)), (1, .int x0), (2, .int x1), (3, .int x2)] := hl
  refine lv_iload_n hx hb dX8_tape_0 rfl (lv_at hl 1 rfl) ?_
  refine g_ki h (g_runS X h (As := [.int x0]) (rest := []) (c_X8_isTape gl Z v w x0) ms_X8_isTape ml_RX8_335 ⟨Nat.le_of_ble_eq_true rfl, Nat.le_of_ble_eq_true rfl⟩ rfl hl.1 rfl (Nat.le_of_ble_eq_true rfl) dX8_tape_1) (fun r1 v1 w1 H locs hp1 h => ?_)
  obtain ⟨hr1, hu1⟩ := hp1; obtain ⟨rfl, rfl⟩ := Prod.mk.inj hu1
  refine lv_if_ne (tgt := 9) hx hb dX8_tape_4 (by decide) (fun c_4 => ?_) (fun c_4 => ?_)
  · skip
    rw [hr1, bI_n] at c_4
    obtain ⟨t, ht, ht0, ht5, htc⟩ := inR_nat (a := 0) (b := 5) rfl rfl (by decide) c_4
    have L67 : ∀ (n67 : Nat) (i : Nat) (x4 : Int32) (va : VV) (wa : WV), (x4 = nI i) → (i ≤ 60) → (va = up2 (up2 v 142 x0.toNatClampNeg x1) 143 x0.toNatClampNeg (if x1 < 0 then 0 else x2)) → (wa = upcL w 144 (zrL (w 144) (60 * x0.toNatClampNeg) i)) → ((1 : Int32) = sTape x0 x1 x2) → (okTape x0 x1 x2 = true) → 60 - i < n67 → ∀ (H : Heap) (locs : List Loc), HS Z gs va wa H locs → ∀ ls : Array Slot, lv_has ls 5 [(0, .ref (zg Z 116)), (1, .int x0), (2, .int x1), (3, .int x2), (4, .int x4)] → W gp gl ge (rmm 2 42) gs gm ga gb gh gc H locs 0 0 (MQ gb (Qi Z (fun r u => r = sTape x0 x1 x2 ∧ (if okTape x0 x1 x2 then (up2 (up2 v 142 x0.toNatClampNeg x1) 143 x0.toNatClampNeg (if x1 < 0 then 0 else x2), upcL w 144 (zrL (w 144) (60 * x0.toNatClampNeg) 60)) else (v, w)) = u)) ga gs 0 0 (zA Z)) (F0 gm 67 ls []) := by
      intro n67
      induction n67 with
      | zero => intro i x4 va wa hx4 hi hva hwa hres hok hmu; exact absurd hmu (Nat.not_lt_zero _)
      | succ n67 ih67 =>
        intro i x4 va wa hx4 hi hva hwa hres hok hmu67 H locs h ls hl
        refine lv_iload hx hb dX8_tape_67 (lv_at hl 4 rfl) ?_
        refine lv_bipush (v := 60) hx hb dX8_tape_69 (by decide) ?_
        refine lv_icmp_ge (tgt := 93) hx hb dX8_tape_71 (by decide) (fun c_71 => ?_) (fun c_71 => ?_)
        · skip
          have hil := nI_le1 (a := 60) (b := i) rfl hx4 (by omega) (by omega) c_71
          refine lv_iconst (v := 1) hx hb dX8_tape_93 (by decide) ?_
          exact g_iret X h dX8_tape_94 ⟨hres, by rw [if_pos hok, hva, hwa, show i = 60 by omega]⟩
        · skip
          have hil := nI_le0 (a := 60) (b := i) rfl hx4 (by omega) (by omega) c_71
          refine lv_aload_n hx hb dX8_tape_74 rfl (lv_at hl 0 rfl) ?_
          refine g_getr X h (k := 47) (t := 144) (cc_116) fr_RX8_94 rfl (by decide) (by decide) (by decide) dX8_tape_75 ?_
          refine lv_bipush (v := 60) hx hb dX8_tape_78 (by decide) ?_
          refine lv_iload_n hx hb dX8_tape_80 rfl (lv_at hl 1 rfl) ?_
          refine lv_imul hx hb dX8_tape_81 ?_
          refine lv_iload hx hb dX8_tape_82 (lv_at hl 4 rfl) ?_
          refine lv_iadd hx hb dX8_tape_84 ?_
          refine lv_lconst (v := 0) hx hb dX8_tape_85 (by decide) ?_
          refine g_last X h (k := ((60 * t) + i)) (cc_144) (by rw [show ((60 * x0)) = nI (60 * t) from (by rw [show (60) = nI 60 from rfl, show (x0) = nI t from ht, pk_mul]), show (x4) = nI i from hx4, nI_add]) (by omega) (by decide) dX8_tape_86 (fun w86 H locs ew86 h => ?_)
          refine lv_iinc (v := (x4 + 1)) (lv' := [(4, .int (x4 + 1)), (0, .ref (zg Z 116)), (1, .int x0), (2, .int x1), (3, .int x2)]) hx hb dX8_tape_87 hl (k := 4) rfl rfl (by decide) rfl (fun ls hl => ?_)
          refine lv_goto (tgt := 67) hx hb dX8_tape_90 (by decide) ?_
          exact ih67 (i + 1) (x4 + 1) va w86 (by rw [hx4]; exact nI_1 _) (by omega) hva (by rw [ew86, hwa, up2L_upcL, htc, zrL_succ]) hres hok (by omega) _ _ h ls (lv_sub hl [1, 2, 3, 4, 0] rfl)
    refine lv_iload_n hx hb dX8_tape_9 rfl (lv_at hl 2 rfl) ?_
    refine lv_iconst (v := (-1)) hx hb dX8_tape_10 (by decide) ?_
    refine lv_iconst (v := 4) hx hb dX8_tape_11 (by decide) ?_
    refine g_ki h (g_runS X h (As := [.int x1, .int (-1), .int 4]) (rest := []) (c_X8_within gl Z v w x1 (-1) 4) ms_X8_within ml_RX8_114 ⟨Nat.le_of_ble_eq_true rfl, Nat.le_of_ble_eq_true rfl⟩ rfl hl.1 rfl (Nat.le_of_ble_eq_true rfl) dX8_tape_12) (fun r12 v12 w12 H locs hp12 h => ?_)
    obtain ⟨hr12, hu12⟩ := hp12; obtain ⟨rfl, rfl⟩ := Prod.mk.inj hu12
    refine lv_if_eq (tgt := 28) hx hb dX8_tape_15 (by decide) (fun c_15 => ?_) (fun c_15 => ?_)
    · skip
      rw [hr12, bI_0] at c_15
      refine lv_bipush (v := (-2)) hx hb dX8_tape_28 (by decide) ?_
      exact g_iret X h dX8_tape_30 ⟨by simp [sTape, c_4, c_15], by rw [if_neg (by simp [okTape, c_15])]⟩
    · skip
      rw [hr12, bI_n] at c_15
      refine lv_iload_n hx hb dX8_tape_18 rfl (lv_at hl 2 rfl) ?_
      refine lv_if_lt (tgt := 31) hx hb dX8_tape_19 (by decide) (fun c_19 => ?_) (fun c_19 => ?_)
      · skip
        refine lv_iload_n hx hb dX8_tape_31 rfl (lv_at hl 2 rfl) ?_
        refine lv_if_lt (tgt := 42) hx hb dX8_tape_32 (by decide) (fun c_32 => ?_) (fun c_32 => ?_)
        · skip
          refine lv_aload_n hx hb dX8_tape_42 rfl (lv_at hl 0 rfl) ?_
          refine g_getr X h (k := 45) (t := 142) (cc_116) fr_RX8_88 rfl (by decide) (by decide) (by decide) dX8_tape_43 ?_
          refine lv_iload_n hx hb dX8_tape_46 rfl (lv_at hl 1 rfl) ?_
          refine lv_iload_n hx hb dX8_tape_47 rfl (lv_at hl 2 rfl) ?_
          refine g_iast X h (k := t) (cc_142) ht (by omega) (by decide) dX8_tape_48 (fun v48 H locs ev48 h => ?_)
          refine lv_aload_n hx hb dX8_tape_49 rfl (lv_at hl 0 rfl) ?_
          refine g_getr X h (k := 46) (t := 143) (cc_116) fr_RX8_91 rfl (by decide) (by decide) (by decide) dX8_tape_50 ?_
          refine lv_iload_n hx hb dX8_tape_53 rfl (lv_at hl 1 rfl) ?_
          refine lv_iload_n hx hb dX8_tape_54 rfl (lv_at hl 2 rfl) ?_
          refine lv_if_ge (tgt := 62) hx hb dX8_tape_55 (by decide) (fun c_55 => ?_) (fun c_55 => ?_)
          · exact absurd c_32 (Int32.not_lt.mpr c_55)
          · skip
            refine lv_iconst (v := 0) hx hb dX8_tape_58 (by decide) ?_
            refine lv_goto (tgt := 63) hx hb dX8_tape_59 (by decide) ?_
            refine g_iast X h (k := t) (cc_143) ht (by omega) (by decide) dX8_tape_63 (fun v63 H locs ev63 h => ?_)
            refine lv_iconst (v := 0) hx hb dX8_tape_64 (by decide) ?_
            refine lv_istore (lv' := [(4, .int 0), (0, .ref (zg Z 116)), (1, .int x0), (2, .int x1), (3, .int x2)]) hx hb dX8_tape_65 hl (by decide) rfl (fun ls hl => ?_)
            exact L67 (60 - 0 + 1) 0 0 v63 w rfl (Nat.zero_le _) (by rw [ev63, ev48, htc, if_pos (Int32.not_le.mp c_55)]) (by rw [zrL_0, upcL_self]) (by simp only [sTape, c_4, c_15]; have z : ¬ (0 : Int32) ≤ x1 := (fun q => absurd c_32 (Int32.not_lt.mpr q)); simp [c_32, z]) (by simp only [okTape, c_4, c_15]; first | (simp [c_32]; done) | (simp [c_32, c_25, c_36]; done)) (Nat.lt_succ_self _) _ _ h ls (lv_sub hl [1, 2, 3, 4, 0] rfl)
        · exact absurd c_19 c_32
      · skip
        refine lv_iload_n hx hb dX8_tape_22 rfl (lv_at hl 3 rfl) ?_
        refine lv_bipush (v := 60) hx hb dX8_tape_23 (by decide) ?_
        refine lv_icmp_le (tgt := 31) hx hb dX8_tape_25 (by decide) (fun c_25 => ?_) (fun c_25 => ?_)
        · skip
          refine lv_iload_n hx hb dX8_tape_31 rfl (lv_at hl 2 rfl) ?_
          refine lv_if_lt (tgt := 42) hx hb dX8_tape_32 (by decide) (fun c_32 => ?_) (fun c_32 => ?_)
          · exact absurd c_32 c_19
          · skip
            refine lv_iload_n hx hb dX8_tape_35 rfl (lv_at hl 3 rfl) ?_
            refine lv_if_ge (tgt := 42) hx hb dX8_tape_36 (by decide) (fun c_36 => ?_) (fun c_36 => ?_)
            · skip
              refine lv_aload_n hx hb dX8_tape_42 rfl (lv_at hl 0 rfl) ?_
              refine g_getr X h (k := 45) (t := 142) (cc_116) fr_RX8_88 rfl (by decide) (by decide) (by decide) dX8_tape_43 ?_
              refine lv_iload_n hx hb dX8_tape_46 rfl (lv_at hl 1 rfl) ?_
              refine lv_iload_n hx hb dX8_tape_47 rfl (lv_at hl 2 rfl) ?_
              refine g_iast X h (k := t) (cc_142) ht (by omega) (by decide) dX8_tape_48 (fun v48 H locs ev48 h => ?_)
              refine lv_aload_n hx hb dX8_tape_49 rfl (lv_at hl 0 rfl) ?_
              refine g_getr X h (k := 46) (t := 143) (cc_116) fr_RX8_91 rfl (by decide) (by decide) (by decide) dX8_tape_50 ?_
              refine lv_iload_n hx hb dX8_tape_53 rfl (lv_at hl 1 rfl) ?_
              refine lv_iload_n hx hb dX8_tape_54 rfl (lv_at hl 2 rfl) ?_
              refine lv_if_ge (tgt := 62) hx hb dX8_tape_55 (by decide) (fun c_55 => ?_) (fun c_55 => ?_)
              · skip
                refine lv_iload_n hx hb dX8_tape_62 rfl (lv_at hl 3 rfl) ?_
                refine g_iast X h (k := t) (cc_143) ht (by omega) (by decide) dX8_tape_63 (fun v63 H locs ev63 h => ?_)
                refine lv_iconst (v := 0) hx hb dX8_tape_64 (by decide) ?_
                refine lv_istore (lv' := [(4, .int 0), (0, .ref (zg Z 116)), (1, .int x0), (2, .int x1), (3, .int x2)]) hx hb dX8_tape_65 hl (by decide) rfl (fun ls hl => ?_)
                exact L67 (60 - 0 + 1) 0 0 v63 w rfl (Nat.zero_le _) (by rw [ev63, ev48, htc, if_neg (Int32.not_lt.mpr c_55)]) (by rw [zrL_0, upcL_self]) (by simp only [sTape, c_4, c_15]; have z2 : ¬ x2 < 0 := Int32.not_lt.mpr c_36; simp [z2, c_25]) (by simp only [okTape, c_4, c_15]; first | (simp [c_32]; done) | (simp [c_32, c_25, c_36]; done)) (Nat.lt_succ_self _) _ _ h ls (lv_sub hl [1, 2, 3, 4, 0] rfl)
              · exact absurd (Int32.not_le.mp c_55) c_32
            · skip
              refine lv_bipush (v := (-14)) hx hb dX8_tape_39 (by decide) ?_
              exact g_iret X h dX8_tape_41 ⟨by have z : (0 : Int32) ≤ x1 := Int32.not_lt.mp c_32; have z2 : x2 < 0 := Int32.not_le.mp c_36; have z3 : x2 ≤ 60 := (by first | exact c_25 | contradiction); simp [sTape, c_4, c_15, z, z2, z3], by rw [if_neg (by simp [okTape, c_32, c_36])]⟩
        · skip
          refine lv_bipush (v := (-2)) hx hb dX8_tape_28 (by decide) ?_
          exact g_iret X h dX8_tape_30 ⟨by have z : ¬ x2 ≤ 60 := c_25; simp [sTape, c_4, c_15, c_19, z], by rw [if_neg (by have z : ¬ x2 ≤ 60 := c_25; simp [okTape, c_19, z])]⟩
  · skip
    rw [hr1, bI_0] at c_4
    refine lv_iconst (v := (-1)) hx hb dX8_tape_7 (by decide) ?_
    exact g_iret X h dX8_tape_8 ⟨by simp [sTape, c_4], by rw [if_neg (by simp [okTape, c_4])]⟩

set_option maxRecDepth 100000 in
set_option maxHeartbeats 1000000 in
theorem c_X8_kept (gl : Launch) (Z : PL) (v : VV) (w : WV) (x0 : Int32) (x1 : Int64) : CT gl yX8_kept cX8_kept 3 (some .long) 0 0 Z [.int x0, .long x1] v w (Ql Z (fun r u => r = keptS x0 x1 ∧ (v, w) = u)) := by
  refine g_met (by decide) (Nat.le_of_ble_eq_true rfl) ?_
  intro gp ge gs gm ga gb gh gc X h ls hl
  have hx := X.1
  have hb := X.2.1
  have hl : lv_has ls 3 [(0, .int x0), (1, .long x1)] := hl
  refine lv_iload_n hx hb dX8_kept_0 rfl (lv_at hl 0 rfl) ?_
  by_cases t1_0 : x0 = 0
  · refine lv_tableIn (off := 31) (tgt := 32) hx hb dX8_kept_1 (by rw [t1_0]; decide) (by rw [t1_0]; decide) (by rw [t1_0]; rfl) (by decide) ?_
    refine lv_lload_n hx hb dX8_kept_32 rfl (lv_at hl 1 rfl) ?_
    refine lv_l2i hx hb dX8_kept_33 rfl ?_
    refine lv_i2b hx hb dX8_kept_34 rfl ?_
    refine lv_i2l hx hb dX8_kept_35 rfl ?_
    exact g_lret X h dX8_kept_36 ⟨by rw [keptS, if_pos t1_0], rfl⟩
  · skip
    by_cases t1_1 : x0 = 1
    · refine lv_tableIn (off := 36) (tgt := 37) hx hb dX8_kept_1 (by rw [t1_1]; decide) (by rw [t1_1]; decide) (by rw [t1_1]; rfl) (by decide) ?_
      refine lv_lload_n hx hb dX8_kept_37 rfl (lv_at hl 1 rfl) ?_
      refine lv_l2i hx hb dX8_kept_38 rfl ?_
      refine lv_i2s hx hb dX8_kept_39 rfl ?_
      refine lv_i2l hx hb dX8_kept_40 rfl ?_
      exact g_lret X h dX8_kept_41 ⟨by rw [keptS, if_neg t1_0, if_pos t1_1], rfl⟩
    · skip
      by_cases t1_2 : x0 = 2
      · refine lv_tableIn (off := 41) (tgt := 42) hx hb dX8_kept_1 (by rw [t1_2]; decide) (by rw [t1_2]; decide) (by rw [t1_2]; rfl) (by decide) ?_
        refine lv_lload_n hx hb dX8_kept_42 rfl (lv_at hl 1 rfl) ?_
        refine lv_l2i hx hb dX8_kept_43 rfl ?_
        refine lv_i2l hx hb dX8_kept_44 rfl ?_
        exact g_lret X h dX8_kept_45 ⟨by rw [keptS, if_neg t1_0, if_neg t1_1, if_pos t1_2], rfl⟩
      · skip
        by_cases t1_3 : x0 = 3
        · refine lv_tableIn (off := 45) (tgt := 46) hx hb dX8_kept_1 (by rw [t1_3]; decide) (by rw [t1_3]; decide) (by rw [t1_3]; rfl) (by decide) ?_
          refine lv_lload_n hx hb dX8_kept_46 rfl (lv_at hl 1 rfl) ?_
          exact g_lret X h dX8_kept_47 ⟨by rw [keptS, if_neg t1_0, if_neg t1_1, if_neg t1_2, if_pos t1_3], rfl⟩
        · skip
          have q0 := lv_neT t1_0 (a := 0) (by decide)
          have q1 := lv_neT t1_1 (a := 1) (by decide)
          have q2 := lv_neT t1_2 (a := 2) (by decide)
          have q3 := lv_neT t1_3 (a := 3) (by decide)
          refine lv_tableOut (tgt := 48) hx hb dX8_kept_1 (by omega) (by decide) ?_
          refine lv_lload_n hx hb dX8_kept_48 rfl (lv_at hl 1 rfl) ?_
          refine lv_lconst (v := 0) hx hb dX8_kept_49 (by decide) ?_
          refine W.lcmp hx hb dX8_kept_50 ?_
          refine lv_if_eq (tgt := 58) hx hb dX8_kept_51 (by decide) (fun c_51 => ?_) (fun c_51 => ?_)
          · skip
            refine lv_lconst (v := 0) hx hb dX8_kept_58 (by decide) ?_
            exact g_lret X h dX8_kept_59 ⟨by rw [keptS, if_neg t1_0, if_neg t1_1, if_neg t1_2, if_neg t1_3, if_pos (cmp_eq.mp c_51)], rfl⟩
          · skip
            refine lv_lconst (v := 1) hx hb dX8_kept_54 (by decide) ?_
            refine lv_goto (tgt := 59) hx hb dX8_kept_55 (by decide) ?_
            exact g_lret X h dX8_kept_59 ⟨by rw [keptS, if_neg t1_0, if_neg t1_1, if_neg t1_2, if_neg t1_3, if_neg (fun q => c_51 (cmp_eq.mpr q))], rfl⟩

set_option maxRecDepth 100000 in
set_option maxHeartbeats 1000000 in
theorem c_X8_item (gl : Launch) (Z : PL) (v : VV) (w : WV) (x0 : Int32) (x1 : Int32) (x2 : Int64) (hti : TIv (v 142) (v 143)) : CT gl yX8_item cX8_item 5 (some .int) 2 42 Z [.ref (zg Z 116), .int x0, .int x1, .long x2] v w (Qi Z (fun r u => r = sItem (v 142) (v 143) x0 x1 ∧ (v, if okItem (v 142) (v 143) x0 x1 then up2L w 144 (60 * x0.toNatClampNeg + x1.toNatClampNeg) (keptS (v 142 x0.toNatClampNeg) x2) else w) = u)) := by
  refine g_met (by decide) (Nat.le_of_ble_eq_true rfl) ?_
  intro gp ge gs gm ga gb gh gc X h ls hl
  have hx := X.1
  have hb := X.2.1
  have hl : lv_has ls 5 [(0, .ref (zg Z 116)), (1, .int x0), (2, .int x1), (3, .long x2)] := hl
  refine lv_iload_n hx hb dX8_item_0 rfl (lv_at hl 1 rfl) ?_
  refine g_ki h (g_runS X h (As := [.int x0]) (rest := []) (c_X8_isTape gl Z v w x0) ms_X8_isTape ml_RX8_335 ⟨Nat.le_of_ble_eq_true rfl, Nat.le_of_ble_eq_true rfl⟩ rfl hl.1 rfl (Nat.le_of_ble_eq_true rfl) dX8_item_1) (fun r1 v1 w1 H locs hp1 h => ?_)
  obtain ⟨hr1, hu1⟩ := hp1; obtain ⟨rfl, rfl⟩ := Prod.mk.inj hu1
  refine lv_if_ne (tgt := 9) hx hb dX8_item_4 (by decide) (fun c_4 => ?_) (fun c_4 => ?_)
  · skip
    rw [hr1, bI_n] at c_4
    obtain ⟨t, ht, ht0, ht5, htc⟩ := inR_nat (a := 0) (b := 5) rfl rfl (by decide) c_4
    refine lv_aload_n hx hb dX8_item_9 rfl (lv_at hl 0 rfl) ?_
    refine g_getr X h (k := 45) (t := 142) (cc_116) fr_RX8_88 rfl (by decide) (by decide) (by decide) dX8_item_10 ?_
    refine lv_iload_n hx hb dX8_item_13 rfl (lv_at hl 1 rfl) ?_
    refine g_iald X h (k := t) (cc_142) ht (by omega) (by decide) dX8_item_14 ?_
    refine lv_if_ge (tgt := 21) hx hb dX8_item_15 (by decide) (fun c_15 => ?_) (fun c_15 => ?_)
    · skip
      refine lv_iload_n hx hb dX8_item_21 rfl (lv_at hl 2 rfl) ?_
      refine lv_iconst (v := 0) hx hb dX8_item_22 (by decide) ?_
      refine lv_aload_n hx hb dX8_item_23 rfl (lv_at hl 0 rfl) ?_
      refine g_getr X h (k := 46) (t := 143) (cc_116) fr_RX8_91 rfl (by decide) (by decide) (by decide) dX8_item_24 ?_
      refine lv_iload_n hx hb dX8_item_27 rfl (lv_at hl 1 rfl) ?_
      refine g_iald X h (k := t) (cc_143) ht (by omega) (by decide) dX8_item_28 ?_
      refine lv_iconst (v := 1) hx hb dX8_item_29 (by decide) ?_
      refine lv_isub hx hb dX8_item_30 ?_
      refine g_ki h (g_runS X h (As := [.int x1, .int 0, .int ((v 143 t) - 1)]) (rest := []) (c_X8_within gl Z v w x1 0 ((v 143 t) - 1)) ms_X8_within ml_RX8_114 ⟨Nat.le_of_ble_eq_true rfl, Nat.le_of_ble_eq_true rfl⟩ rfl hl.1 rfl (Nat.le_of_ble_eq_true rfl) dX8_item_31) (fun r31 v31 w31 H locs hp31 h => ?_)
      obtain ⟨hr31, hu31⟩ := hp31; obtain ⟨rfl, rfl⟩ := Prod.mk.inj hu31
      obtain ⟨z, hz60, hz⟩ := sz_nat hti (show t < 6 by omega)
      rw [hz, inR_isP' (by omega)] at hr31
      refine lv_if_ne (tgt := 40) hx hb dX8_item_34 (by decide) (fun c_34 => ?_) (fun c_34 => ?_)
      · skip
        rw [hr31, bI_n] at c_34
        obtain ⟨k, hk, hkn, hkc⟩ := isP_nat (by omega) c_34
        refine lv_aload_n hx hb dX8_item_40 rfl (lv_at hl 0 rfl) ?_
        refine g_getr X h (k := 47) (t := 144) (cc_116) fr_RX8_94 rfl (by decide) (by decide) (by decide) dX8_item_41 ?_
        refine lv_bipush (v := 60) hx hb dX8_item_44 (by decide) ?_
        refine lv_iload_n hx hb dX8_item_46 rfl (lv_at hl 1 rfl) ?_
        refine lv_imul hx hb dX8_item_47 ?_
        refine lv_iload_n hx hb dX8_item_48 rfl (lv_at hl 2 rfl) ?_
        refine lv_iadd hx hb dX8_item_49 ?_
        refine lv_aload_n hx hb dX8_item_50 rfl (lv_at hl 0 rfl) ?_
        refine g_getr X h (k := 45) (t := 142) (cc_116) fr_RX8_88 rfl (by decide) (by decide) (by decide) dX8_item_51 ?_
        refine lv_iload_n hx hb dX8_item_54 rfl (lv_at hl 1 rfl) ?_
        refine g_iald X h (k := t) (cc_142) ht (by omega) (by decide) dX8_item_55 ?_
        refine lv_lload_n hx hb dX8_item_56 rfl (lv_at hl 3 rfl) ?_
        refine g_kl h (g_runS X h (As := [.int (v 142 t), .long x2]) (rest := [.int ((60 * x0) + x1), .ref (zg Z 144)]) (c_X8_kept gl Z v w (v 142 t) x2) ms_X8_kept ml_RX8_338 ⟨Nat.le_of_ble_eq_true rfl, Nat.le_of_ble_eq_true rfl⟩ rfl hl.1 rfl (Nat.le_of_ble_eq_true rfl) dX8_item_57) (fun r57 v57 w57 H locs hp57 h => ?_)
        obtain ⟨hr57, hu57⟩ := hp57; obtain ⟨rfl, rfl⟩ := Prod.mk.inj hu57
        refine g_last X h (k := ((60 * t) + k)) (cc_144) (by rw [show ((60 * x0)) = nI (60 * t) from (by rw [show (60) = nI 60 from rfl, show (x0) = nI t from ht, pk_mul]), show (x1) = nI k from hk, nI_add]) (by omega) (by decide) dX8_item_60 (fun w60 H locs ew60 h => ?_)
        refine lv_iconst (v := 1) hx hb dX8_item_61 (by decide) ?_
        exact g_iret X h dX8_item_62 ⟨by simp [sItem, c_4, htc, hz, c_34, Int32.not_lt.mpr c_15], by rw [if_pos (by simp only [okItem, c_4, htc, hz, c_34]; simp [Int32.not_lt.mpr c_15]), ew60, htc, hkc, hr57]⟩
      · skip
        rw [hr31, bI_0] at c_34
        refine lv_bipush (v := (-13)) hx hb dX8_item_37 (by decide) ?_
        exact g_iret X h dX8_item_39 ⟨by simp [sItem, c_4, htc, hz, c_34, Int32.not_lt.mpr c_15], by rw [if_neg (by simp [okItem, htc, hz, c_34])]⟩
    · skip
      refine lv_bipush (v := (-11)) hx hb dX8_item_18 (by decide) ?_
      exact g_iret X h dX8_item_20 ⟨by simp [sItem, c_4, htc, Int32.not_le.mp c_15], by rw [if_neg (by simp [okItem, htc, Int32.not_le.mp c_15])]⟩
  · skip
    rw [hr1, bI_0] at c_4
    refine lv_iconst (v := (-1)) hx hb dX8_item_7 (by decide) ?_
    exact g_iret X h dX8_item_8 ⟨by simp [sItem, c_4], by rw [if_neg (by simp [okItem, c_4])]⟩

set_option maxRecDepth 100000 in
set_option maxHeartbeats 1000000 in
theorem c_X8_read (gl : Launch) (Z : PL) (v : VV) (w : WV) (x0 : Int32) (x1 : Int32) (hti : TIv (v 142) (v 143)) : CT gl yX8_read cX8_read 3 (some .long) 2 42 Z [.ref (zg Z 116), .int x0, .int x1] v w (Ql Z (fun r u => r = sRead (v 142) (v 143) (w 144) x0 x1 ∧ (v, w) = u)) := by
  refine g_met (by decide) (Nat.le_of_ble_eq_true rfl) ?_
  intro gp ge gs gm ga gb gh gc X h ls hl
  have hx := X.1
  have hb := X.2.1
  have hl : lv_has ls 3 [(0, .ref (zg Z 116)), (1, .int x0), (2, .int x1)] := hl
  refine lv_iload_n hx hb dX8_read_0 rfl (lv_at hl 1 rfl) ?_
  refine g_ki h (g_runS X h (As := [.int x0]) (rest := []) (c_X8_isTape gl Z v w x0) ms_X8_isTape ml_RX8_335 ⟨Nat.le_of_ble_eq_true rfl, Nat.le_of_ble_eq_true rfl⟩ rfl hl.1 rfl (Nat.le_of_ble_eq_true rfl) dX8_read_1) (fun r1 v1 w1 H locs hp1 h => ?_)
  obtain ⟨hr1, hu1⟩ := hp1; obtain ⟨rfl, rfl⟩ := Prod.mk.inj hu1
  refine lv_if_eq (tgt := 46) hx hb dX8_read_4 (by decide) (fun c_4 => ?_) (fun c_4 => ?_)
  · skip
    rw [hr1, bI_0] at c_4
    refine lv_ldc2 hx hb X.ow (X.ts _ cl_RX8_302) dX8_read_46 ?_
    exact g_lret X h dX8_read_49 ⟨by rw [sRead, if_neg (by simp [okRead, c_4])]; rfl, rfl⟩
  · skip
    rw [hr1, bI_n] at c_4
    obtain ⟨t, ht, ht0, ht5, htc⟩ := inR_nat (a := 0) (b := 5) rfl rfl (by decide) c_4
    refine lv_aload_n hx hb dX8_read_7 rfl (lv_at hl 0 rfl) ?_
    refine g_getr X h (k := 45) (t := 142) (cc_116) fr_RX8_88 rfl (by decide) (by decide) (by decide) dX8_read_8 ?_
    refine lv_iload_n hx hb dX8_read_11 rfl (lv_at hl 1 rfl) ?_
    refine g_iald X h (k := t) (cc_142) ht (by omega) (by decide) dX8_read_12 ?_
    refine lv_if_lt (tgt := 46) hx hb dX8_read_13 (by decide) (fun c_13 => ?_) (fun c_13 => ?_)
    · skip
      refine lv_ldc2 hx hb X.ow (X.ts _ cl_RX8_302) dX8_read_46 ?_
      exact g_lret X h dX8_read_49 ⟨by rw [sRead, if_neg (by simp [okRead, htc, c_13])]; rfl, rfl⟩
    · skip
      refine lv_iload_n hx hb dX8_read_16 rfl (lv_at hl 2 rfl) ?_
      refine lv_iconst (v := 0) hx hb dX8_read_17 (by decide) ?_
      refine lv_aload_n hx hb dX8_read_18 rfl (lv_at hl 0 rfl) ?_
      refine g_getr X h (k := 46) (t := 143) (cc_116) fr_RX8_91 rfl (by decide) (by decide) (by decide) dX8_read_19 ?_
      refine lv_iload_n hx hb dX8_read_22 rfl (lv_at hl 1 rfl) ?_
      refine g_iald X h (k := t) (cc_143) ht (by omega) (by decide) dX8_read_23 ?_
      refine lv_iconst (v := 1) hx hb dX8_read_24 (by decide) ?_
      refine lv_isub hx hb dX8_read_25 ?_
      refine g_ki h (g_runS X h (As := [.int x1, .int 0, .int ((v 143 t) - 1)]) (rest := []) (c_X8_within gl Z v w x1 0 ((v 143 t) - 1)) ms_X8_within ml_RX8_114 ⟨Nat.le_of_ble_eq_true rfl, Nat.le_of_ble_eq_true rfl⟩ rfl hl.1 rfl (Nat.le_of_ble_eq_true rfl) dX8_read_26) (fun r26 v26 w26 H locs hp26 h => ?_)
      obtain ⟨hr26, hu26⟩ := hp26; obtain ⟨rfl, rfl⟩ := Prod.mk.inj hu26
      obtain ⟨z, hz60, hz⟩ := sz_nat hti (show t < 6 by omega)
      rw [hz, inR_isP' (by omega)] at hr26
      refine lv_if_eq (tgt := 46) hx hb dX8_read_29 (by decide) (fun c_29 => ?_) (fun c_29 => ?_)
      · skip
        rw [hr26, bI_0] at c_29
        refine lv_ldc2 hx hb X.ow (X.ts _ cl_RX8_302) dX8_read_46 ?_
        exact g_lret X h dX8_read_49 ⟨by rw [sRead, if_neg (by simp [okRead, htc, hz, c_29])]; rfl, rfl⟩
      · skip
        rw [hr26, bI_n] at c_29
        obtain ⟨k, hk, hkn, hkc⟩ := isP_nat (by omega) c_29
        refine lv_aload_n hx hb dX8_read_32 rfl (lv_at hl 0 rfl) ?_
        refine g_getr X h (k := 47) (t := 144) (cc_116) fr_RX8_94 rfl (by decide) (by decide) (by decide) dX8_read_33 ?_
        refine lv_bipush (v := 60) hx hb dX8_read_36 (by decide) ?_
        refine lv_iload_n hx hb dX8_read_38 rfl (lv_at hl 1 rfl) ?_
        refine lv_imul hx hb dX8_read_39 ?_
        refine lv_iload_n hx hb dX8_read_40 rfl (lv_at hl 2 rfl) ?_
        refine lv_iadd hx hb dX8_read_41 ?_
        refine g_lald X h (k := ((60 * t) + k)) (cc_144) (by rw [show ((60 * x0)) = nI (60 * t) from (by rw [show (60) = nI 60 from rfl, show (x0) = nI t from ht, pk_mul]), show (x1) = nI k from hk, nI_add]) (by omega) (by decide) dX8_read_42 ?_
        refine lv_goto (tgt := 49) hx hb dX8_read_43 (by decide) ?_
        exact g_lret X h dX8_read_49 ⟨by rw [sRead, if_pos (by simp only [okRead, c_4, htc, hz, c_29]; simp [c_13]), htc, hkc], rfl⟩
