theorem nI_m1 {g : Nat} (h : g < 1000) : ¬ nI g = -1 := by
  intro e
  have := congrArg Int32.toInt e
  rw [nI_toInt (by omega), show (-1 : Int32).toInt = -1 by decide] at this
  omega
section XU2
variable {v : VV} {n k g : Nat} {L : LND} {x : Int32}
theorem xM_up_dead (h : k < 6) : xM (up2 v 121 k x) n L = up2 (xM v n L) 5 k x := by
  funext i j
  match i with
  | 0 => match j with
    | 0 => simp [xM, up2]
    | 1 => simp [xM, up2]
    | 2 => simp [xM, up2]
    | 3 => simp [xM, up2]
    | 4 => simp [xM, up2]
    | 5 => simp [xM, up2]
    | 6 => simp [xM, up2]
    | 7 => simp [xM, up2]
    | j + 8 => simp [xM, up2]
  | 1 => simp [xM, up2]
  | 2 => simp [xM, up2]
  | 3 => simp [xM, up2]
  | 4 => simp [xM, up2]
  | 5 =>
    by_cases e : j = k
    · subst e; simp [xM, up2, h]
    · simp [xM, up2, e]
  | 6 => simp [xM, up2]
  | 7 => simp [xM, up2]
  | i + 8 => simp [xM, up2]
theorem xM_up_v (h : k < 6) : xM (up2 v 118 k x) n L = up2 (xM v n L) 2 k x := by
  funext i j
  match i with
  | 0 => match j with
    | 0 => simp [xM, up2]
    | 1 => simp [xM, up2]
    | 2 => simp [xM, up2]
    | 3 => simp [xM, up2]
    | 4 => simp [xM, up2]
    | 5 => simp [xM, up2]
    | 6 => simp [xM, up2]
    | 7 => simp [xM, up2]
    | j + 8 => simp [xM, up2]
  | 1 => simp [xM, up2]
  | 2 =>
    by_cases e : j = k
    · subst e; simp [xM, up2, h]
    · simp [xM, up2, e]
  | 3 => simp [xM, up2]
  | 4 => simp [xM, up2]
  | 5 => simp [xM, up2]
  | 6 => simp [xM, up2]
  | 7 => simp [xM, up2]
  | i + 8 => simp [xM, up2]
theorem xM_up_rnd (h : k < 6) : xM (up2 v 123 k x) n L = up2 (xM v n L) 7 k x := by
  funext i j
  match i with
  | 0 => match j with
    | 0 => simp [xM, up2]
    | 1 => simp [xM, up2]
    | 2 => simp [xM, up2]
    | 3 => simp [xM, up2]
    | 4 => simp [xM, up2]
    | 5 => simp [xM, up2]
    | 6 => simp [xM, up2]
    | 7 => simp [xM, up2]
    | j + 8 => simp [xM, up2]
  | 1 => simp [xM, up2]
  | 2 => simp [xM, up2]
  | 3 => simp [xM, up2]
  | 4 => simp [xM, up2]
  | 5 => simp [xM, up2]
  | 6 => simp [xM, up2]
  | 7 =>
    by_cases e : j = k
    · subst e; simp [xM, up2, h]
    · simp [xM, up2, e]
  | i + 8 => simp [xM, up2]
theorem xM_up_pl : xM (up2 v 116 9 x) n L = up2 (xM v n L) 0 4 x := by
  funext i j
  match i with
  | 0 => match j with
    | 0 => simp [xM, up2]
    | 1 => simp [xM, up2]
    | 2 => simp [xM, up2]
    | 3 => simp [xM, up2]
    | 4 => simp [xM, up2]
    | 5 => simp [xM, up2]
    | 6 => simp [xM, up2]
    | 7 => simp [xM, up2]
    | j + 8 => simp [xM, up2]
  | 1 => simp [xM, up2]
  | 2 => simp [xM, up2]
  | 3 => simp [xM, up2]
  | 4 => simp [xM, up2]
  | 5 => simp [xM, up2]
  | 6 => simp [xM, up2]
  | 7 => simp [xM, up2]
  | i + 8 => simp [xM, up2]
theorem xM_up_pk (hg : g < 1000) : xM (up2 v 116 38 (nI g)) n L = up2 (xM v n L) 0 6 (nI g) := by
  funext i j
  match i with
  | 0 => match j with
    | 0 => simp [xM, up2, nI_m1 hg]
    | 1 => simp [xM, up2, nI_m1 hg]
    | 2 => simp [xM, up2, nI_m1 hg]
    | 3 => simp [xM, up2, nI_m1 hg]
    | 4 => simp [xM, up2, nI_m1 hg]
    | 5 => simp [xM, up2, nI_m1 hg]
    | 6 => simp [xM, up2, nI_m1 hg]
    | 7 => simp [xM, up2, nI_m1 hg]
    | j + 8 => simp [xM, up2]
  | 1 => simp [xM, up2]
  | 2 => simp [xM, up2]
  | 3 => simp [xM, up2]
  | 4 => simp [xM, up2]
  | 5 => simp [xM, up2]
  | 6 => simp [xM, up2]
  | 7 => simp [xM, up2]
  | i + 8 => simp [xM, up2]
theorem xM_up_cd (hg : g < 1000) : xM (up2 v 116 37 (nI g)) n L = up2 (xM v n L) 0 5 (nI g) := by
  funext i j
  match i with
  | 0 => match j with
    | 0 => simp [xM, up2, nI_m1 hg]
    | 1 => simp [xM, up2, nI_m1 hg]
    | 2 => simp [xM, up2, nI_m1 hg]
    | 3 => simp [xM, up2, nI_m1 hg]
    | 4 => simp [xM, up2, nI_m1 hg]
    | 5 => simp [xM, up2, nI_m1 hg]
    | 6 => simp [xM, up2, nI_m1 hg]
    | 7 => simp [xM, up2, nI_m1 hg]
    | j + 8 => simp [xM, up2]
  | 1 => simp [xM, up2]
  | 2 => simp [xM, up2]
  | 3 => simp [xM, up2]
  | 4 => simp [xM, up2]
  | 5 => simp [xM, up2]
  | 6 => simp [xM, up2]
  | 7 => simp [xM, up2]
  | i + 8 => simp [xM, up2]
end XU2
theorem scM.at {v v' : VV} (h : scM v v') : ∀ i, i ≠ 131 → i ≠ 138 → v' i = v i := h
theorem scM_kp {v v1 : VV} {f : Nat → Int32} (e : v1 = upc v 138 f) : scM v v1 := fun i _ h => by rw [e, upc_ne h]
theorem frM_stk {v v1 : VV} {f : Nat → Int32} (e : v1 = upc v 131 f) : frM v v1 := by
  subst e
  exact ⟨fun i _ _ _ h => u131 v f i h, fun k _ _ _ => by rw [u131 v f 116 (by decide)], fun k _ => ⟨by rw [u131 v f 119 (by decide)], by rw [u131 v f 120 (by decide)]⟩⟩
/-! what is asked of the days -/
def helS (X : VV) (L : LND) (n k : Nat) : Int32 := daysS X L n k 0 1
def goneS (X : VV) (L : LND) (n k : Nat) : Bool := decide (helS X L n k = 0)
def toldS (X : VV) (L : LND) (n : Nat) (x : Int32) : Int32 := if x = 0 then X 0 3 else if x = 1 then X 0 1 else if x = 2 then X 0 2 else if x = 3 then X 0 5 else if x = 4 then X 0 6 else if x = 5 then X 0 7 else if x = 6 then bitsS X L n else if x = 7 then lsum (prayS X L) n else if inR x 10 (9 + X 0 4) then X 7 (x - 10).toNatClampNeg else -1
def okPass (X : VV) (x : Int32) : Bool := inR x 0 60 && decide (¬ X 0 1 = 0) && decide (¬ 9999 < X 0 3 + x)
def sPass (X : VV) (L : LND) (n : Nat) (x : Int32) : Int32 := if inR x 0 60 then (if X 0 1 = 0 then -3 else if 9999 < X 0 3 + x then -3 else helS X L n x.toNatClampNeg) else -2
def onS (X : VV) (L : LND) (n k : Nat) (x : Int32) : Int32 := if x = 0 then daysS X L n k 0 1 else if x = 1 then daysS X L n k 0 2 else if x = 2 then bitsS (daysS X L n k) L n else if isP (nI n) (x - 10) then daysS X L n k 3 (x - 10).toNatClampNeg else daysS X L n k 4 (x - 20).toNatClampNeg
def sOn (X : VV) (L : LND) (n : Nat) (a x : Int32) : Int32 := if inR x 0 2 || isP (nI n) (x - 10) || isP (nI n) (x - 20) then (if inR a 0 60 then onS X L n a.toNatClampNeg x else -2) else -1
def diesF (X : VV) (L : LND) (n : Nat) : Nat → Nat → Int32
  | 0, _ => -5
  | f + 1, k => if helS X L n k = 0 then nI k else diesF X L n f (k + 1)
theorem inR_012 {x : Int32} (h : inR x 0 2 = true) : x = 0 ∨ x = 1 ∨ x = 2 := by
  obtain ⟨k, e, h0, h2, -⟩ := inR_nat (a := 0) (b := 2) rfl rfl (by decide) h
  rcases (show k = 0 ∨ k = 1 ∨ k = 2 by omega) with rfl | rfl | rfl
  · exact Or.inl e
  · exact Or.inr (Or.inl e)
  · exact Or.inr (Or.inr e)
theorem sub_back {x : Int32} {k c : Nat} (h : x - nI c = nI k) : x = nI (k + c) := by
  rw [← nI_add, ← h]
  exact (Int32.sub_add_cancel x (nI c)).symm
theorem on_10 {n : Nat} {x : Int32} (h6 : n ≤ 6) (ok : (inR x 0 2 || isP (nI n) (x - 10) || isP (nI n) (x - 20)) = true) (h0 : ¬ x = 0) (h1 : ¬ x = 1) (h2 : ¬ x = 2) (hl : x < 20) : isP (nI n) (x - 10) = true := by
  simp only [Bool.or_eq_true] at ok
  rcases ok with (ok | ok) | ok
  · rcases inR_012 ok with e | e | e <;> contradiction
  · exact ok
  · obtain ⟨k, e, hk, -⟩ := isP_nat (by omega) ok
    have e2 := sub_back (c := 20) e
    rw [e2] at hl
    have := nI_lt1 (b := 20) rfl rfl (by omega) (by omega) hl
    omega
theorem on_20 {n : Nat} {x : Int32} (h6 : n ≤ 6) (ok : (inR x 0 2 || isP (nI n) (x - 10) || isP (nI n) (x - 20)) = true) (h0 : ¬ x = 0) (h1 : ¬ x = 1) (h2 : ¬ x = 2) (hl : 20 ≤ x) : isP (nI n) (x - 10) = false ∧ isP (nI n) (x - 20) = true := by
  have hf : isP (nI n) (x - 10) = false := by
    cases hq : isP (nI n) (x - 10) with
    | false => rfl
    | true =>
      obtain ⟨k, e, hk, -⟩ := isP_nat (by omega) hq
      have e2 := sub_back (c := 10) e
      rw [e2] at hl
      have := nI_le1 (a := 20) rfl rfl (by omega) (by omega) hl
      omega
  refine ⟨hf, ?_⟩
  simp only [Bool.or_eq_true, hf] at ok
  rcases ok with (ok | ok) | ok
  · rcases inR_012 ok with e | e | e <;> contradiction
  · cases ok
  · exact ok
set_option maxRecDepth 100000 in
set_option maxHeartbeats 1000000 in
theorem c_X8_healthOn (gl : Launch) (Z : PL) (v : VV) (w : WV) (x0 : Int32) (k : Nat) (hk : x0 = nI k) (n : Nat) (B : Nat) (L : LND) (hd : DM v n B L) (hBk : B + k < 1000000) : CT gl yX8_healthOn cX8_healthOn 3 (some .int) 9 204 Z [.ref (zg Z 116), .int x0] v w (Qi Z (fun r u => r = helS (xM v n L) L n k ∧ (u.1, w) = u ∧ scM v u.1)) := by
  refine g_met (by decide) (Nat.le_of_ble_eq_true rfl) ?_
  intro gp ge gs gm ga gb gh gc X h ls hl
  have hx := X.1
  have hb := X.2.1
  have hl : lv_has ls 3 [(0, .ref (zg Z 116)), (1, .int x0)] := hl
  obtain ⟨hn, h6, hwf, hcur, hrx, hB⟩ := id hd
  refine lv_aload_n hx hb dX8_healthOn_0 rfl (lv_at hl 0 rfl) ?_
  refine lv_aload_n hx hb dX8_healthOn_1 rfl (lv_at hl 0 rfl) ?_
  refine g_getr X h (k := 39) (t := 138) (cc_116) fr_RX8_76 rfl (by decide) (by decide) (by decide) dX8_healthOn_2 ?_
  refine g_kv h (g_runV X h (As := [.ref (zg Z 138)]) (rest := []) (c_X8_keep gl Z v w 138 (Or.inl rfl)) mi_X8_keep ml_RX8_276 (cc_116) (by decide) kl8 rfl ⟨Nat.le_of_ble_eq_true rfl, Nat.le_of_ble_eq_true rfl⟩ rfl hl.1 rfl (Nat.le_of_ble_eq_true rfl) dX8_healthOn_5) (fun v5 w5 H locs hp5 h => ?_)
  obtain ⟨ev5, rfl⟩ := Prod.mk.inj hp5
  replace ev5 := ev5.symm
  have hs5 := scM_kp ev5
  refine lv_aload_n hx hb dX8_healthOn_8 rfl (lv_at hl 0 rfl) ?_
  refine lv_iload_n hx hb dX8_healthOn_9 rfl (lv_at hl 1 rfl) ?_
  refine g_kv h (g_runV X h (As := [.int x0]) (rest := []) (c_X8_days gl Z v5 w x0 k hk n B L (hs5.DM hd) (by first | assumption | omega)) mi_X8_days ml_RX8_272 (cc_116) (by decide) kl8 rfl ⟨Nat.le_of_ble_eq_true rfl, Nat.le_of_ble_eq_true rfl⟩ rfl hl.1 rfl (Nat.le_of_ble_eq_true rfl) dX8_healthOn_10) (fun v10 w10 H locs hp10 h => ?_)
  obtain ⟨hx10, hw10, hf10⟩ := hp10
  obtain ⟨-, rfl⟩ := Prod.mk.inj hw10
  replace hx10 : xM v10 n L = _ := hx10
  replace hf10 : frM _ v10 := hf10
  refine lv_aload_n hx hb dX8_healthOn_13 rfl (lv_at hl 0 rfl) ?_
  refine g_geti X h (k := 7) (cc_116) fr_RX8_98 rfl (by decide) dX8_healthOn_14 ?_
  refine lv_topi (fun x2_17 ex2_17 => ?_)
  refine lv_istore_n (lv' := [(2, .int x2_17), (0, .ref (zg Z 116)), (1, .int x0)]) hx hb dX8_healthOn_17 rfl hl (by decide) rfl (fun ls hl => ?_)
  refine lv_aload_n hx hb dX8_healthOn_18 rfl (lv_at hl 1 rfl) ?_
  refine lv_aload_n hx hb dX8_healthOn_19 rfl (lv_at hl 1 rfl) ?_
  refine g_getr X h (k := 39) (t := 138) (cc_116) fr_RX8_76 rfl (by decide) (by decide) (by decide) dX8_healthOn_20 ?_
  refine g_kv h (g_runV X h (As := [.ref (zg Z 138)]) (rest := []) (c_X8_again gl Z v10 w 138 (Or.inl rfl)) mi_X8_again ml_RX8_280 (cc_116) (by decide) kl8 rfl ⟨Nat.le_of_ble_eq_true rfl, Nat.le_of_ble_eq_true rfl⟩ rfl hl.1 rfl (Nat.le_of_ble_eq_true rfl) dX8_healthOn_23) (fun v23 w23 H locs hp23 h => ?_)
  obtain ⟨ev23, rfl⟩ := Prod.mk.inj hp23
  replace ev23 := ev23.symm
  refine lv_iload_n hx hb dX8_healthOn_26 rfl (lv_at hl 0 rfl) ?_
  exact g_iret X h dX8_healthOn_27 ⟨by rw [ex2_17, helS, ← hs5.xM, ← hx10]; rfl, rfl, by show scM v v23; rw [ev23]; exact again_all ev5 hf10⟩

set_option maxRecDepth 100000 in
set_option maxHeartbeats 1000000 in
theorem c_X8_isGone (gl : Launch) (Z : PL) (v : VV) (w : WV) (x0 : Int32) (k : Nat) (hk : x0 = nI k) (n : Nat) (B : Nat) (L : LND) (hd : DM v n B L) (hBk : B + k < 1000000) : CT gl yX8_isGone cX8_isGone 2 (some .boolean) 10 226 Z [.ref (zg Z 116), .int x0] v w (Qi Z (fun r u => r = bI (goneS (xM v n L) L n k) ∧ (u.1, w) = u ∧ scM v u.1)) := by
  refine g_met (by decide) (Nat.le_of_ble_eq_true rfl) ?_
  intro gp ge gs gm ga gb gh gc X h ls hl
  have hx := X.1
  have hb := X.2.1
  have hl : lv_has ls 2 [(0, .ref (zg Z 116)), (1, .int x0)] := hl
  obtain ⟨hn, h6, hwf, hcur, hrx, hB⟩ := id hd
  refine lv_aload_n hx hb dX8_isGone_0 rfl (lv_at hl 0 rfl) ?_
  refine lv_iload_n hx hb dX8_isGone_1 rfl (lv_at hl 1 rfl) ?_
  refine g_ki h (g_runV X h (As := [.int x0]) (rest := []) (c_X8_healthOn gl Z v w x0 k hk n B L hd (by first | assumption | omega)) mi_X8_healthOn ml_RX8_283 (cc_116) (by decide) kl8 rfl ⟨Nat.le_of_ble_eq_true rfl, Nat.le_of_ble_eq_true rfl⟩ rfl hl.1 rfl (Nat.le_of_ble_eq_true rfl) dX8_isGone_2) (fun r2 v2 w2 H locs hp2 h => ?_)
  obtain ⟨hr2, hw2, hsc2⟩ := hp2
  obtain ⟨-, rfl⟩ := Prod.mk.inj hw2
  replace hsc2 : scM _ v2 := hsc2
  refine lv_if_ne (tgt := 12) hx hb dX8_isGone_5 (by decide) (fun c_5 => ?_) (fun c_5 => ?_)
  · skip
    refine lv_iconst (v := 0) hx hb dX8_isGone_12 (by decide) ?_
    exact g_nret X h dX8_isGone_13 rfl ⟨by rw [goneS, ← hr2]; exact (congrArg bI (decide_eq_false c_5)).symm, rfl, hsc2⟩
  · skip
    refine lv_iconst (v := 1) hx hb dX8_isGone_8 (by decide) ?_
    refine lv_goto (tgt := 13) hx hb dX8_isGone_9 (by decide) ?_
    exact g_nret X h dX8_isGone_13 rfl ⟨by rw [goneS, ← hr2]; exact (congrArg bI (decide_eq_true c_5)).symm, rfl, hsc2⟩

set_option maxRecDepth 100000 in
set_option maxHeartbeats 1000000 in
theorem c_X8_told (gl : Launch) (Z : PL) (v : VV) (w : WV) (x0 : Int32) (n : Nat) (B : Nat) (L : LND) (hd : DM v n B L) : CT gl yX8_told cX8_told 2 (some .int) 7 159 Z [.ref (zg Z 116), .int x0] v w (Qi Z (fun r u => r = toldS (xM v n L) L n x0 ∧ ∃ f, (upc v 131 f, w) = u)) := by
  refine g_met (by decide) (Nat.le_of_ble_eq_true rfl) ?_
  intro gp ge gs gm ga gb gh gc X h ls hl
  have hx := X.1
  have hb := X.2.1
  have hl : lv_has ls 2 [(0, .ref (zg Z 116)), (1, .int x0)] := hl
  obtain ⟨hn, h6, hwf, hcur, hrx, hB⟩ := id hd
  obtain ⟨q, hq6, hq, hqr⟩ := id hrx.2.2.2.2.1
  rw [xM_04] at hq
  refine lv_iload_n hx hb dX8_told_0 rfl (lv_at hl 1 rfl) ?_
  by_cases t1_0 : x0 = 0
  · refine lv_tableIn (off := 47) (tgt := 48) hx hb dX8_told_1 (by rw [t1_0]; decide) (by rw [t1_0]; decide) (by rw [t1_0]; rfl) (by decide) ?_
    refine lv_aload_n hx hb dX8_told_48 rfl (lv_at hl 0 rfl) ?_
    refine g_geti X h (k := 11) (cc_116) fr_RX8_224 rfl (by decide) dX8_told_49 ?_
    exact g_iret X h dX8_told_52 ⟨by rw [toldS, if_pos t1_0]; rfl, v 131, by rw [upc_self]⟩
  · skip
    by_cases t1_1 : x0 = 1
    · refine lv_tableIn (off := 52) (tgt := 53) hx hb dX8_told_1 (by rw [t1_1]; decide) (by rw [t1_1]; decide) (by rw [t1_1]; rfl) (by decide) ?_
      refine lv_aload_n hx hb dX8_told_53 rfl (lv_at hl 0 rfl) ?_
      refine g_geti X h (k := 7) (cc_116) fr_RX8_98 rfl (by decide) dX8_told_54 ?_
      exact g_iret X h dX8_told_57 ⟨by rw [toldS, if_neg t1_0, if_pos t1_1]; rfl, v 131, by rw [upc_self]⟩
    · skip
      by_cases t1_2 : x0 = 2
      · refine lv_tableIn (off := 57) (tgt := 58) hx hb dX8_told_1 (by rw [t1_2]; decide) (by rw [t1_2]; decide) (by rw [t1_2]; rfl) (by decide) ?_
        refine lv_aload_n hx hb dX8_told_58 rfl (lv_at hl 0 rfl) ?_
        refine g_geti X h (k := 8) (cc_116) fr_RX8_136 rfl (by decide) dX8_told_59 ?_
        exact g_iret X h dX8_told_62 ⟨by rw [toldS, if_neg t1_0, if_neg t1_1, if_pos t1_2]; rfl, v 131, by rw [upc_self]⟩
      · skip
        by_cases t1_3 : x0 = 3
        · refine lv_tableIn (off := 62) (tgt := 63) hx hb dX8_told_1 (by rw [t1_3]; decide) (by rw [t1_3]; decide) (by rw [t1_3]; rfl) (by decide) ?_
          refine lv_aload_n hx hb dX8_told_63 rfl (lv_at hl 0 rfl) ?_
          refine g_ki h (g_runV X h (As := []) (rest := []) (c_X8_cold gl Z v w n L hwf hcur) mi_X8_cold ml_RX8_243 (cc_116) (by decide) kl8 rfl ⟨Nat.le_of_ble_eq_true rfl, Nat.le_of_ble_eq_true rfl⟩ rfl hl.1 rfl (Nat.le_of_ble_eq_true rfl) dX8_told_64) (fun r64 v64 w64 H locs hp64 h => ?_)
          obtain ⟨hr64, hu64⟩ := hp64; obtain ⟨rfl, rfl⟩ := Prod.mk.inj hu64
          exact g_iret X h dX8_told_67 ⟨by rw [toldS, if_neg t1_0, if_neg t1_1, if_neg t1_2, if_pos t1_3]; exact hr64, v 131, by rw [upc_self]⟩
        · skip
          by_cases t1_4 : x0 = 4
          · refine lv_tableIn (off := 67) (tgt := 68) hx hb dX8_told_1 (by rw [t1_4]; decide) (by rw [t1_4]; decide) (by rw [t1_4]; rfl) (by decide) ?_
            refine lv_aload_n hx hb dX8_told_68 rfl (lv_at hl 0 rfl) ?_
            refine g_ki h (g_runV X h (As := []) (rest := []) (c_X8_pocket gl Z v w n L hwf hcur) mi_X8_pocket ml_RX8_260 (cc_116) (by decide) kl8 rfl ⟨Nat.le_of_ble_eq_true rfl, Nat.le_of_ble_eq_true rfl⟩ rfl hl.1 rfl (Nat.le_of_ble_eq_true rfl) dX8_told_69) (fun r69 v69 w69 H locs hp69 h => ?_)
            obtain ⟨hr69, hu69⟩ := hp69; obtain ⟨rfl, rfl⟩ := Prod.mk.inj hu69
            exact g_iret X h dX8_told_72 ⟨by rw [toldS, if_neg t1_0, if_neg t1_1, if_neg t1_2, if_neg t1_3, if_pos t1_4]; exact hr69, v 131, by rw [upc_self]⟩
          · skip
            by_cases t1_5 : x0 = 5
            · refine lv_tableIn (off := 72) (tgt := 73) hx hb dX8_told_1 (by rw [t1_5]; decide) (by rw [t1_5]; decide) (by rw [t1_5]; rfl) (by decide) ?_
              refine lv_aload_n hx hb dX8_told_73 rfl (lv_at hl 0 rfl) ?_
              refine lv_iconst (v := 4) hx hb dX8_told_74 (by decide) ?_
              refine lv_iconst (v := 1) hx hb dX8_told_75 (by decide) ?_
              refine g_ki h (g_runV X h (As := [.int 4, .int 1]) (rest := []) (c_X8_lastOf gl Z v w 4 4 rfl 1 L hwf hcur (by omega)) mi_X8_lastOf ml_RX8_234 (cc_116) (by decide) kl8 rfl ⟨Nat.le_of_ble_eq_true rfl, Nat.le_of_ble_eq_true rfl⟩ rfl hl.1 rfl (Nat.le_of_ble_eq_true rfl) dX8_told_76) (fun r76 v76 w76 H locs hp76 h => ?_)
              obtain ⟨hr76, hu76⟩ := hp76; obtain ⟨rfl, rfl⟩ := Prod.mk.inj hu76
              exact g_iret X h dX8_told_79 ⟨by rw [toldS, if_neg t1_0, if_neg t1_1, if_neg t1_2, if_neg t1_3, if_neg t1_4, if_pos t1_5]; exact hr76, v 131, by rw [upc_self]⟩
            · skip
              by_cases t1_6 : x0 = 6
              · refine lv_tableIn (off := 79) (tgt := 80) hx hb dX8_told_1 (by rw [t1_6]; decide) (by rw [t1_6]; decide) (by rw [t1_6]; rfl) (by decide) ?_
                refine lv_aload_n hx hb dX8_told_80 rfl (lv_at hl 0 rfl) ?_
                refine g_ki h (g_runV X h (As := []) (rest := []) (c_X8_letting gl Z v w n B L hd) mi_X8_letting ml_RX8_246 (cc_116) (by decide) kl8 rfl ⟨Nat.le_of_ble_eq_true rfl, Nat.le_of_ble_eq_true rfl⟩ rfl hl.1 rfl (Nat.le_of_ble_eq_true rfl) dX8_told_81) (fun r81 v81 w81 H locs hp81 h => ?_)
                obtain ⟨hr81, f81, hf81⟩ := hp81
                obtain ⟨ev81, rfl⟩ := Prod.mk.inj hf81
                replace ev81 := ev81.symm
                exact g_iret X h dX8_told_84 ⟨by rw [toldS, if_neg t1_0, if_neg t1_1, if_neg t1_2, if_neg t1_3, if_neg t1_4, if_neg t1_5, if_pos t1_6]; exact hr81, f81, by rw [ev81]⟩
              · skip
                by_cases t1_7 : x0 = 7
                · refine lv_tableIn (off := 84) (tgt := 85) hx hb dX8_told_1 (by rw [t1_7]; decide) (by rw [t1_7]; decide) (by rw [t1_7]; rfl) (by decide) ?_
                  refine lv_aload_n hx hb dX8_told_85 rfl (lv_at hl 0 rfl) ?_
                  refine g_ki h (g_runV X h (As := []) (rest := []) (c_X8_prayers gl Z v w n B L hd) mi_X8_prayers ml_RX8_240 (cc_116) (by decide) kl8 rfl ⟨Nat.le_of_ble_eq_true rfl, Nat.le_of_ble_eq_true rfl⟩ rfl hl.1 rfl (Nat.le_of_ble_eq_true rfl) dX8_told_86) (fun r86 v86 w86 H locs hp86 h => ?_)
                  obtain ⟨hr86, f86, hf86⟩ := hp86
                  obtain ⟨ev86, rfl⟩ := Prod.mk.inj hf86
                  replace ev86 := ev86.symm
                  exact g_iret X h dX8_told_89 ⟨by rw [toldS, if_neg t1_0, if_neg t1_1, if_neg t1_2, if_neg t1_3, if_neg t1_4, if_neg t1_5, if_neg t1_6, if_pos t1_7]; exact hr86, f86, by rw [ev86]⟩
                · skip
                  have q0 := lv_neT t1_0 (a := 0) (by decide)
                  have q1 := lv_neT t1_1 (a := 1) (by decide)
                  have q2 := lv_neT t1_2 (a := 2) (by decide)
                  have q3 := lv_neT t1_3 (a := 3) (by decide)
                  have q4 := lv_neT t1_4 (a := 4) (by decide)
                  have q5 := lv_neT t1_5 (a := 5) (by decide)
                  have q6 := lv_neT t1_6 (a := 6) (by decide)
                  have q7 := lv_neT t1_7 (a := 7) (by decide)
                  refine lv_tableOut (tgt := 90) hx hb dX8_told_1 (by omega) (by decide) ?_
                  refine lv_iload_n hx hb dX8_told_90 rfl (lv_at hl 1 rfl) ?_
                  refine lv_bipush (v := 10) hx hb dX8_told_91 (by decide) ?_
                  refine lv_bipush (v := 9) hx hb dX8_told_93 (by decide) ?_
                  refine lv_aload_n hx hb dX8_told_95 rfl (lv_at hl 0 rfl) ?_
                  refine g_geti X h (k := 9) (cc_116) fr_RX8_139 rfl (by decide) dX8_told_96 ?_
                  refine lv_iadd hx hb dX8_told_99 ?_
                  refine g_ki h (g_runS X h (As := [.int x0, .int 10, .int (9 + (v 116 9))]) (rest := []) (c_X8_within gl Z v w x0 10 (9 + (v 116 9))) ms_X8_within ml_RX8_114 ⟨Nat.le_of_ble_eq_true rfl, Nat.le_of_ble_eq_true rfl⟩ rfl hl.1 rfl (Nat.le_of_ble_eq_true rfl) dX8_told_100) (fun r100 v100 w100 H locs hp100 h => ?_)
                  obtain ⟨hr100, hu100⟩ := hp100; obtain ⟨rfl, rfl⟩ := Prod.mk.inj hu100
                  refine lv_if_eq (tgt := 118) hx hb dX8_told_103 (by decide) (fun c_103 => ?_) (fun c_103 => ?_)
                  · skip
                    rw [hr100, bI_0] at c_103
                    refine lv_iconst (v := (-1)) hx hb dX8_told_118 (by decide) ?_
                    exact g_iret X h dX8_told_119 ⟨by rw [toldS, if_neg t1_0, if_neg t1_1, if_neg t1_2, if_neg t1_3, if_neg t1_4, if_neg t1_5, if_neg t1_6, if_neg t1_7, xM_04, if_neg (by rw [c_103]; simp)], v 131, by rw [upc_self]⟩
                  · skip
                    rw [hr100, bI_n] at c_103
                    obtain ⟨kx, hkx1, hkx2, hkx3, hkx4⟩ := inR_nat (a := 10) (b := 9 + q) rfl (by rw [hq]; exact nI_add 9 q) (by omega) c_103
                    have hkx : (x0 - 10).toNatClampNeg = kx - 10 := by rw [hkx1, show (10 : Int32) = nI 10 from rfl, pk_sub hkx2, nI_clamp (by omega)]
                    refine lv_aload_n hx hb dX8_told_106 rfl (lv_at hl 0 rfl) ?_
                    refine g_getr X h (k := 10) (t := 123) (cc_116) fr_RX8_30 rfl (by decide) (by decide) (by decide) dX8_told_107 ?_
                    refine lv_iload_n hx hb dX8_told_110 rfl (lv_at hl 1 rfl) ?_
                    refine lv_bipush (v := 10) hx hb dX8_told_111 (by decide) ?_
                    refine lv_isub hx hb dX8_told_113 ?_
                    refine g_iald X h (k := (kx - 10)) (cc_123) (by rw [hkx1]; exact pk_sub hkx2) (by omega) (by decide) dX8_told_114 ?_
                    refine lv_goto (tgt := 119) hx hb dX8_told_115 (by decide) ?_
                    exact g_iret X h dX8_told_119 ⟨by rw [toldS, if_neg t1_0, if_neg t1_1, if_neg t1_2, if_neg t1_3, if_neg t1_4, if_neg t1_5, if_neg t1_6, if_neg t1_7, xM_04, if_pos c_103, hkx, xM_rnd (by omega)], v 131, by rw [upc_self]⟩

set_option maxRecDepth 100000 in
set_option maxHeartbeats 1000000 in
theorem c_X8_isDays (gl : Launch) (Z : PL) (v : VV) (w : WV) (x0 : Int32) : CT gl yX8_isDays cX8_isDays 1 (some .boolean) 1 22 Z [.int x0] v w (Qi Z (fun r u => r = bI (inR x0 0 60) ∧ (v, w) = u)) := by
  refine g_met (by decide) (Nat.le_of_ble_eq_true rfl) ?_
  intro gp ge gs gm ga gb gh gc X h ls hl
  have hx := X.1
  have hb := X.2.1
  have hl : lv_has ls 1 [(0, .int x0)] := hl
  refine lv_iload_n hx hb dX8_isDays_0 rfl (lv_at hl 0 rfl) ?_
  refine lv_iconst (v := 0) hx hb dX8_isDays_1 (by decide) ?_
  refine lv_bipush (v := 60) hx hb dX8_isDays_2 (by decide) ?_
  refine g_ki h (g_runS X h (As := [.int x0, .int 0, .int 60]) (rest := []) (c_X8_within gl Z v w x0 0 60) ms_X8_within ml_RX8_114 ⟨Nat.le_of_ble_eq_true rfl, Nat.le_of_ble_eq_true rfl⟩ rfl hl.1 rfl (Nat.le_of_ble_eq_true rfl) dX8_isDays_4) (fun r4 v4 w4 H locs hp4 h => ?_)
  obtain ⟨hr4, hu4⟩ := hp4; obtain ⟨rfl, rfl⟩ := Prod.mk.inj hu4
  exact g_nret X h dX8_isDays_7 (by rw [hr4]; exact nar_bI _) ⟨hr4, rfl⟩

set_option maxRecDepth 100000 in
set_option maxHeartbeats 1000000 in
theorem c_X8_pass (gl : Launch) (Z : PL) (v : VV) (w : WV) (x0 : Int32) (n : Nat) (B : Nat) (L : LND) (hd : DM v n B L) (hB60 : B + 60 < 1000000) : CT gl yX8_pass cX8_pass 2 (some .int) 9 204 Z [.ref (zg Z 116), .int x0] v w (Qi Z (fun r u => r = sPass (xM v n L) L n x0 ∧ (u.1, w) = u ∧ frM v u.1 ∧ xM u.1 n L = (if okPass (xM v n L) x0 then daysS (xM v n L) L n x0.toNatClampNeg else xM v n L))) := by
  refine g_met (by decide) (Nat.le_of_ble_eq_true rfl) ?_
  intro gp ge gs gm ga gb gh gc X h ls hl
  have hx := X.1
  have hb := X.2.1
  have hl : lv_has ls 2 [(0, .ref (zg Z 116)), (1, .int x0)] := hl
  obtain ⟨hn, h6, hwf, hcur, hrx, hB⟩ := id hd
  refine lv_iload_n hx hb dX8_pass_0 rfl (lv_at hl 1 rfl) ?_
  refine g_ki h (g_runS X h (As := [.int x0]) (rest := []) (c_X8_isDays gl Z v w x0) ms_X8_isDays ml_RX8_269 ⟨Nat.le_of_ble_eq_true rfl, Nat.le_of_ble_eq_true rfl⟩ rfl hl.1 rfl (Nat.le_of_ble_eq_true rfl) dX8_pass_1) (fun r1 v1 w1 H locs hp1 h => ?_)
  obtain ⟨hr1, hu1⟩ := hp1; obtain ⟨rfl, rfl⟩ := Prod.mk.inj hu1
  refine lv_if_ne (tgt := 10) hx hb dX8_pass_4 (by decide) (fun c_4 => ?_) (fun c_4 => ?_)
  · skip
    rw [hr1, bI_n] at c_4
    obtain ⟨k, hk, hk0, hk60, hkc⟩ := inR_nat (a := 0) (b := 60) rfl rfl (by decide) c_4
    refine lv_aload_n hx hb dX8_pass_10 rfl (lv_at hl 0 rfl) ?_
    refine g_geti X h (k := 7) (cc_116) fr_RX8_98 rfl (by decide) dX8_pass_11 ?_
    refine lv_if_eq (tgt := 29) hx hb dX8_pass_14 (by decide) (fun c_14 => ?_) (fun c_14 => ?_)
    · skip
      refine lv_bipush (v := (-3)) hx hb dX8_pass_29 (by decide) ?_
      exact g_iret X h dX8_pass_31 ⟨by first | (simp only [sPass, c_4, xM_01]; simp [c_14]; done) | (simp only [sPass, c_4, xM_01, xM_03]; have z := Int32.not_le.mp c_26; simp [c_14, z]; done), rfl, frM_refl v, by first | (simp only [okPass, c_4, xM_01]; simp [c_14]; done) | (simp only [okPass, c_4, xM_01, xM_03]; have z := Int32.not_le.mp c_26; simp [c_14, z]; done)⟩
    · skip
      refine lv_aload_n hx hb dX8_pass_17 rfl (lv_at hl 0 rfl) ?_
      refine g_geti X h (k := 11) (cc_116) fr_RX8_224 rfl (by decide) dX8_pass_18 ?_
      refine lv_iload_n hx hb dX8_pass_21 rfl (lv_at hl 1 rfl) ?_
      refine lv_iadd hx hb dX8_pass_22 ?_
      refine lv_sipush (v := 9999) hx hb dX8_pass_23 (by decide) ?_
      refine lv_icmp_le (tgt := 32) hx hb dX8_pass_26 (by decide) (fun c_26 => ?_) (fun c_26 => ?_)
      · skip
        refine lv_aload_n hx hb dX8_pass_32 rfl (lv_at hl 0 rfl) ?_
        refine lv_iload_n hx hb dX8_pass_33 rfl (lv_at hl 1 rfl) ?_
        refine g_kv h (g_runV X h (As := [.int x0]) (rest := []) (c_X8_days gl Z v w x0 k hk n B L hd (by omega)) mi_X8_days ml_RX8_272 (cc_116) (by decide) kl8 rfl ⟨Nat.le_of_ble_eq_true rfl, Nat.le_of_ble_eq_true rfl⟩ rfl hl.1 rfl (Nat.le_of_ble_eq_true rfl) dX8_pass_34) (fun v34 w34 H locs hp34 h => ?_)
        obtain ⟨hx34, hw34, hf34⟩ := hp34
        obtain ⟨-, rfl⟩ := Prod.mk.inj hw34
        replace hx34 : xM v34 n L = _ := hx34
        replace hf34 : frM _ v34 := hf34
        refine lv_aload_n hx hb dX8_pass_37 rfl (lv_at hl 0 rfl) ?_
        refine g_geti X h (k := 7) (cc_116) fr_RX8_98 rfl (by decide) dX8_pass_38 ?_
        exact g_iret X h dX8_pass_41 (by have z := Int32.not_lt.mpr c_26; have e : okPass (xM v n L) x0 = true := (by simp only [okPass, c_4, xM_01, xM_03]; simp [c_14, z]); exact ⟨(by simp only [sPass, c_4, xM_01, xM_03, if_neg c_14, if_neg z, if_true, hkc, helS, ← hx34]; try rfl), rfl, hf34, (by show xM v34 n L = _; rw [if_pos e, hkc]; exact hx34)⟩)
      · skip
        refine lv_bipush (v := (-3)) hx hb dX8_pass_29 (by decide) ?_
        exact g_iret X h dX8_pass_31 ⟨by first | (simp only [sPass, c_4, xM_01]; simp [c_14]; done) | (simp only [sPass, c_4, xM_01, xM_03]; have z := Int32.not_le.mp c_26; simp [c_14, z]; done), rfl, frM_refl v, by first | (simp only [okPass, c_4, xM_01]; simp [c_14]; done) | (simp only [okPass, c_4, xM_01, xM_03]; have z := Int32.not_le.mp c_26; simp [c_14, z]; done)⟩
  · skip
    rw [hr1, bI_0] at c_4
    refine lv_bipush (v := (-2)) hx hb dX8_pass_7 (by decide) ?_
    exact g_iret X h dX8_pass_9 ⟨by simp [sPass, c_4], rfl, frM_refl v, by simp [okPass, c_4]⟩

set_option maxRecDepth 100000 in
set_option maxHeartbeats 1000000 in
theorem c_X8_on (gl : Launch) (Z : PL) (v : VV) (w : WV) (x0 : Int32) (x1 : Int32) (n : Nat) (B : Nat) (L : LND) (hd : DM v n B L) (hB60 : B + 60 < 1000000) : CT gl yX8_on cX8_on 4 (some .int) 9 204 Z [.ref (zg Z 116), .int x0, .int x1] v w (Qi Z (fun r u => r = sOn (xM v n L) L n x0 x1 ∧ (u.1, w) = u ∧ scM v u.1)) := by
  refine g_met (by decide) (Nat.le_of_ble_eq_true rfl) ?_
  intro gp ge gs gm ga gb gh gc X h ls hl
  have hx := X.1
  have hb := X.2.1
  have hl : lv_has ls 4 [(0, .ref (zg Z 116)), (1, .int x0), (2, .int x1)] := hl
  obtain ⟨hn, h6, hwf, hcur, hrx, hB⟩ := id hd
  refine lv_iload_n hx hb dX8_on_0 rfl (lv_at hl 2 rfl) ?_
  refine lv_iconst (v := 0) hx hb dX8_on_1 (by decide) ?_
  refine lv_iconst (v := 2) hx hb dX8_on_2 (by decide) ?_
  refine g_ki h (g_runS X h (As := [.int x1, .int 0, .int 2]) (rest := []) (c_X8_within gl Z v w x1 0 2) ms_X8_within ml_RX8_114 ⟨Nat.le_of_ble_eq_true rfl, Nat.le_of_ble_eq_true rfl⟩ rfl hl.1 rfl (Nat.le_of_ble_eq_true rfl) dX8_on_3) (fun r3 v3 w3 H locs hp3 h => ?_)
  obtain ⟨hr3, hu3⟩ := hp3; obtain ⟨rfl, rfl⟩ := Prod.mk.inj hu3
  refine lv_if_ne (tgt := 33) hx hb dX8_on_6 (by decide) (fun c_6 => ?_) (fun c_6 => ?_)
  · skip
    rw [hr3, bI_n] at c_6
    refine lv_iload_n hx hb dX8_on_33 rfl (lv_at hl 1 rfl) ?_
    refine g_ki h (g_runS X h (As := [.int x0]) (rest := []) (c_X8_isDays gl Z v w x0) ms_X8_isDays ml_RX8_269 ⟨Nat.le_of_ble_eq_true rfl, Nat.le_of_ble_eq_true rfl⟩ rfl hl.1 rfl (Nat.le_of_ble_eq_true rfl) dX8_on_34) (fun r34 v34 w34 H locs hp34 h => ?_)
    obtain ⟨hr34, hu34⟩ := hp34; obtain ⟨rfl, rfl⟩ := Prod.mk.inj hu34
    refine lv_if_ne (tgt := 43) hx hb dX8_on_37 (by decide) (fun c_37 => ?_) (fun c_37 => ?_)
    · skip
      rw [hr34, bI_n] at c_37
      obtain ⟨k, hk, hk0, hk60, hkc⟩ := inR_nat (a := 0) (b := 60) rfl rfl (by decide) c_37
      refine lv_aload_n hx hb dX8_on_43 rfl (lv_at hl 0 rfl) ?_
      refine lv_aload_n hx hb dX8_on_44 rfl (lv_at hl 0 rfl) ?_
      refine g_getr X h (k := 39) (t := 138) (cc_116) fr_RX8_76 rfl (by decide) (by decide) (by decide) dX8_on_45 ?_
      refine g_kv h (g_runV X h (As := [.ref (zg Z 138)]) (rest := []) (c_X8_keep gl Z v w 138 (Or.inl rfl)) mi_X8_keep ml_RX8_276 (cc_116) (by decide) kl8 rfl ⟨Nat.le_of_ble_eq_true rfl, Nat.le_of_ble_eq_true rfl⟩ rfl hl.1 rfl (Nat.le_of_ble_eq_true rfl) dX8_on_48) (fun v48 w48 H locs hp48 h => ?_)
      obtain ⟨ev48, rfl⟩ := Prod.mk.inj hp48
      replace ev48 := ev48.symm
      have hs48 := scM_kp ev48
      refine lv_aload_n hx hb dX8_on_51 rfl (lv_at hl 0 rfl) ?_
      refine lv_iload_n hx hb dX8_on_52 rfl (lv_at hl 1 rfl) ?_
      refine g_kv h (g_runV X h (As := [.int x0]) (rest := []) (c_X8_days gl Z v48 w x0 k hk n B L (hs48.DM hd) (by omega)) mi_X8_days ml_RX8_272 (cc_116) (by decide) kl8 rfl ⟨Nat.le_of_ble_eq_true rfl, Nat.le_of_ble_eq_true rfl⟩ rfl hl.1 rfl (Nat.le_of_ble_eq_true rfl) dX8_on_53) (fun v53 w53 H locs hp53 h => ?_)
      obtain ⟨hx53, hw53, hf53⟩ := hp53
      obtain ⟨-, rfl⟩ := Prod.mk.inj hw53
      replace hx53 : xM v53 n L = _ := hx53
      replace hf53 : frM _ v53 := hf53
      have hn53 : DM v53 n (B + k) L := DM.fr (hs48.DM hd) hf53 (by rw [hx53]; exact RX_daysS h6 (by rw [hs48.xM]; exact hrx) k (by omega)) (by omega)
      refine lv_iload_n hx hb dX8_on_56 rfl (lv_at hl 2 rfl) ?_
      refine lv_if_ne (tgt := 67) hx hb dX8_on_57 (by decide) (fun c_57 => ?_) (fun c_57 => ?_)
      · skip
        refine lv_iload_n hx hb dX8_on_67 rfl (lv_at hl 2 rfl) ?_
        refine lv_iconst (v := 1) hx hb dX8_on_68 (by decide) ?_
        refine lv_icmp_ne (tgt := 79) hx hb dX8_on_69 (by decide) (fun c_69 => ?_) (fun c_69 => ?_)
        · skip
          refine lv_iload_n hx hb dX8_on_79 rfl (lv_at hl 2 rfl) ?_
          refine lv_iconst (v := 2) hx hb dX8_on_80 (by decide) ?_
          refine lv_icmp_ne (tgt := 91) hx hb dX8_on_81 (by decide) (fun c_81 => ?_) (fun c_81 => ?_)
          · skip
            refine lv_iload_n hx hb dX8_on_91 rfl (lv_at hl 2 rfl) ?_
            refine lv_bipush (v := 20) hx hb dX8_on_92 (by decide) ?_
            refine lv_icmp_ge (tgt := 109) hx hb dX8_on_94 (by decide) (fun c_94 => ?_) (fun c_94 => ?_)
            · skip
              obtain ⟨hi10, hi20⟩ := on_20 h6 (by simp [c_6]) c_57 c_69 c_81 c_94
              obtain ⟨kx, hkx, hkxn, hkxc⟩ := isP_nat (by omega) hi20
              refine lv_aload_n hx hb dX8_on_109 rfl (lv_at hl 0 rfl) ?_
              refine g_getr X h (k := 4) (t := 120) (cc_116) fr_RX8_21 rfl (by decide) (by decide) (by decide) dX8_on_110 ?_
              refine lv_iload_n hx hb dX8_on_113 rfl (lv_at hl 2 rfl) ?_
              refine lv_bipush (v := 20) hx hb dX8_on_114 (by decide) ?_
              refine lv_isub hx hb dX8_on_116 ?_
              refine g_iald X h (k := kx) (cc_120) hkx (by omega) (by decide) dX8_on_117 ?_
              refine lv_topi (fun x3_118 ex3_118 => ?_)
              refine lv_istore_n (lv' := [(3, .int x3_118), (0, .ref (zg Z 116)), (1, .int x0), (2, .int x1)]) hx hb dX8_on_118 rfl hl (by decide) rfl (fun ls hl => ?_)
              refine lv_aload_n hx hb dX8_on_119 rfl (lv_at hl 1 rfl) ?_
              refine lv_aload_n hx hb dX8_on_120 rfl (lv_at hl 1 rfl) ?_
              refine g_getr X h (k := 39) (t := 138) (cc_116) fr_RX8_76 rfl (by decide) (by decide) (by decide) dX8_on_121 ?_
              refine g_kv h (g_runV X h (As := [.ref (zg Z 138)]) (rest := []) (c_X8_again gl Z v53 w 138 (Or.inl rfl)) mi_X8_again ml_RX8_280 (cc_116) (by decide) kl8 rfl ⟨Nat.le_of_ble_eq_true rfl, Nat.le_of_ble_eq_true rfl⟩ rfl hl.1 rfl (Nat.le_of_ble_eq_true rfl) dX8_on_124) (fun v124 w124 H locs hp124 h => ?_)
              obtain ⟨ev124, rfl⟩ := Prod.mk.inj hp124
              replace ev124 := ev124.symm
              refine lv_iload_n hx hb dX8_on_127 rfl (lv_at hl 0 rfl) ?_
              exact g_iret X h dX8_on_128 ⟨(by have ok : (inR x1 0 2 || isP (nI n) (x1 - 10) || isP (nI n) (x1 - 20)) = true := (by simp [c_6]); simp only [sOn, ok, c_37, if_true, hkc]; rw [onS, ← hs48.xM, ← hx53]; rw [if_neg c_57, if_neg c_69, if_neg c_81, if_neg (by rw [hi10]; simp), ex3_118, hkxc, xM_got (by omega)]), rfl, by show scM v v124; rw [ev124]; exact again_all ev48 hf53⟩
            · skip
              have hi10 : isP (nI n) (x1 - 10) = true := on_10 h6 (by simp [c_6]) c_57 c_69 c_81 (Int32.not_le.mp c_94)
              obtain ⟨kx, hkx, hkxn, hkxc⟩ := isP_nat (by omega) hi10
              refine lv_aload_n hx hb dX8_on_97 rfl (lv_at hl 0 rfl) ?_
              refine g_getr X h (k := 3) (t := 119) (cc_116) fr_RX8_18 rfl (by decide) (by decide) (by decide) dX8_on_98 ?_
              refine lv_iload_n hx hb dX8_on_101 rfl (lv_at hl 2 rfl) ?_
              refine lv_bipush (v := 10) hx hb dX8_on_102 (by decide) ?_
              refine lv_isub hx hb dX8_on_104 ?_
              refine g_iald X h (k := kx) (cc_119) hkx (by omega) (by decide) dX8_on_105 ?_
              refine lv_goto (tgt := 118) hx hb dX8_on_106 (by decide) ?_
              refine lv_topi (fun x3_118 ex3_118 => ?_)
              refine lv_istore_n (lv' := [(3, .int x3_118), (0, .ref (zg Z 116)), (1, .int x0), (2, .int x1)]) hx hb dX8_on_118 rfl hl (by decide) rfl (fun ls hl => ?_)
              refine lv_aload_n hx hb dX8_on_119 rfl (lv_at hl 1 rfl) ?_
              refine lv_aload_n hx hb dX8_on_120 rfl (lv_at hl 1 rfl) ?_
              refine g_getr X h (k := 39) (t := 138) (cc_116) fr_RX8_76 rfl (by decide) (by decide) (by decide) dX8_on_121 ?_
              refine g_kv h (g_runV X h (As := [.ref (zg Z 138)]) (rest := []) (c_X8_again gl Z v53 w 138 (Or.inl rfl)) mi_X8_again ml_RX8_280 (cc_116) (by decide) kl8 rfl ⟨Nat.le_of_ble_eq_true rfl, Nat.le_of_ble_eq_true rfl⟩ rfl hl.1 rfl (Nat.le_of_ble_eq_true rfl) dX8_on_124) (fun v124 w124 H locs hp124 h => ?_)
              obtain ⟨ev124, rfl⟩ := Prod.mk.inj hp124
              replace ev124 := ev124.symm
              refine lv_iload_n hx hb dX8_on_127 rfl (lv_at hl 0 rfl) ?_
              exact g_iret X h dX8_on_128 ⟨(by have ok : (inR x1 0 2 || isP (nI n) (x1 - 10) || isP (nI n) (x1 - 20)) = true := (by simp [c_6]); simp only [sOn, ok, c_37, if_true, hkc]; rw [onS, ← hs48.xM, ← hx53]; rw [if_neg c_57, if_neg c_69, if_neg c_81, if_pos hi10, ex3_118, hkxc, xM_th (by omega)]), rfl, by show scM v v124; rw [ev124]; exact again_all ev48 hf53⟩
          · skip
            refine lv_aload_n hx hb dX8_on_84 rfl (lv_at hl 0 rfl) ?_
            refine g_ki h (g_runV X h (As := []) (rest := []) (c_X8_letting gl Z v53 w n (B + k) L hn53) mi_X8_letting ml_RX8_246 (cc_116) (by decide) kl8 rfl ⟨Nat.le_of_ble_eq_true rfl, Nat.le_of_ble_eq_true rfl⟩ rfl hl.1 rfl (Nat.le_of_ble_eq_true rfl) dX8_on_85) (fun r85 v85 w85 H locs hp85 h => ?_)
            obtain ⟨hr85, f85, hf85⟩ := hp85
            obtain ⟨ev85, rfl⟩ := Prod.mk.inj hf85
            replace ev85 := ev85.symm
            refine lv_goto (tgt := 118) hx hb dX8_on_88 (by decide) ?_
            refine lv_istore_n (lv' := [(3, .int r85), (0, .ref (zg Z 116)), (1, .int x0), (2, .int x1)]) hx hb dX8_on_118 rfl hl (by decide) rfl (fun ls hl => ?_)
            refine lv_aload_n hx hb dX8_on_119 rfl (lv_at hl 1 rfl) ?_
            refine lv_aload_n hx hb dX8_on_120 rfl (lv_at hl 1 rfl) ?_
            refine g_getr X h (k := 39) (t := 138) (cc_116) fr_RX8_76 rfl (by decide) (by decide) (by decide) dX8_on_121 ?_
            refine g_kv h (g_runV X h (As := [.ref (zg Z 138)]) (rest := []) (c_X8_again gl Z v85 w 138 (Or.inl rfl)) mi_X8_again ml_RX8_280 (cc_116) (by decide) kl8 rfl ⟨Nat.le_of_ble_eq_true rfl, Nat.le_of_ble_eq_true rfl⟩ rfl hl.1 rfl (Nat.le_of_ble_eq_true rfl) dX8_on_124) (fun v124 w124 H locs hp124 h => ?_)
            obtain ⟨ev124, rfl⟩ := Prod.mk.inj hp124
            replace ev124 := ev124.symm
            refine lv_iload_n hx hb dX8_on_127 rfl (lv_at hl 0 rfl) ?_
            exact g_iret X h dX8_on_128 ⟨(by have ok : (inR x1 0 2 || isP (nI n) (x1 - 10) || isP (nI n) (x1 - 20)) = true := (by simp [c_6]); simp only [sOn, ok, c_37, if_true, hkc]; rw [onS, ← hs48.xM, ← hx53]; rw [if_neg c_57, if_neg c_69, if_pos c_81]; exact hr85), rfl, by show scM v v124; rw [ev124]; exact again_all ev48 (frM_trans hf53 (frM_stk ev85))⟩
        · skip
          refine lv_aload_n hx hb dX8_on_72 rfl (lv_at hl 0 rfl) ?_
          refine g_geti X h (k := 8) (cc_116) fr_RX8_136 rfl (by decide) dX8_on_73 ?_
          refine lv_goto (tgt := 118) hx hb dX8_on_76 (by decide) ?_
          refine lv_topi (fun x3_118 ex3_118 => ?_)
          refine lv_istore_n (lv' := [(3, .int x3_118), (0, .ref (zg Z 116)), (1, .int x0), (2, .int x1)]) hx hb dX8_on_118 rfl hl (by decide) rfl (fun ls hl => ?_)
          refine lv_aload_n hx hb dX8_on_119 rfl (lv_at hl 1 rfl) ?_
          refine lv_aload_n hx hb dX8_on_120 rfl (lv_at hl 1 rfl) ?_
          refine g_getr X h (k := 39) (t := 138) (cc_116) fr_RX8_76 rfl (by decide) (by decide) (by decide) dX8_on_121 ?_
          refine g_kv h (g_runV X h (As := [.ref (zg Z 138)]) (rest := []) (c_X8_again gl Z v53 w 138 (Or.inl rfl)) mi_X8_again ml_RX8_280 (cc_116) (by decide) kl8 rfl ⟨Nat.le_of_ble_eq_true rfl, Nat.le_of_ble_eq_true rfl⟩ rfl hl.1 rfl (Nat.le_of_ble_eq_true rfl) dX8_on_124) (fun v124 w124 H locs hp124 h => ?_)
          obtain ⟨ev124, rfl⟩ := Prod.mk.inj hp124
          replace ev124 := ev124.symm
          refine lv_iload_n hx hb dX8_on_127 rfl (lv_at hl 0 rfl) ?_
          exact g_iret X h dX8_on_128 ⟨(by have ok : (inR x1 0 2 || isP (nI n) (x1 - 10) || isP (nI n) (x1 - 20)) = true := (by simp [c_6]); simp only [sOn, ok, c_37, if_true, hkc]; rw [onS, ← hs48.xM, ← hx53]; rw [if_neg c_57, if_pos c_69, ex3_118]; rfl), rfl, by show scM v v124; rw [ev124]; exact again_all ev48 hf53⟩
      · skip
        refine lv_aload_n hx hb dX8_on_60 rfl (lv_at hl 0 rfl) ?_
        refine g_geti X h (k := 7) (cc_116) fr_RX8_98 rfl (by decide) dX8_on_61 ?_
        refine lv_goto (tgt := 118) hx hb dX8_on_64 (by decide) ?_
        refine lv_topi (fun x3_118 ex3_118 => ?_)
        refine lv_istore_n (lv' := [(3, .int x3_118), (0, .ref (zg Z 116)), (1, .int x0), (2, .int x1)]) hx hb dX8_on_118 rfl hl (by decide) rfl (fun ls hl => ?_)
        refine lv_aload_n hx hb dX8_on_119 rfl (lv_at hl 1 rfl) ?_
        refine lv_aload_n hx hb dX8_on_120 rfl (lv_at hl 1 rfl) ?_
        refine g_getr X h (k := 39) (t := 138) (cc_116) fr_RX8_76 rfl (by decide) (by decide) (by decide) dX8_on_121 ?_
        refine g_kv h (g_runV X h (As := [.ref (zg Z 138)]) (rest := []) (c_X8_again gl Z v53 w 138 (Or.inl rfl)) mi_X8_again ml_RX8_280 (cc_116) (by decide) kl8 rfl ⟨Nat.le_of_ble_eq_true rfl, Nat.le_of_ble_eq_true rfl⟩ rfl hl.1 rfl (Nat.le_of_ble_eq_true rfl) dX8_on_124) (fun v124 w124 H locs hp124 h => ?_)
        obtain ⟨ev124, rfl⟩ := Prod.mk.inj hp124
        replace ev124 := ev124.symm
        refine lv_iload_n hx hb dX8_on_127 rfl (lv_at hl 0 rfl) ?_
        exact g_iret X h dX8_on_128 ⟨(by have ok : (inR x1 0 2 || isP (nI n) (x1 - 10) || isP (nI n) (x1 - 20)) = true := (by simp [c_6]); simp only [sOn, ok, c_37, if_true, hkc]; rw [onS, ← hs48.xM, ← hx53]; rw [if_pos c_57, ex3_118]; rfl), rfl, by show scM v v124; rw [ev124]; exact again_all ev48 hf53⟩
    · skip
      rw [hr34, bI_0] at c_37
      refine lv_bipush (v := (-2)) hx hb dX8_on_40 (by decide) ?_
      exact g_iret X h dX8_on_42 ⟨by simp [sOn, c_6, c_37], rfl, scM_refl v⟩
  · skip
    rw [hr3, bI_0] at c_6
    refine lv_aload_n hx hb dX8_on_9 rfl (lv_at hl 0 rfl) ?_
    refine lv_iload_n hx hb dX8_on_10 rfl (lv_at hl 2 rfl) ?_
    refine lv_bipush (v := 10) hx hb dX8_on_11 (by decide) ?_
    refine lv_isub hx hb dX8_on_13 ?_
    refine g_ki h (g_runV X h (As := [.int (x1 - 10)]) (rest := []) (c_X8_isOne gl Z v w (x1 - 10) n hn h6) mi_X8_isOne ml_RX8_118 (cc_116) (by decide) kl8 rfl ⟨Nat.le_of_ble_eq_true rfl, Nat.le_of_ble_eq_true rfl⟩ rfl hl.1 rfl (Nat.le_of_ble_eq_true rfl) dX8_on_14) (fun r14 v14 w14 H locs hp14 h => ?_)
    obtain ⟨hr14, hu14⟩ := hp14; obtain ⟨rfl, rfl⟩ := Prod.mk.inj hu14
    refine lv_if_ne (tgt := 33) hx hb dX8_on_17 (by decide) (fun c_17 => ?_) (fun c_17 => ?_)
    · skip
      rw [hr14, bI_n] at c_17
      refine lv_iload_n hx hb dX8_on_33 rfl (lv_at hl 1 rfl) ?_
      refine g_ki h (g_runS X h (As := [.int x0]) (rest := []) (c_X8_isDays gl Z v w x0) ms_X8_isDays ml_RX8_269 ⟨Nat.le_of_ble_eq_true rfl, Nat.le_of_ble_eq_true rfl⟩ rfl hl.1 rfl (Nat.le_of_ble_eq_true rfl) dX8_on_34) (fun r34 v34 w34 H locs hp34 h => ?_)
      obtain ⟨hr34, hu34⟩ := hp34; obtain ⟨rfl, rfl⟩ := Prod.mk.inj hu34
      refine lv_if_ne (tgt := 43) hx hb dX8_on_37 (by decide) (fun c_37 => ?_) (fun c_37 => ?_)
      · skip
        rw [hr34, bI_n] at c_37
        obtain ⟨k, hk, hk0, hk60, hkc⟩ := inR_nat (a := 0) (b := 60) rfl rfl (by decide) c_37
        refine lv_aload_n hx hb dX8_on_43 rfl (lv_at hl 0 rfl) ?_
        refine lv_aload_n hx hb dX8_on_44 rfl (lv_at hl 0 rfl) ?_
        refine g_getr X h (k := 39) (t := 138) (cc_116) fr_RX8_76 rfl (by decide) (by decide) (by decide) dX8_on_45 ?_
        refine g_kv h (g_runV X h (As := [.ref (zg Z 138)]) (rest := []) (c_X8_keep gl Z v w 138 (Or.inl rfl)) mi_X8_keep ml_RX8_276 (cc_116) (by decide) kl8 rfl ⟨Nat.le_of_ble_eq_true rfl, Nat.le_of_ble_eq_true rfl⟩ rfl hl.1 rfl (Nat.le_of_ble_eq_true rfl) dX8_on_48) (fun v48 w48 H locs hp48 h => ?_)
        obtain ⟨ev48, rfl⟩ := Prod.mk.inj hp48
        replace ev48 := ev48.symm
        have hs48 := scM_kp ev48
        refine lv_aload_n hx hb dX8_on_51 rfl (lv_at hl 0 rfl) ?_
        refine lv_iload_n hx hb dX8_on_52 rfl (lv_at hl 1 rfl) ?_
        refine g_kv h (g_runV X h (As := [.int x0]) (rest := []) (c_X8_days gl Z v48 w x0 k hk n B L (hs48.DM hd) (by omega)) mi_X8_days ml_RX8_272 (cc_116) (by decide) kl8 rfl ⟨Nat.le_of_ble_eq_true rfl, Nat.le_of_ble_eq_true rfl⟩ rfl hl.1 rfl (Nat.le_of_ble_eq_true rfl) dX8_on_53) (fun v53 w53 H locs hp53 h => ?_)
        obtain ⟨hx53, hw53, hf53⟩ := hp53
        obtain ⟨-, rfl⟩ := Prod.mk.inj hw53
        replace hx53 : xM v53 n L = _ := hx53
        replace hf53 : frM _ v53 := hf53
        have hn53 : DM v53 n (B + k) L := DM.fr (hs48.DM hd) hf53 (by rw [hx53]; exact RX_daysS h6 (by rw [hs48.xM]; exact hrx) k (by omega)) (by omega)
        refine lv_iload_n hx hb dX8_on_56 rfl (lv_at hl 2 rfl) ?_
        refine lv_if_ne (tgt := 67) hx hb dX8_on_57 (by decide) (fun c_57 => ?_) (fun c_57 => ?_)
        · skip
          refine lv_iload_n hx hb dX8_on_67 rfl (lv_at hl 2 rfl) ?_
          refine lv_iconst (v := 1) hx hb dX8_on_68 (by decide) ?_
          refine lv_icmp_ne (tgt := 79) hx hb dX8_on_69 (by decide) (fun c_69 => ?_) (fun c_69 => ?_)
          · skip
            refine lv_iload_n hx hb dX8_on_79 rfl (lv_at hl 2 rfl) ?_
            refine lv_iconst (v := 2) hx hb dX8_on_80 (by decide) ?_
            refine lv_icmp_ne (tgt := 91) hx hb dX8_on_81 (by decide) (fun c_81 => ?_) (fun c_81 => ?_)
            · skip
              refine lv_iload_n hx hb dX8_on_91 rfl (lv_at hl 2 rfl) ?_
              refine lv_bipush (v := 20) hx hb dX8_on_92 (by decide) ?_
              refine lv_icmp_ge (tgt := 109) hx hb dX8_on_94 (by decide) (fun c_94 => ?_) (fun c_94 => ?_)
              · skip
                obtain ⟨hi10, hi20⟩ := on_20 h6 (by simp [c_6, c_17]) c_57 c_69 c_81 c_94
                obtain ⟨kx, hkx, hkxn, hkxc⟩ := isP_nat (by omega) hi20
                refine lv_aload_n hx hb dX8_on_109 rfl (lv_at hl 0 rfl) ?_
                refine g_getr X h (k := 4) (t := 120) (cc_116) fr_RX8_21 rfl (by decide) (by decide) (by decide) dX8_on_110 ?_
                refine lv_iload_n hx hb dX8_on_113 rfl (lv_at hl 2 rfl) ?_
                refine lv_bipush (v := 20) hx hb dX8_on_114 (by decide) ?_
                refine lv_isub hx hb dX8_on_116 ?_
                refine g_iald X h (k := kx) (cc_120) hkx (by omega) (by decide) dX8_on_117 ?_
                refine lv_topi (fun x3_118 ex3_118 => ?_)
                refine lv_istore_n (lv' := [(3, .int x3_118), (0, .ref (zg Z 116)), (1, .int x0), (2, .int x1)]) hx hb dX8_on_118 rfl hl (by decide) rfl (fun ls hl => ?_)
                refine lv_aload_n hx hb dX8_on_119 rfl (lv_at hl 1 rfl) ?_
                refine lv_aload_n hx hb dX8_on_120 rfl (lv_at hl 1 rfl) ?_
                refine g_getr X h (k := 39) (t := 138) (cc_116) fr_RX8_76 rfl (by decide) (by decide) (by decide) dX8_on_121 ?_
                refine g_kv h (g_runV X h (As := [.ref (zg Z 138)]) (rest := []) (c_X8_again gl Z v53 w 138 (Or.inl rfl)) mi_X8_again ml_RX8_280 (cc_116) (by decide) kl8 rfl ⟨Nat.le_of_ble_eq_true rfl, Nat.le_of_ble_eq_true rfl⟩ rfl hl.1 rfl (Nat.le_of_ble_eq_true rfl) dX8_on_124) (fun v124 w124 H locs hp124 h => ?_)
                obtain ⟨ev124, rfl⟩ := Prod.mk.inj hp124
                replace ev124 := ev124.symm
                refine lv_iload_n hx hb dX8_on_127 rfl (lv_at hl 0 rfl) ?_
                exact g_iret X h dX8_on_128 ⟨(by have ok : (inR x1 0 2 || isP (nI n) (x1 - 10) || isP (nI n) (x1 - 20)) = true := (by simp [c_6, c_17]); simp only [sOn, ok, c_37, if_true, hkc]; rw [onS, ← hs48.xM, ← hx53]; rw [if_neg c_57, if_neg c_69, if_neg c_81, if_neg (by rw [hi10]; simp), ex3_118, hkxc, xM_got (by omega)]), rfl, by show scM v v124; rw [ev124]; exact again_all ev48 hf53⟩
              · skip
                have hi10 : isP (nI n) (x1 - 10) = true := on_10 h6 (by simp [c_6, c_17]) c_57 c_69 c_81 (Int32.not_le.mp c_94)
                obtain ⟨kx, hkx, hkxn, hkxc⟩ := isP_nat (by omega) hi10
                refine lv_aload_n hx hb dX8_on_97 rfl (lv_at hl 0 rfl) ?_
                refine g_getr X h (k := 3) (t := 119) (cc_116) fr_RX8_18 rfl (by decide) (by decide) (by decide) dX8_on_98 ?_
                refine lv_iload_n hx hb dX8_on_101 rfl (lv_at hl 2 rfl) ?_
                refine lv_bipush (v := 10) hx hb dX8_on_102 (by decide) ?_
                refine lv_isub hx hb dX8_on_104 ?_
                refine g_iald X h (k := kx) (cc_119) hkx (by omega) (by decide) dX8_on_105 ?_
                refine lv_goto (tgt := 118) hx hb dX8_on_106 (by decide) ?_
                refine lv_topi (fun x3_118 ex3_118 => ?_)
                refine lv_istore_n (lv' := [(3, .int x3_118), (0, .ref (zg Z 116)), (1, .int x0), (2, .int x1)]) hx hb dX8_on_118 rfl hl (by decide) rfl (fun ls hl => ?_)
                refine lv_aload_n hx hb dX8_on_119 rfl (lv_at hl 1 rfl) ?_
                refine lv_aload_n hx hb dX8_on_120 rfl (lv_at hl 1 rfl) ?_
                refine g_getr X h (k := 39) (t := 138) (cc_116) fr_RX8_76 rfl (by decide) (by decide) (by decide) dX8_on_121 ?_
                refine g_kv h (g_runV X h (As := [.ref (zg Z 138)]) (rest := []) (c_X8_again gl Z v53 w 138 (Or.inl rfl)) mi_X8_again ml_RX8_280 (cc_116) (by decide) kl8 rfl ⟨Nat.le_of_ble_eq_true rfl, Nat.le_of_ble_eq_true rfl⟩ rfl hl.1 rfl (Nat.le_of_ble_eq_true rfl) dX8_on_124) (fun v124 w124 H locs hp124 h => ?_)
                obtain ⟨ev124, rfl⟩ := Prod.mk.inj hp124
                replace ev124 := ev124.symm
                refine lv_iload_n hx hb dX8_on_127 rfl (lv_at hl 0 rfl) ?_
                exact g_iret X h dX8_on_128 ⟨(by have ok : (inR x1 0 2 || isP (nI n) (x1 - 10) || isP (nI n) (x1 - 20)) = true := (by simp [c_6, c_17]); simp only [sOn, ok, c_37, if_true, hkc]; rw [onS, ← hs48.xM, ← hx53]; rw [if_neg c_57, if_neg c_69, if_neg c_81, if_pos hi10, ex3_118, hkxc, xM_th (by omega)]), rfl, by show scM v v124; rw [ev124]; exact again_all ev48 hf53⟩
            · skip
              refine lv_aload_n hx hb dX8_on_84 rfl (lv_at hl 0 rfl) ?_
              refine g_ki h (g_runV X h (As := []) (rest := []) (c_X8_letting gl Z v53 w n (B + k) L hn53) mi_X8_letting ml_RX8_246 (cc_116) (by decide) kl8 rfl ⟨Nat.le_of_ble_eq_true rfl, Nat.le_of_ble_eq_true rfl⟩ rfl hl.1 rfl (Nat.le_of_ble_eq_true rfl) dX8_on_85) (fun r85 v85 w85 H locs hp85 h => ?_)
              obtain ⟨hr85, f85, hf85⟩ := hp85
              obtain ⟨ev85, rfl⟩ := Prod.mk.inj hf85
              replace ev85 := ev85.symm
              refine lv_goto (tgt := 118) hx hb dX8_on_88 (by decide) ?_
              refine lv_istore_n (lv' := [(3, .int r85), (0, .ref (zg Z 116)), (1, .int x0), (2, .int x1)]) hx hb dX8_on_118 rfl hl (by decide) rfl (fun ls hl => ?_)
              refine lv_aload_n hx hb dX8_on_119 rfl (lv_at hl 1 rfl) ?_
              refine lv_aload_n hx hb dX8_on_120 rfl (lv_at hl 1 rfl) ?_
              refine g_getr X h (k := 39) (t := 138) (cc_116) fr_RX8_76 rfl (by decide) (by decide) (by decide) dX8_on_121 ?_
              refine g_kv h (g_runV X h (As := [.ref (zg Z 138)]) (rest := []) (c_X8_again gl Z v85 w 138 (Or.inl rfl)) mi_X8_again ml_RX8_280 (cc_116) (by decide) kl8 rfl ⟨Nat.le_of_ble_eq_true rfl, Nat.le_of_ble_eq_true rfl⟩ rfl hl.1 rfl (Nat.le_of_ble_eq_true rfl) dX8_on_124) (fun v124 w124 H locs hp124 h => ?_)
              obtain ⟨ev124, rfl⟩ := Prod.mk.inj hp124
              replace ev124 := ev124.symm
              refine lv_iload_n hx hb dX8_on_127 rfl (lv_at hl 0 rfl) ?_
              exact g_iret X h dX8_on_128 ⟨(by have ok : (inR x1 0 2 || isP (nI n) (x1 - 10) || isP (nI n) (x1 - 20)) = true := (by simp [c_6, c_17]); simp only [sOn, ok, c_37, if_true, hkc]; rw [onS, ← hs48.xM, ← hx53]; rw [if_neg c_57, if_neg c_69, if_pos c_81]; exact hr85), rfl, by show scM v v124; rw [ev124]; exact again_all ev48 (frM_trans hf53 (frM_stk ev85))⟩
          · skip
            refine lv_aload_n hx hb dX8_on_72 rfl (lv_at hl 0 rfl) ?_
            refine g_geti X h (k := 8) (cc_116) fr_RX8_136 rfl (by decide) dX8_on_73 ?_
            refine lv_goto (tgt := 118) hx hb dX8_on_76 (by decide) ?_
            refine lv_topi (fun x3_118 ex3_118 => ?_)
            refine lv_istore_n (lv' := [(3, .int x3_118), (0, .ref (zg Z 116)), (1, .int x0), (2, .int x1)]) hx hb dX8_on_118 rfl hl (by decide) rfl (fun ls hl => ?_)
            refine lv_aload_n hx hb dX8_on_119 rfl (lv_at hl 1 rfl) ?_
            refine lv_aload_n hx hb dX8_on_120 rfl (lv_at hl 1 rfl) ?_
            refine g_getr X h (k := 39) (t := 138) (cc_116) fr_RX8_76 rfl (by decide) (by decide) (by decide) dX8_on_121 ?_
            refine g_kv h (g_runV X h (As := [.ref (zg Z 138)]) (rest := []) (c_X8_again gl Z v53 w 138 (Or.inl rfl)) mi_X8_again ml_RX8_280 (cc_116) (by decide) kl8 rfl ⟨Nat.le_of_ble_eq_true rfl, Nat.le_of_ble_eq_true rfl⟩ rfl hl.1 rfl (Nat.le_of_ble_eq_true rfl) dX8_on_124) (fun v124 w124 H locs hp124 h => ?_)
            obtain ⟨ev124, rfl⟩ := Prod.mk.inj hp124
            replace ev124 := ev124.symm
            refine lv_iload_n hx hb dX8_on_127 rfl (lv_at hl 0 rfl) ?_
            exact g_iret X h dX8_on_128 ⟨(by have ok : (inR x1 0 2 || isP (nI n) (x1 - 10) || isP (nI n) (x1 - 20)) = true := (by simp [c_6, c_17]); simp only [sOn, ok, c_37, if_true, hkc]; rw [onS, ← hs48.xM, ← hx53]; rw [if_neg c_57, if_pos c_69, ex3_118]; rfl), rfl, by show scM v v124; rw [ev124]; exact again_all ev48 hf53⟩
        · skip
          refine lv_aload_n hx hb dX8_on_60 rfl (lv_at hl 0 rfl) ?_
          refine g_geti X h (k := 7) (cc_116) fr_RX8_98 rfl (by decide) dX8_on_61 ?_
          refine lv_goto (tgt := 118) hx hb dX8_on_64 (by decide) ?_
          refine lv_topi (fun x3_118 ex3_118 => ?_)
          refine lv_istore_n (lv' := [(3, .int x3_118), (0, .ref (zg Z 116)), (1, .int x0), (2, .int x1)]) hx hb dX8_on_118 rfl hl (by decide) rfl (fun ls hl => ?_)
          refine lv_aload_n hx hb dX8_on_119 rfl (lv_at hl 1 rfl) ?_
          refine lv_aload_n hx hb dX8_on_120 rfl (lv_at hl 1 rfl) ?_
          refine g_getr X h (k := 39) (t := 138) (cc_116) fr_RX8_76 rfl (by decide) (by decide) (by decide) dX8_on_121 ?_
          refine g_kv h (g_runV X h (As := [.ref (zg Z 138)]) (rest := []) (c_X8_again gl Z v53 w 138 (Or.inl rfl)) mi_X8_again ml_RX8_280 (cc_116) (by decide) kl8 rfl ⟨Nat.le_of_ble_eq_true rfl, Nat.le_of_ble_eq_true rfl⟩ rfl hl.1 rfl (Nat.le_of_ble_eq_true rfl) dX8_on_124) (fun v124 w124 H locs hp124 h => ?_)
          obtain ⟨ev124, rfl⟩ := Prod.mk.inj hp124
          replace ev124 := ev124.symm
          refine lv_iload_n hx hb dX8_on_127 rfl (lv_at hl 0 rfl) ?_
          exact g_iret X h dX8_on_128 ⟨(by have ok : (inR x1 0 2 || isP (nI n) (x1 - 10) || isP (nI n) (x1 - 20)) = true := (by simp [c_6, c_17]); simp only [sOn, ok, c_37, if_true, hkc]; rw [onS, ← hs48.xM, ← hx53]; rw [if_pos c_57, ex3_118]; rfl), rfl, by show scM v v124; rw [ev124]; exact again_all ev48 hf53⟩
      · skip
        rw [hr34, bI_0] at c_37
        refine lv_bipush (v := (-2)) hx hb dX8_on_40 (by decide) ?_
        exact g_iret X h dX8_on_42 ⟨by simp [sOn, c_6, c_17, c_37], rfl, scM_refl v⟩
    · skip
      rw [hr14, bI_0] at c_17
      refine lv_aload_n hx hb dX8_on_20 rfl (lv_at hl 0 rfl) ?_
      refine lv_iload_n hx hb dX8_on_21 rfl (lv_at hl 2 rfl) ?_
      refine lv_bipush (v := 20) hx hb dX8_on_22 (by decide) ?_
      refine lv_isub hx hb dX8_on_24 ?_
      refine g_ki h (g_runV X h (As := [.int (x1 - 20)]) (rest := []) (c_X8_isOne gl Z v w (x1 - 20) n hn h6) mi_X8_isOne ml_RX8_118 (cc_116) (by decide) kl8 rfl ⟨Nat.le_of_ble_eq_true rfl, Nat.le_of_ble_eq_true rfl⟩ rfl hl.1 rfl (Nat.le_of_ble_eq_true rfl) dX8_on_25) (fun r25 v25 w25 H locs hp25 h => ?_)
      obtain ⟨hr25, hu25⟩ := hp25; obtain ⟨rfl, rfl⟩ := Prod.mk.inj hu25
      refine lv_if_ne (tgt := 33) hx hb dX8_on_28 (by decide) (fun c_28 => ?_) (fun c_28 => ?_)
      · skip
        rw [hr25, bI_n] at c_28
        refine lv_iload_n hx hb dX8_on_33 rfl (lv_at hl 1 rfl) ?_
        refine g_ki h (g_runS X h (As := [.int x0]) (rest := []) (c_X8_isDays gl Z v w x0) ms_X8_isDays ml_RX8_269 ⟨Nat.le_of_ble_eq_true rfl, Nat.le_of_ble_eq_true rfl⟩ rfl hl.1 rfl (Nat.le_of_ble_eq_true rfl) dX8_on_34) (fun r34 v34 w34 H locs hp34 h => ?_)
        obtain ⟨hr34, hu34⟩ := hp34; obtain ⟨rfl, rfl⟩ := Prod.mk.inj hu34
        refine lv_if_ne (tgt := 43) hx hb dX8_on_37 (by decide) (fun c_37 => ?_) (fun c_37 => ?_)
        · skip
          rw [hr34, bI_n] at c_37
          obtain ⟨k, hk, hk0, hk60, hkc⟩ := inR_nat (a := 0) (b := 60) rfl rfl (by decide) c_37
          refine lv_aload_n hx hb dX8_on_43 rfl (lv_at hl 0 rfl) ?_
          refine lv_aload_n hx hb dX8_on_44 rfl (lv_at hl 0 rfl) ?_
          refine g_getr X h (k := 39) (t := 138) (cc_116) fr_RX8_76 rfl (by decide) (by decide) (by decide) dX8_on_45 ?_
          refine g_kv h (g_runV X h (As := [.ref (zg Z 138)]) (rest := []) (c_X8_keep gl Z v w 138 (Or.inl rfl)) mi_X8_keep ml_RX8_276 (cc_116) (by decide) kl8 rfl ⟨Nat.le_of_ble_eq_true rfl, Nat.le_of_ble_eq_true rfl⟩ rfl hl.1 rfl (Nat.le_of_ble_eq_true rfl) dX8_on_48) (fun v48 w48 H locs hp48 h => ?_)
          obtain ⟨ev48, rfl⟩ := Prod.mk.inj hp48
          replace ev48 := ev48.symm
          have hs48 := scM_kp ev48
          refine lv_aload_n hx hb dX8_on_51 rfl (lv_at hl 0 rfl) ?_
          refine lv_iload_n hx hb dX8_on_52 rfl (lv_at hl 1 rfl) ?_
          refine g_kv h (g_runV X h (As := [.int x0]) (rest := []) (c_X8_days gl Z v48 w x0 k hk n B L (hs48.DM hd) (by omega)) mi_X8_days ml_RX8_272 (cc_116) (by decide) kl8 rfl ⟨Nat.le_of_ble_eq_true rfl, Nat.le_of_ble_eq_true rfl⟩ rfl hl.1 rfl (Nat.le_of_ble_eq_true rfl) dX8_on_53) (fun v53 w53 H locs hp53 h => ?_)
          obtain ⟨hx53, hw53, hf53⟩ := hp53
          obtain ⟨-, rfl⟩ := Prod.mk.inj hw53
          replace hx53 : xM v53 n L = _ := hx53
          replace hf53 : frM _ v53 := hf53
          have hn53 : DM v53 n (B + k) L := DM.fr (hs48.DM hd) hf53 (by rw [hx53]; exact RX_daysS h6 (by rw [hs48.xM]; exact hrx) k (by omega)) (by omega)
          refine lv_iload_n hx hb dX8_on_56 rfl (lv_at hl 2 rfl) ?_
          refine lv_if_ne (tgt := 67) hx hb dX8_on_57 (by decide) (fun c_57 => ?_) (fun c_57 => ?_)
          · skip
            refine lv_iload_n hx hb dX8_on_67 rfl (lv_at hl 2 rfl) ?_
            refine lv_iconst (v := 1) hx hb dX8_on_68 (by decide) ?_
            refine lv_icmp_ne (tgt := 79) hx hb dX8_on_69 (by decide) (fun c_69 => ?_) (fun c_69 => ?_)
            · skip
              refine lv_iload_n hx hb dX8_on_79 rfl (lv_at hl 2 rfl) ?_
              refine lv_iconst (v := 2) hx hb dX8_on_80 (by decide) ?_
              refine lv_icmp_ne (tgt := 91) hx hb dX8_on_81 (by decide) (fun c_81 => ?_) (fun c_81 => ?_)
              · skip
                refine lv_iload_n hx hb dX8_on_91 rfl (lv_at hl 2 rfl) ?_
                refine lv_bipush (v := 20) hx hb dX8_on_92 (by decide) ?_
                refine lv_icmp_ge (tgt := 109) hx hb dX8_on_94 (by decide) (fun c_94 => ?_) (fun c_94 => ?_)
                · skip
                  obtain ⟨hi10, hi20⟩ := on_20 h6 (by simp [c_6, c_17, c_28]) c_57 c_69 c_81 c_94
                  obtain ⟨kx, hkx, hkxn, hkxc⟩ := isP_nat (by omega) hi20
                  refine lv_aload_n hx hb dX8_on_109 rfl (lv_at hl 0 rfl) ?_
                  refine g_getr X h (k := 4) (t := 120) (cc_116) fr_RX8_21 rfl (by decide) (by decide) (by decide) dX8_on_110 ?_
                  refine lv_iload_n hx hb dX8_on_113 rfl (lv_at hl 2 rfl) ?_
                  refine lv_bipush (v := 20) hx hb dX8_on_114 (by decide) ?_
                  refine lv_isub hx hb dX8_on_116 ?_
                  refine g_iald X h (k := kx) (cc_120) hkx (by omega) (by decide) dX8_on_117 ?_
                  refine lv_topi (fun x3_118 ex3_118 => ?_)
                  refine lv_istore_n (lv' := [(3, .int x3_118), (0, .ref (zg Z 116)), (1, .int x0), (2, .int x1)]) hx hb dX8_on_118 rfl hl (by decide) rfl (fun ls hl => ?_)
                  refine lv_aload_n hx hb dX8_on_119 rfl (lv_at hl 1 rfl) ?_
                  refine lv_aload_n hx hb dX8_on_120 rfl (lv_at hl 1 rfl) ?_
                  refine g_getr X h (k := 39) (t := 138) (cc_116) fr_RX8_76 rfl (by decide) (by decide) (by decide) dX8_on_121 ?_
                  refine g_kv h (g_runV X h (As := [.ref (zg Z 138)]) (rest := []) (c_X8_again gl Z v53 w 138 (Or.inl rfl)) mi_X8_again ml_RX8_280 (cc_116) (by decide) kl8 rfl ⟨Nat.le_of_ble_eq_true rfl, Nat.le_of_ble_eq_true rfl⟩ rfl hl.1 rfl (Nat.le_of_ble_eq_true rfl) dX8_on_124) (fun v124 w124 H locs hp124 h => ?_)
                  obtain ⟨ev124, rfl⟩ := Prod.mk.inj hp124
                  replace ev124 := ev124.symm
                  refine lv_iload_n hx hb dX8_on_127 rfl (lv_at hl 0 rfl) ?_
                  exact g_iret X h dX8_on_128 ⟨(by have ok : (inR x1 0 2 || isP (nI n) (x1 - 10) || isP (nI n) (x1 - 20)) = true := (by simp [c_6, c_17, c_28]); simp only [sOn, ok, c_37, if_true, hkc]; rw [onS, ← hs48.xM, ← hx53]; rw [if_neg c_57, if_neg c_69, if_neg c_81, if_neg (by rw [hi10]; simp), ex3_118, hkxc, xM_got (by omega)]), rfl, by show scM v v124; rw [ev124]; exact again_all ev48 hf53⟩
                · skip
                  have hi10 : isP (nI n) (x1 - 10) = true := on_10 h6 (by simp [c_6, c_17, c_28]) c_57 c_69 c_81 (Int32.not_le.mp c_94)
                  obtain ⟨kx, hkx, hkxn, hkxc⟩ := isP_nat (by omega) hi10
                  refine lv_aload_n hx hb dX8_on_97 rfl (lv_at hl 0 rfl) ?_
                  refine g_getr X h (k := 3) (t := 119) (cc_116) fr_RX8_18 rfl (by decide) (by decide) (by decide) dX8_on_98 ?_
                  refine lv_iload_n hx hb dX8_on_101 rfl (lv_at hl 2 rfl) ?_
                  refine lv_bipush (v := 10) hx hb dX8_on_102 (by decide) ?_
                  refine lv_isub hx hb dX8_on_104 ?_
                  refine g_iald X h (k := kx) (cc_119) hkx (by omega) (by decide) dX8_on_105 ?_
                  refine lv_goto (tgt := 118) hx hb dX8_on_106 (by decide) ?_
                  refine lv_topi (fun x3_118 ex3_118 => ?_)
                  refine lv_istore_n (lv' := [(3, .int x3_118), (0, .ref (zg Z 116)), (1, .int x0), (2, .int x1)]) hx hb dX8_on_118 rfl hl (by decide) rfl (fun ls hl => ?_)
                  refine lv_aload_n hx hb dX8_on_119 rfl (lv_at hl 1 rfl) ?_
                  refine lv_aload_n hx hb dX8_on_120 rfl (lv_at hl 1 rfl) ?_
                  refine g_getr X h (k := 39) (t := 138) (cc_116) fr_RX8_76 rfl (by decide) (by decide) (by decide) dX8_on_121 ?_
                  refine g_kv h (g_runV X h (As := [.ref (zg Z 138)]) (rest := []) (c_X8_again gl Z v53 w 138 (Or.inl rfl)) mi_X8_again ml_RX8_280 (cc_116) (by decide) kl8 rfl ⟨Nat.le_of_ble_eq_true rfl, Nat.le_of_ble_eq_true rfl⟩ rfl hl.1 rfl (Nat.le_of_ble_eq_true rfl) dX8_on_124) (fun v124 w124 H locs hp124 h => ?_)
                  obtain ⟨ev124, rfl⟩ := Prod.mk.inj hp124
                  replace ev124 := ev124.symm
                  refine lv_iload_n hx hb dX8_on_127 rfl (lv_at hl 0 rfl) ?_
                  exact g_iret X h dX8_on_128 ⟨(by have ok : (inR x1 0 2 || isP (nI n) (x1 - 10) || isP (nI n) (x1 - 20)) = true := (by simp [c_6, c_17, c_28]); simp only [sOn, ok, c_37, if_true, hkc]; rw [onS, ← hs48.xM, ← hx53]; rw [if_neg c_57, if_neg c_69, if_neg c_81, if_pos hi10, ex3_118, hkxc, xM_th (by omega)]), rfl, by show scM v v124; rw [ev124]; exact again_all ev48 hf53⟩
              · skip
                refine lv_aload_n hx hb dX8_on_84 rfl (lv_at hl 0 rfl) ?_
                refine g_ki h (g_runV X h (As := []) (rest := []) (c_X8_letting gl Z v53 w n (B + k) L hn53) mi_X8_letting ml_RX8_246 (cc_116) (by decide) kl8 rfl ⟨Nat.le_of_ble_eq_true rfl, Nat.le_of_ble_eq_true rfl⟩ rfl hl.1 rfl (Nat.le_of_ble_eq_true rfl) dX8_on_85) (fun r85 v85 w85 H locs hp85 h => ?_)
                obtain ⟨hr85, f85, hf85⟩ := hp85
                obtain ⟨ev85, rfl⟩ := Prod.mk.inj hf85
                replace ev85 := ev85.symm
                refine lv_goto (tgt := 118) hx hb dX8_on_88 (by decide) ?_
                refine lv_istore_n (lv' := [(3, .int r85), (0, .ref (zg Z 116)), (1, .int x0), (2, .int x1)]) hx hb dX8_on_118 rfl hl (by decide) rfl (fun ls hl => ?_)
                refine lv_aload_n hx hb dX8_on_119 rfl (lv_at hl 1 rfl) ?_
                refine lv_aload_n hx hb dX8_on_120 rfl (lv_at hl 1 rfl) ?_
                refine g_getr X h (k := 39) (t := 138) (cc_116) fr_RX8_76 rfl (by decide) (by decide) (by decide) dX8_on_121 ?_
                refine g_kv h (g_runV X h (As := [.ref (zg Z 138)]) (rest := []) (c_X8_again gl Z v85 w 138 (Or.inl rfl)) mi_X8_again ml_RX8_280 (cc_116) (by decide) kl8 rfl ⟨Nat.le_of_ble_eq_true rfl, Nat.le_of_ble_eq_true rfl⟩ rfl hl.1 rfl (Nat.le_of_ble_eq_true rfl) dX8_on_124) (fun v124 w124 H locs hp124 h => ?_)
                obtain ⟨ev124, rfl⟩ := Prod.mk.inj hp124
                replace ev124 := ev124.symm
                refine lv_iload_n hx hb dX8_on_127 rfl (lv_at hl 0 rfl) ?_
                exact g_iret X h dX8_on_128 ⟨(by have ok : (inR x1 0 2 || isP (nI n) (x1 - 10) || isP (nI n) (x1 - 20)) = true := (by simp [c_6, c_17, c_28]); simp only [sOn, ok, c_37, if_true, hkc]; rw [onS, ← hs48.xM, ← hx53]; rw [if_neg c_57, if_neg c_69, if_pos c_81]; exact hr85), rfl, by show scM v v124; rw [ev124]; exact again_all ev48 (frM_trans hf53 (frM_stk ev85))⟩
            · skip
              refine lv_aload_n hx hb dX8_on_72 rfl (lv_at hl 0 rfl) ?_
              refine g_geti X h (k := 8) (cc_116) fr_RX8_136 rfl (by decide) dX8_on_73 ?_
              refine lv_goto (tgt := 118) hx hb dX8_on_76 (by decide) ?_
              refine lv_topi (fun x3_118 ex3_118 => ?_)
              refine lv_istore_n (lv' := [(3, .int x3_118), (0, .ref (zg Z 116)), (1, .int x0), (2, .int x1)]) hx hb dX8_on_118 rfl hl (by decide) rfl (fun ls hl => ?_)
              refine lv_aload_n hx hb dX8_on_119 rfl (lv_at hl 1 rfl) ?_
              refine lv_aload_n hx hb dX8_on_120 rfl (lv_at hl 1 rfl) ?_
              refine g_getr X h (k := 39) (t := 138) (cc_116) fr_RX8_76 rfl (by decide) (by decide) (by decide) dX8_on_121 ?_
              refine g_kv h (g_runV X h (As := [.ref (zg Z 138)]) (rest := []) (c_X8_again gl Z v53 w 138 (Or.inl rfl)) mi_X8_again ml_RX8_280 (cc_116) (by decide) kl8 rfl ⟨Nat.le_of_ble_eq_true rfl, Nat.le_of_ble_eq_true rfl⟩ rfl hl.1 rfl (Nat.le_of_ble_eq_true rfl) dX8_on_124) (fun v124 w124 H locs hp124 h => ?_)
              obtain ⟨ev124, rfl⟩ := Prod.mk.inj hp124
              replace ev124 := ev124.symm
              refine lv_iload_n hx hb dX8_on_127 rfl (lv_at hl 0 rfl) ?_
              exact g_iret X h dX8_on_128 ⟨(by have ok : (inR x1 0 2 || isP (nI n) (x1 - 10) || isP (nI n) (x1 - 20)) = true := (by simp [c_6, c_17, c_28]); simp only [sOn, ok, c_37, if_true, hkc]; rw [onS, ← hs48.xM, ← hx53]; rw [if_neg c_57, if_pos c_69, ex3_118]; rfl), rfl, by show scM v v124; rw [ev124]; exact again_all ev48 hf53⟩
          · skip
            refine lv_aload_n hx hb dX8_on_60 rfl (lv_at hl 0 rfl) ?_
            refine g_geti X h (k := 7) (cc_116) fr_RX8_98 rfl (by decide) dX8_on_61 ?_
            refine lv_goto (tgt := 118) hx hb dX8_on_64 (by decide) ?_
            refine lv_topi (fun x3_118 ex3_118 => ?_)
            refine lv_istore_n (lv' := [(3, .int x3_118), (0, .ref (zg Z 116)), (1, .int x0), (2, .int x1)]) hx hb dX8_on_118 rfl hl (by decide) rfl (fun ls hl => ?_)
            refine lv_aload_n hx hb dX8_on_119 rfl (lv_at hl 1 rfl) ?_
            refine lv_aload_n hx hb dX8_on_120 rfl (lv_at hl 1 rfl) ?_
            refine g_getr X h (k := 39) (t := 138) (cc_116) fr_RX8_76 rfl (by decide) (by decide) (by decide) dX8_on_121 ?_
            refine g_kv h (g_runV X h (As := [.ref (zg Z 138)]) (rest := []) (c_X8_again gl Z v53 w 138 (Or.inl rfl)) mi_X8_again ml_RX8_280 (cc_116) (by decide) kl8 rfl ⟨Nat.le_of_ble_eq_true rfl, Nat.le_of_ble_eq_true rfl⟩ rfl hl.1 rfl (Nat.le_of_ble_eq_true rfl) dX8_on_124) (fun v124 w124 H locs hp124 h => ?_)
            obtain ⟨ev124, rfl⟩ := Prod.mk.inj hp124
            replace ev124 := ev124.symm
            refine lv_iload_n hx hb dX8_on_127 rfl (lv_at hl 0 rfl) ?_
            exact g_iret X h dX8_on_128 ⟨(by have ok : (inR x1 0 2 || isP (nI n) (x1 - 10) || isP (nI n) (x1 - 20)) = true := (by simp [c_6, c_17, c_28]); simp only [sOn, ok, c_37, if_true, hkc]; rw [onS, ← hs48.xM, ← hx53]; rw [if_pos c_57, ex3_118]; rfl), rfl, by show scM v v124; rw [ev124]; exact again_all ev48 hf53⟩
        · skip
          rw [hr34, bI_0] at c_37
          refine lv_bipush (v := (-2)) hx hb dX8_on_40 (by decide) ?_
          exact g_iret X h dX8_on_42 ⟨by simp [sOn, c_6, c_17, c_28, c_37], rfl, scM_refl v⟩
      · skip
        rw [hr25, bI_0] at c_28
        refine lv_iconst (v := (-1)) hx hb dX8_on_31 (by decide) ?_
        exact g_iret X h dX8_on_32 ⟨by simp [sOn, c_6, c_17, c_28], rfl, scM_refl v⟩

set_option maxRecDepth 100000 in
set_option maxHeartbeats 1000000 in
theorem c_X8_dies (gl : Launch) (Z : PL) (v : VV) (w : WV) (n : Nat) (B : Nat) (L : LND) (hd : DM v n B L) (hB1 : B + 100 < 1000000) : CT gl yX8_dies cX8_dies 2 (some .int) 11 247 Z [.ref (zg Z 116)] v w (Qi Z (fun r u => r = diesF (xM v n L) L n 100 0 ∧ (u.1, w) = u ∧ scM v u.1)) := by
  refine g_met (by decide) (Nat.le_of_ble_eq_true rfl) ?_
  intro gp ge gs gm ga gb gh gc X h ls hl
  have hx := X.1
  have hb := X.2.1
  have hl : lv_has ls 2 [(0, .ref (zg Z 116))] := hl
  obtain ⟨hn, h6, hwf, hcur, hrx, hB⟩ := id hd
  refine lv_iconst (v := 0) hx hb dX8_dies_0 (by decide) ?_
  refine lv_istore_n (lv' := [(1, .int 0), (0, .ref (zg Z 116))]) hx hb dX8_dies_1 rfl hl (by decide) rfl (fun ls hl => ?_)
  have L2 : ∀ (n2 : Nat) (i : Nat) (x1 : Int32) (va : VV), (x1 = nI i) → (i ≤ 100) → (diesF (xM v n L) L n 100 0 = diesF (xM v n L) L n (100 - i) i) → (scM v va) → 100 - i < n2 → ∀ (H : Heap) (locs : List Loc), HS Z gs va w H locs → ∀ ls : Array Slot, lv_has ls 2 [(0, .ref (zg Z 116)), (1, .int x1)] → W gp gl ge (rmm 11 247) gs gm ga gb gh gc H locs 0 0 (MQ gb (Qi Z (fun r u => r = diesF (xM v n L) L n 100 0 ∧ (u.1, w) = u ∧ scM v u.1)) ga gs 0 0 (zA Z)) (F0 gm 2 ls []) := by
    intro n2
    induction n2 with
    | zero => intro i x1 va hi1 hi hdi hsa hmu; exact absurd hmu (Nat.not_lt_zero _)
    | succ n2 ih2 =>
      intro i x1 va hi1 hi hdi hsa hmu2 H locs h ls hl
      refine lv_iload_n hx hb dX8_dies_2 rfl (lv_at hl 1 rfl) ?_
      refine lv_bipush (v := 100) hx hb dX8_dies_3 (by decide) ?_
      refine lv_icmp_ge (tgt := 24) hx hb dX8_dies_5 (by decide) (fun c_5 => ?_) (fun c_5 => ?_)
      · skip
        have hil := nI_le1 (a := 100) (b := i) rfl hi1 (by omega) (by omega) c_5
        refine lv_bipush (v := (-5)) hx hb dX8_dies_24 (by decide) ?_
        exact g_iret X h dX8_dies_26 ⟨by rw [hdi, show i = 100 by omega]; rfl, rfl, hsa⟩
      · skip
        have hil := nI_le0 (a := 100) (b := i) rfl hi1 (by omega) (by omega) c_5
        refine lv_aload_n hx hb dX8_dies_8 rfl (lv_at hl 0 rfl) ?_
        refine lv_iload_n hx hb dX8_dies_9 rfl (lv_at hl 1 rfl) ?_
        refine g_ki h (g_runV X h (As := [.int x1]) (rest := []) (c_X8_isGone gl Z va w x1 i hi1 n B L (hsa.DM hd) (by omega)) mi_X8_isGone ml_RX8_286 (cc_116) (by decide) kl8 rfl ⟨Nat.le_of_ble_eq_true rfl, Nat.le_of_ble_eq_true rfl⟩ rfl hl.1 rfl (Nat.le_of_ble_eq_true rfl) dX8_dies_10) (fun r10 v10 w10 H locs hp10 h => ?_)
        obtain ⟨hr10, hw10, hsc10⟩ := hp10
        obtain ⟨-, rfl⟩ := Prod.mk.inj hw10
        replace hsc10 : scM _ v10 := hsc10
        rw [hsa.xM, goneS] at hr10
        refine lv_if_eq (tgt := 18) hx hb dX8_dies_13 (by decide) (fun c_13 => ?_) (fun c_13 => ?_)
        · skip
          rw [hr10, bI_0] at c_13
          refine lv_iinc (v := (x1 + 1)) (lv' := [(1, .int (x1 + 1)), (0, .ref (zg Z 116))]) hx hb dX8_dies_18 hl (k := 1) rfl rfl (by decide) rfl (fun ls hl => ?_)
          refine lv_goto (tgt := 2) hx hb dX8_dies_21 (by decide) ?_
          exact ih2 (i + 1) (x1 + 1) v10 (by rw [hi1]; exact nI_1 _) (by omega) (by rw [hdi, show 100 - i = (99 - i) + 1 by omega, show 100 - (i + 1) = 99 - i by omega]; exact if_neg (of_decide_eq_false c_13)) (scM_trans hsa hsc10) (by omega) _ _ h ls (lv_sub hl [1, 0] rfl)
        · skip
          rw [hr10, bI_n] at c_13
          refine lv_iload_n hx hb dX8_dies_16 rfl (lv_at hl 1 rfl) ?_
          exact g_iret X h dX8_dies_17 ⟨by rw [hdi, show 100 - i = (99 - i) + 1 by omega]; exact ((if_pos (of_decide_eq_true c_13)).trans hi1.symm).symm, rfl, scM_trans hsa hsc10⟩
  exact L2 (100 - 0 + 1) 0 0 v rfl (by omega) rfl (scM_refl v) (Nat.lt_succ_self _) _ _ h ls (lv_sub hl [1, 0] rfl)
