/-! one place of the reference is set for a while -/
theorem sc_at {v va : VV} {c s : Nat} (h : scM v (up2 va c s (v c s))) (y : Int32) : scM (up2 v c s y) (up2 va c s y) := by
  intro i a b
  funext k
  have g := congrFun (h i a b) k
  simp only [up2] at g ⊢
  by_cases e : i = c ∧ k = s
  · rw [if_pos e, if_pos e]
  · rw [if_neg e] at g
    rw [if_neg e, if_neg e]; exact g
theorem sc_back {v v1 v2 va : VV} {c s : Nat} {y : Int32} (h : scM v (up2 va c s (v c s))) (e1 : v1 = up2 va c s y) (h2 : scM v1 v2) : scM v (up2 v2 c s (v c s)) := by
  subst e1
  intro i a b
  funext k
  have g := congrFun (h i a b) k
  have g2 := congrFun (h2 i a b) k
  simp only [up2] at g g2 ⊢
  by_cases e : i = c ∧ k = s
  · rw [if_pos e] at g ⊢; exact g
  · rw [if_neg e] at g g2 ⊢; exact g2.trans g
theorem sc_0 {v : VV} {c s : Nat} : scM v (up2 v c s (v c s)) := by
  intro i _ _
  funext k
  simp only [up2]
  split
  · rename_i e; rw [e.1, e.2]
  · rfl
/-- two places -/
abbrev up4 (v : VV) (c s : Nat) (x : Int32) (d t : Nat) (y : Int32) : VV := up2 (up2 v c s x) d t y
theorem sc4_at {v va : VV} {c s d t : Nat} (h : scM v (up4 va c s (v c s) d t (v d t))) (x y : Int32) : scM (up4 v c s x d t y) (up4 va c s x d t y) := by
  intro i a b
  funext k
  have g := congrFun (h i a b) k
  simp only [up2] at g ⊢
  by_cases e : i = d ∧ k = t
  · rw [if_pos e, if_pos e]
  · rw [if_neg e] at g ⊢
    rw [if_neg e]
    by_cases e2 : i = c ∧ k = s
    · rw [if_pos e2, if_pos e2]
    · rw [if_neg e2] at g
      rw [if_neg e2, if_neg e2]; exact g
theorem sc4_back {v v1 v2 va : VV} {c s d t : Nat} {x y : Int32} (h : scM v (up4 va c s (v c s) d t (v d t))) (e1 : v1 = up4 va c s x d t y) (h2 : scM v1 v2) : scM v (up4 v2 c s (v c s) d t (v d t)) := by
  subst e1
  intro i a b
  funext k
  have g := congrFun (h i a b) k
  have g2 := congrFun (h2 i a b) k
  simp only [up2] at g g2 ⊢
  by_cases e : i = d ∧ k = t
  · rw [if_pos e] at g ⊢; exact g
  · rw [if_neg e] at g g2 ⊢
    by_cases e2 : i = c ∧ k = s
    · rw [if_pos e2] at g ⊢; exact g
    · rw [if_neg e2] at g g2 ⊢; exact g2.trans g
theorem sc4_0 {v : VV} {c s d t : Nat} : scM v (up4 v c s (v c s) d t (v d t)) := by
  intro i _ _
  funext k
  simp only [up2]
  split
  · rename_i e; rw [e.1, e.2]
  · split
    · rename_i e; rw [e.1, e.2]
    · rfl
/-! ranges with one thing other -/
theorem RX_dead {n B p : Nat} {X : VV} (h : RX n B X) : RX n B (up2 X 5 p 1) := by
  refine ⟨fun a ha => ?_, by simpa [up2] using h.2⟩
  obtain ⟨h1, h2, h3, h4⟩ := h.1 a ha
  refine ⟨by simpa [up2] using h1, by simpa [up2] using h2, by simpa [up2] using h3, ?_⟩
  by_cases e : a = p
  · subst e; right; simp [up2]
  · simpa [up2, e] using h4
theorem RX_th {n B p g : Nat} {X : VV} (hg : g ≤ 999) (h : RX n B X) : RX n B (up2 X 3 p (nI g)) := by
  refine ⟨fun a ha => ?_, by simpa [up2] using h.2⟩
  obtain ⟨h1, h2, h3, h4⟩ := h.1 a ha
  refine ⟨by simpa [up2] using h1, by simpa [up2] using h2, ?_, by simpa [up2] using h4⟩
  by_cases e : a = p
  · subst e; simp only [up2, and_self, if_true]; rw [nI_toInt (by omega)]; omega
  · simpa [up2, e] using h3
theorem RX_v {n B p g : Nat} {X : VV} (hg : g ≤ 9) (h : RX n B X) : RX n B (up2 X 2 p (nI g)) := by
  refine ⟨fun a ha => ?_, by simpa [up2] using h.2⟩
  obtain ⟨h1, h2, h3, h4⟩ := h.1 a ha
  refine ⟨by simpa [up2] using h1, ?_, by simpa [up2] using h3, by simpa [up2] using h4⟩
  by_cases e : a = p
  · subst e; simp only [up2, and_self, if_true]; rw [nI_toInt (by omega)]; omega
  · simpa [up2, e] using h2
theorem RX_pk {n B g : Nat} {X : VV} (hg : g ≤ 99) (h : RX n B X) : RX n B (up2 X 0 6 (nI g)) := by
  refine ⟨fun a ha => by simpa [up2] using h.1 a ha, by simpa [up2] using h.2.1, by simpa [up2] using h.2.2.1, by simpa [up2] using h.2.2.2.1, by simpa [up2] using h.2.2.2.2.1, ?_, by simpa [up2] using h.2.2.2.2.2.2⟩
  simp only [up2, and_self, if_true]; rw [nI_toInt (by omega)]; omega
theorem RX_cd {n B g : Nat} {X : VV} (h : RX n B X) : RX n B (up2 X 0 5 (nI g)) := ⟨fun a ha => by simpa [up2] using h.1 a ha, by simpa [up2] using h.2⟩
theorem RX_aim {n B p : Nat} {X : VV} (hp : p < n) (h : RX n B X) : RX n B (up2 (up2 X 0 4 1) 7 0 (nI p)) := by
  refine ⟨fun a ha => by simpa [up2] using h.1 a ha, by simpa [up2] using h.2.1, by simpa [up2] using h.2.2.1, by simpa [up2] using h.2.2.2.1, ⟨1, by omega, by simp [up2]; rfl, fun i hi => ⟨p, hp, ?_⟩⟩, by simpa [up2] using h.2.2.2.2.2.1, by simpa [up2] using h.2.2.2.2.2.2⟩
  rw [show i = 0 by omega]; simp [up2]
theorem RX_swap {n B q i j : Nat} {X : VV} (hq : X 0 4 = nI q) (hq6 : q ≤ 6) (hi : i < q) (hj : j < q) (h : RX n B X) : RX n B (up2 (up2 X 7 i (X 7 j)) 7 j (X 7 i)) := by
  refine ⟨fun a ha => by simpa [up2] using h.1 a ha, by simpa [up2] using h.2.1, by simpa [up2] using h.2.2.1, by simpa [up2] using h.2.2.2.1, ?_, by simpa [up2] using h.2.2.2.2.2.1, by simpa [up2] using h.2.2.2.2.2.2⟩
  obtain ⟨q', hq', e, hr⟩ := h.2.2.2.2.1
  have : q' = q := nI_inj (by omega) (by omega) (e.symm.trans hq)
  subst this
  refine ⟨q', hq', by simpa [up2] using e, fun a ha => ?_⟩
  simp only [up2]
  by_cases e1 : a = j
  · subst e1
    obtain ⟨p, hp, e2⟩ := hr i hi
    exact ⟨p, hp, by simpa using e2⟩
  · by_cases e3 : a = i
    · subst e3
      obtain ⟨p, hp, e2⟩ := hr j hj
      exact ⟨p, hp, by simpa [e1] using e2⟩
    · obtain ⟨p, hp, e2⟩ := hr a ha
      exact ⟨p, hp, by simpa [e1, e3] using e2⟩
/-- DM with other numbers, of which X says enough -/
theorem DM_up {v v' : VV} {n B : Nat} {L : LND} (h : DM v n B L) (h0 : v' 116 0 = v 116 0) (h15 : v' 116 15 = v 116 15) (hl : ∀ i, 125 ≤ i → i ≤ 130 → v' i = v i) (hr : RX n B (xM v' n L)) : DM v' n B L := ⟨by rw [h0]; exact h.1, h.2.1, h.2.2.1, curM_cong h15 hl h.2.2.2.1, hr, h.2.2.2.2.2⟩
theorem DM_dead {v : VV} {n B p : Nat} {L : LND} (h : DM v n B L) (hp : p < 6) : DM (up2 v 121 p 1) n B L := DM_up h (by rw [up2_ne (by decide)]) (by rw [up2_ne (by decide)]) (fun i _ _ => up2_ne (by omega)) (by rw [xM_up_dead hp]; exact RX_dead h.2.2.2.2.1)
theorem DM_th {v : VV} {n B p g : Nat} {L : LND} (h : DM v n B L) (hp : p < 6) (hg : g ≤ 999) : DM (up2 v 119 p (nI g)) n B L := DM_up h (by rw [up2_ne (by decide)]) (by rw [up2_ne (by decide)]) (fun i _ _ => up2_ne (by omega)) (by rw [xM_up_th hp]; exact RX_th hg h.2.2.2.2.1)
theorem DM_v {v : VV} {n B p g : Nat} {L : LND} (h : DM v n B L) (hp : p < 6) (hg : g ≤ 9) : DM (up2 v 118 p (nI g)) n B L := DM_up h (by rw [up2_ne (by decide)]) (by rw [up2_ne (by decide)]) (fun i _ _ => up2_ne (by omega)) (by rw [xM_up_v hp]; exact RX_v hg h.2.2.2.2.1)
theorem DM_pk {v : VV} {n B g : Nat} {L : LND} (h : DM v n B L) (hg : g ≤ 99) : DM (up2 v 116 38 (nI g)) n B L := DM_up h (by simp [up2]) (by simp [up2]) (fun i _ _ => up2_ne (by omega)) (by rw [xM_up_pk (by omega)]; exact RX_pk hg h.2.2.2.2.1)
theorem DM_cd {v : VV} {n B g : Nat} {L : LND} (h : DM v n B L) (hg : g ≤ 99) : DM (up2 v 116 37 (nI g)) n B L := DM_up h (by simp [up2]) (by simp [up2]) (fun i _ _ => up2_ne (by omega)) (by rw [xM_up_cd (by omega)]; exact RX_cd h.2.2.2.2.1)
theorem DM_aim {v : VV} {n B p : Nat} {L : LND} (h : DM v n B L) (hp : p < n) : DM (up4 v 116 9 1 123 0 (nI p)) n B L := DM_up h (by simp [up2]) (by simp [up2]) (fun i _ _ => by show up2 (up2 v 116 9 1) 123 0 (nI p) i = v i; rw [up2_ne (by omega), up2_ne (by omega)]) (by rw [xM_up_rnd (by omega), xM_up_pl]; exact RX_aim hp h.2.2.2.2.1)
/-! what is best -/
def worstF (X : VV) (L : LND) (n : Nat) : Nat → Int32 × Int32
  | 0 => (X 0 1, 0)
  | i + 1 => if helS X L n (i + 1) < (worstF X L n i).1 then (helS X L n (i + 1), nI (i + 1)) else worstF X L n i
def sWorst (X : VV) (L : LND) (n : Nat) (a x : Int32) : Int32 := if inR x 0 1 then (if inR a 0 60 then (if x = 0 then (worstF X L n a.toNatClampNeg).1 else (worstF X L n a.toNatClampNeg).2) else -2) else -1
/-- WELL -/
def wellS (X : VV) (L : LND) (n : Nat) : Int32 := helS X L n 40
def aimX (X : VV) (p : Nat) : VV := up2 (up2 X 0 4 1) 7 0 (nI p)
def aimF (X : VV) (L : LND) (n : Nat) : Nat → Int32 × Int32
  | 0 => (-1, -5)
  | p + 1 => if (aimF X L n p).1 < wellS (aimX X p) L n then (wellS (aimX X p) L n, nI p) else aimF X L n p
def swapX (X : VV) (i j : Nat) : VV := up2 (up2 X 7 i (X 7 j)) 7 j (X 7 i)
def swapS (X : VV) (L : LND) (n i j : Nat) (s : Int32 × Int32) : Int32 × Int32 := if s.1 < wellS (swapX X i j) L n then (wellS (swapX X i j) L n, 10 * nI i + nI j) else s
def swapI (X : VV) (L : LND) (n i : Nat) (s : Int32 × Int32) : Nat → Int32 × Int32
  | 0 => s
  | k + 1 => swapS X L n i (i + 1 + k) (swapI X L n i s k)
def swapO (X : VV) (L : LND) (n q : Nat) : Nat → Int32 × Int32
  | 0 => (wellS X L n, -5)
  | i + 1 => swapI X L n i (swapO X L n q i) (q - (i + 1))
def sSwap (X : VV) (L : LND) (n : Nat) : Int32 := (swapO X L n (X 0 4).toNatClampNeg (X 0 4).toNatClampNeg).2
/-- the least of those from the top down to 40 - (k - 1) -/
def minD (P : Nat → Bool) (top : Nat) : Nat → Int32
  | 0 => -5
  | k + 1 => if P (top - k) then nI (top - k) else minD P top k
def maxU (P : Nat → Bool) : Nat → Int32
  | 0 => -5
  | c + 1 => if P c then nI c else maxU P c
def enP (X : VV) (L : LND) (n k g : Nat) : Bool := !goneS (up2 X 0 6 (nI g)) L n k
def beP (X : VV) (L : LND) (n k g : Nat) : Bool := !goneS (up2 X 0 5 (nI g)) L n k
def sEnough (X : VV) (L : LND) (n : Nat) (a : Int32) : Int32 := if inR a 1 20 then minD (enP X L n a.toNatClampNeg) 40 41 else -2
def sBears (X : VV) (L : LND) (n : Nat) (a : Int32) : Int32 := if inR a 1 20 then maxU (beP X L n a.toNatClampNeg) 41 else -2
def gwS (X : VV) (L : LND) (n k p : Nat) : Bool := goneS (up2 X 5 p 1) L n k
def whoF (X : VV) (L : LND) (n k : Nat) : Nat → Int32
  | 0 => 0
  | p + 1 => if X 5 p = 0 ∧ gwS X L n k p = true then whoF X L n k p ||| ((1 : Int32) <<< (nI p &&& 31)) else whoF X L n k p
def sWhose (X : VV) (L : LND) (n : Nat) (a : Int32) : Int32 := if inR a 1 60 then (if goneS X L n a.toNatClampNeg then 0 else whoF X L n a.toNatClampNeg n) else -2
/-- a counter that falls: at top + 1 - k, or at -1 behind the last -/
def dn (top k : Nat) : Int32 := if k ≤ top then nI (top - k) else -1
theorem dn_0 (top : Nat) : dn top 0 = nI top := rfl
theorem dn_s {top k : Nat} (h : k ≤ top) (ht : top < 1000) : dn top k + (-1) = dn top (k + 1) := by
  unfold dn
  rw [if_pos h]
  by_cases e : k = top
  · subst e
    rw [if_neg (by omega), Nat.sub_self]
    decide
  · rw [if_pos (by omega), sb_m1 (by omega), show top - k - 1 = top - (k + 1) by omega]
theorem dn_neg {top k : Nat} (ht : top < 1000) (h : dn top k < 0) : top < k := by
  unfold dn at h
  by_cases e : k ≤ top
  · rw [if_pos e] at h
    exact absurd h (nI_pos (by omega))
  · omega
theorem dn_pos {top k : Nat} (h : ¬ dn top k < 0) : k ≤ top := by
  unfold dn at h
  by_cases e : k ≤ top
  · exact e
  · rw [if_neg e] at h
    exact absurd (by decide) h
theorem dn_at {top k : Nat} (h : k ≤ top) : dn top k = nI (top - k) := if_pos h
/-- two places of the round change -/
def swV (v : VV) (i j : Nat) : VV := up2 (up2 v 123 i (v 123 j)) 123 j (v 123 i)
theorem sc_swap {v va : VV} {i j : Nat} (h : scM v va) : scM (swV v i j) (swV va i j) := by
  intro a x y
  funext k
  have g := congrFun (h a x y) k
  have g3 := h 123 (by decide) (by decide)
  simp only [swV, up2, g3]
  split
  · rfl
  · split
    · rfl
    · exact g
theorem sw_sw {v : VV} {i j : Nat} (h : i < j) : swV (swV v i j) i j = v := by
  funext a k
  simp only [swV, up2]
  by_cases e : a = 123
  · subst e
    by_cases e1 : k = j
    · subst e1
      simp [show i ≠ k by omega]
    · by_cases e2 : k = i
      · subst e2
        simp [e1]
      · simp [e1, e2]
  · simp [e]
theorem xM_sw {v : VV} {n i j : Nat} {L : LND} (hi : i < 6) (hj : j < 6) : xM (swV v i j) n L = swapX (xM v n L) i j := by
  unfold swV swapX
  rw [xM_up_rnd hj, xM_up_rnd hi, xM_rnd hi, xM_rnd hj]
theorem DM_sw {v : VV} {n B q i j : Nat} {L : LND} (h : DM v n B L) (hq : v 116 9 = nI q) (hq6 : q ≤ 6) (hi : i < q) (hj : j < q) : DM (swV v i j) n B L := DM_up h (by simp [swV, up2]) (by simp [swV, up2]) (fun a _ _ => by unfold swV; rw [up2_ne (by omega), up2_ne (by omega)]) (by rw [xM_sw (by omega) (by omega)]; exact RX_swap (by rw [xM_04]; exact hq) hq6 hi hj h.2.2.2.2.1)
set_option maxRecDepth 100000 in
set_option maxHeartbeats 1000000 in
theorem c_X8_worst (gl : Launch) (Z : PL) (v : VV) (w : WV) (x0 : Int32) (x1 : Int32) (n : Nat) (B : Nat) (L : LND) (hd : DM v n B L) (hB60 : B + 61 < 1000000) : CT gl yX8_worst cX8_worst 6 (some .int) 8 182 Z [.ref (zg Z 116), .int x0, .int x1] v w (Qi Z (fun r u => r = sWorst (xM v n L) L n x0 x1 ∧ (u.1, w) = u ∧ scM v u.1)) := by
  refine g_met (by decide) (Nat.le_of_ble_eq_true rfl) ?_
  intro gp ge gs gm ga gb gh gc X h ls hl
  have hx := X.1
  have hb := X.2.1
  have hl : lv_has ls 6 [(0, .ref (zg Z 116)), (1, .int x0), (2, .int x1)] := hl
  obtain ⟨hn, h6, hwf, hcur, hrx, hB⟩ := id hd
  refine lv_iload_n hx hb dX8_worst_0 rfl (lv_at hl 2 rfl) ?_
  refine lv_iconst (v := 0) hx hb dX8_worst_1 (by decide) ?_
  refine lv_iconst (v := 1) hx hb dX8_worst_2 (by decide) ?_
  refine g_ki h (g_runS X h (As := [.int x1, .int 0, .int 1]) (rest := []) (c_X8_within gl Z v w x1 0 1) ms_X8_within ml_RX8_114 ⟨Nat.le_of_ble_eq_true rfl, Nat.le_of_ble_eq_true rfl⟩ rfl hl.1 rfl (Nat.le_of_ble_eq_true rfl) dX8_worst_3) (fun r3 v3 w3 H locs hp3 h => ?_)
  obtain ⟨hr3, hu3⟩ := hp3; obtain ⟨rfl, rfl⟩ := Prod.mk.inj hu3
  refine lv_if_ne (tgt := 11) hx hb dX8_worst_6 (by decide) (fun c_6 => ?_) (fun c_6 => ?_)
  · skip
    rw [hr3, bI_n] at c_6
    refine lv_iload_n hx hb dX8_worst_11 rfl (lv_at hl 1 rfl) ?_
    refine g_ki h (g_runS X h (As := [.int x0]) (rest := []) (c_X8_isDays gl Z v w x0) ms_X8_isDays ml_RX8_269 ⟨Nat.le_of_ble_eq_true rfl, Nat.le_of_ble_eq_true rfl⟩ rfl hl.1 rfl (Nat.le_of_ble_eq_true rfl) dX8_worst_12) (fun r12 v12 w12 H locs hp12 h => ?_)
    obtain ⟨hr12, hu12⟩ := hp12; obtain ⟨rfl, rfl⟩ := Prod.mk.inj hu12
    refine lv_if_ne (tgt := 21) hx hb dX8_worst_15 (by decide) (fun c_15 => ?_) (fun c_15 => ?_)
    · skip
      rw [hr12, bI_n] at c_15
      obtain ⟨k, hk, hk0, hk60, hkc⟩ := inR_nat (a := 0) (b := 60) rfl rfl (by decide) c_15
      refine lv_aload_n hx hb dX8_worst_21 rfl (lv_at hl 0 rfl) ?_
      refine g_geti X h (k := 7) (cc_116) fr_RX8_98 rfl (by decide) dX8_worst_22 ?_
      refine lv_topi (fun x3_25 ex3_25 => ?_)
      refine lv_istore_n (lv' := [(3, .int x3_25), (0, .ref (zg Z 116)), (1, .int x0), (2, .int x1)]) hx hb dX8_worst_25 rfl hl (by decide) rfl (fun ls hl => ?_)
      refine lv_iconst (v := 0) hx hb dX8_worst_26 (by decide) ?_
      refine lv_istore (lv' := [(4, .int 0), (3, .int x3_25), (0, .ref (zg Z 116)), (1, .int x0), (2, .int x1)]) hx hb dX8_worst_27 hl (by decide) rfl (fun ls hl => ?_)
      refine lv_aload_n hx hb dX8_worst_29 rfl (lv_at hl 2 rfl) ?_
      refine lv_aload_n hx hb dX8_worst_30 rfl (lv_at hl 2 rfl) ?_
      refine g_getr X h (k := 39) (t := 138) (cc_116) fr_RX8_76 rfl (by decide) (by decide) (by decide) dX8_worst_31 ?_
      refine g_kv h (g_runV X h (As := [.ref (zg Z 138)]) (rest := []) (c_X8_keep gl Z v w 138 (Or.inl rfl)) mi_X8_keep ml_RX8_276 (cc_116) (by decide) kl8 rfl ⟨Nat.le_of_ble_eq_true rfl, Nat.le_of_ble_eq_true rfl⟩ rfl hl.1 rfl (Nat.le_of_ble_eq_true rfl) dX8_worst_34) (fun v34 w34 H locs hp34 h => ?_)
      obtain ⟨ev34, rfl⟩ := Prod.mk.inj hp34
      replace ev34 := ev34.symm
      have hs34 := scM_kp ev34
      refine lv_iconst (v := 1) hx hb dX8_worst_37 (by decide) ?_
      refine lv_istore (lv' := [(5, .int 1), (4, .int 0), (3, .int x3_25), (0, .ref (zg Z 116)), (1, .int x0), (2, .int x1)]) hx hb dX8_worst_38 hl (by decide) rfl (fun ls hl => ?_)
      have L40 : ∀ (n40 : Nat) (i : Nat) (x3 x4 x5 : Int32) (va : VV), (x5 = nI (i + 1)) → (i ≤ k) → (x3 = (worstF (xM v n L) L n i).1) → (x4 = (worstF (xM v n L) L n i).2) → (xM va n L = daysS (xM v n L) L n i) → (frM v34 va) → k - i < n40 → ∀ (H : Heap) (locs : List Loc), HS Z gs va w H locs → ∀ ls : Array Slot, lv_has ls 6 [(0, .ref (zg Z 116)), (1, .int x0), (2, .int x1), (3, .int x3), (4, .int x4), (5, .int x5)] → W gp gl ge (rmm 8 182) gs gm ga gb gh gc H locs 0 0 (MQ gb (Qi Z (fun r u => r = sWorst (xM v n L) L n x0 x1 ∧ (u.1, w) = u ∧ scM v u.1)) ga gs 0 0 (zA Z)) (F0 gm 40 ls []) := by
        intro n40
        induction n40 with
        | zero => intro i x3 x4 x5 va hx5 hi hle hwh hxa hfa hmu; exact absurd hmu (Nat.not_lt_zero _)
        | succ n40 ih40 =>
          intro i x3 x4 x5 va hx5 hi hle hwh hxa hfa hmu40 H locs h ls hl
          refine lv_iload hx hb dX8_worst_40 (lv_at hl 5 rfl) ?_
          refine lv_iload_n hx hb dX8_worst_42 rfl (lv_at hl 1 rfl) ?_
          refine lv_icmp_gt (tgt := 76) hx hb dX8_worst_43 (by decide) (fun c_43 => ?_) (fun c_43 => ?_)
          · skip
            have hik : k ≤ i := by
              have z := nI_lt1 (a := k) (b := (i + 1)) hk hx5 (by omega) (by omega) c_43
              omega
            refine lv_aload_n hx hb dX8_worst_76 rfl (lv_at hl 0 rfl) ?_
            refine lv_aload_n hx hb dX8_worst_77 rfl (lv_at hl 0 rfl) ?_
            refine g_getr X h (k := 39) (t := 138) (cc_116) fr_RX8_76 rfl (by decide) (by decide) (by decide) dX8_worst_78 ?_
            refine g_kv h (g_runV X h (As := [.ref (zg Z 138)]) (rest := []) (c_X8_again gl Z va w 138 (Or.inl rfl)) mi_X8_again ml_RX8_280 (cc_116) (by decide) kl8 rfl ⟨Nat.le_of_ble_eq_true rfl, Nat.le_of_ble_eq_true rfl⟩ rfl hl.1 rfl (Nat.le_of_ble_eq_true rfl) dX8_worst_81) (fun v81 w81 H locs hp81 h => ?_)
            obtain ⟨ev81, rfl⟩ := Prod.mk.inj hp81
            replace ev81 := ev81.symm
            refine lv_iload_n hx hb dX8_worst_84 rfl (lv_at hl 2 rfl) ?_
            refine lv_if_ne (tgt := 92) hx hb dX8_worst_85 (by decide) (fun c_85 => ?_) (fun c_85 => ?_)
            · skip
              refine lv_iload hx hb dX8_worst_92 (lv_at hl 4 rfl) ?_
              exact g_iret X h dX8_worst_94 ⟨by simp only [sWorst, c_6, c_15, if_true, hkc, show k = i by omega]; exact hwh.trans (if_neg c_85).symm, rfl, by show scM v v81; rw [ev81]; exact again_all ev34 hfa⟩
            · skip
              refine lv_iload_n hx hb dX8_worst_88 rfl (lv_at hl 3 rfl) ?_
              refine lv_goto (tgt := 94) hx hb dX8_worst_89 (by decide) ?_
              exact g_iret X h dX8_worst_94 ⟨by simp only [sWorst, c_6, c_15, if_true, hkc, show k = i by omega]; exact hle.trans (if_pos c_85).symm, rfl, by show scM v v81; rw [ev81]; exact again_all ev34 hfa⟩
          · skip
            have hik : i < k := by
              have z := nI_lt0 (a := k) (b := (i + 1)) hk hx5 (by omega) (by omega) c_43
              omega
            refine lv_aload_n hx hb dX8_worst_46 rfl (lv_at hl 0 rfl) ?_
            refine g_kv h (g_runV X h (As := []) (rest := []) (c_X8_goesDay gl Z va w n (B + i) L (DM.fr (hs34.DM hd) hfa (by rw [hxa]; exact RX_daysS h6 hrx i (by omega)) (by omega))) mi_X8_goesDay ml_RX8_266 (cc_116) (by decide) kl8 rfl ⟨Nat.le_of_ble_eq_true rfl, Nat.le_of_ble_eq_true rfl⟩ rfl hl.1 rfl (Nat.le_of_ble_eq_true rfl) dX8_worst_47) (fun v47 w47 H locs hp47 h => ?_)
            obtain ⟨hx47, hw47, hf47⟩ := hp47
            obtain ⟨-, rfl⟩ := Prod.mk.inj hw47
            replace hx47 : xM v47 n L = _ := hx47
            replace hf47 : frM _ v47 := hf47
            rw [hxa] at hx47
            have hh47 : v47 116 7 = helS (xM v n L) L n (i + 1) := congrFun (congrFun hx47 0) 1
            refine lv_aload_n hx hb dX8_worst_50 rfl (lv_at hl 0 rfl) ?_
            refine g_geti X h (k := 7) (cc_116) fr_RX8_98 rfl (by decide) dX8_worst_51 ?_
            refine lv_iload_n hx hb dX8_worst_54 rfl (lv_at hl 3 rfl) ?_
            refine lv_icmp_lt (tgt := 61) hx hb dX8_worst_55 (by decide) (fun c_55 => ?_) (fun c_55 => ?_)
            · skip
              refine lv_aload_n hx hb dX8_worst_61 rfl (lv_at hl 0 rfl) ?_
              refine g_geti X h (k := 7) (cc_116) fr_RX8_98 rfl (by decide) dX8_worst_62 ?_
              refine lv_topi (fun x3_65 ex3_65 => ?_)
              refine lv_istore_n (lv' := [(3, .int x3_65), (0, .ref (zg Z 116)), (1, .int x0), (2, .int x1), (4, .int x4), (5, .int x5)]) hx hb dX8_worst_65 rfl hl (by decide) rfl (fun ls hl => ?_)
              refine lv_iload hx hb dX8_worst_66 (lv_at hl 5 rfl) ?_
              refine lv_istore (lv' := [(4, .int x5), (3, .int x3_65), (0, .ref (zg Z 116)), (1, .int x0), (2, .int x1), (5, .int x5)]) hx hb dX8_worst_68 hl (by decide) rfl (fun ls hl => ?_)
              refine lv_iinc (v := (x5 + 1)) (lv' := [(5, .int (x5 + 1)), (4, .int x5), (3, .int x3_65), (0, .ref (zg Z 116)), (1, .int x0), (2, .int x1)]) hx hb dX8_worst_70 hl (k := 5) rfl rfl (by decide) rfl (fun ls hl => ?_)
              refine lv_goto (tgt := 40) hx hb dX8_worst_73 (by decide) ?_
              exact ih40 (i + 1) x3_65 x5 (x5 + 1) v47 (by rw [hx5]; exact nI_1 _) (by omega) (by rw [worstF, if_pos (by rw [← hh47, ← hle]; exact c_55)]; dsimp only; exact (ex3_65.trans hh47)) (by rw [worstF, if_pos (by rw [← hh47, ← hle]; exact c_55)]; dsimp only; exact hx5) hx47 (frM_trans hfa hf47) (by omega) _ _ h ls (lv_sub hl [3, 4, 5, 2, 1, 0] rfl)
            · skip
              refine lv_goto (tgt := 70) hx hb dX8_worst_58 (by decide) ?_
              refine lv_iinc (v := (x5 + 1)) (lv' := [(5, .int (x5 + 1)), (0, .ref (zg Z 116)), (1, .int x0), (2, .int x1), (3, .int x3), (4, .int x4)]) hx hb dX8_worst_70 hl (k := 5) rfl rfl (by decide) rfl (fun ls hl => ?_)
              refine lv_goto (tgt := 40) hx hb dX8_worst_73 (by decide) ?_
              exact ih40 (i + 1) x3 x4 (x5 + 1) v47 (by rw [hx5]; exact nI_1 _) (by omega) (by rw [worstF, if_neg (by rw [← hh47, ← hle]; exact c_55)]; exact hle) (by rw [worstF, if_neg (by rw [← hh47, ← hle]; exact c_55)]; exact hwh) hx47 (frM_trans hfa hf47) (by omega) _ _ h ls (lv_sub hl [1, 2, 3, 4, 5, 0] rfl)
      exact L40 (k - 0 + 1) 0 x3_25 0 1 v34 rfl (Nat.zero_le _) ex3_25 rfl hs34.xM (frM_refl v34) (Nat.lt_succ_self _) _ _ h ls (lv_sub hl [3, 4, 5, 2, 1, 0] rfl)
    · skip
      rw [hr12, bI_0] at c_15
      refine lv_bipush (v := (-2)) hx hb dX8_worst_18 (by decide) ?_
      exact g_iret X h dX8_worst_20 ⟨by simp [sWorst, c_6, c_15], rfl, scM_refl v⟩
  · skip
    rw [hr3, bI_0] at c_6
    refine lv_iconst (v := (-1)) hx hb dX8_worst_9 (by decide) ?_
    exact g_iret X h dX8_worst_10 ⟨by simp [sWorst, c_6], rfl, scM_refl v⟩

set_option maxRecDepth 100000 in
set_option maxHeartbeats 1000000 in
theorem c_X8_isGoneWithout (gl : Launch) (Z : PL) (v : VV) (w : WV) (x0 : Int32) (p : Nat) (hp : x0 = nI p) (x1 : Int32) (k : Nat) (hk : x1 = nI k) (n : Nat) (B : Nat) (L : LND) (hd : DM v n B L) (hpn : p < n) (hBk : B + k < 1000000) : CT gl yX8_isGoneWithout cX8_isGoneWithout 5 (some .boolean) 11 247 Z [.ref (zg Z 116), .int x0, .int x1] v w (Qi Z (fun r u => r = bI (gwS (xM v n L) L n k p) ∧ (u.1, w) = u ∧ scM v u.1)) := by
  refine g_met (by decide) (Nat.le_of_ble_eq_true rfl) ?_
  intro gp ge gs gm ga gb gh gc X h ls hl
  have hx := X.1
  have hb := X.2.1
  have hl : lv_has ls 5 [(0, .ref (zg Z 116)), (1, .int x0), (2, .int x1)] := hl
  obtain ⟨hn, h6, hwf, hcur, hrx, hB⟩ := id hd
  refine lv_aload_n hx hb dX8_isGoneWithout_0 rfl (lv_at hl 0 rfl) ?_
  refine g_getr X h (k := 5) (t := 121) (cc_116) fr_RX8_24 rfl (by decide) (by decide) (by decide) dX8_isGoneWithout_1 ?_
  refine lv_iload_n hx hb dX8_isGoneWithout_4 rfl (lv_at hl 1 rfl) ?_
  refine g_iald X h (k := p) (cc_121) hp (by omega) (by decide) dX8_isGoneWithout_5 ?_
  refine lv_topi (fun x3_6 ex3_6 => ?_)
  refine lv_istore_n (lv' := [(3, .int x3_6), (0, .ref (zg Z 116)), (1, .int x0), (2, .int x1)]) hx hb dX8_isGoneWithout_6 rfl hl (by decide) rfl (fun ls hl => ?_)
  refine lv_aload_n hx hb dX8_isGoneWithout_7 rfl (lv_at hl 1 rfl) ?_
  refine g_getr X h (k := 5) (t := 121) (cc_116) fr_RX8_24 rfl (by decide) (by decide) (by decide) dX8_isGoneWithout_8 ?_
  refine lv_iload_n hx hb dX8_isGoneWithout_11 rfl (lv_at hl 2 rfl) ?_
  refine lv_iconst (v := 1) hx hb dX8_isGoneWithout_12 (by decide) ?_
  refine g_iast X h (k := p) (cc_121) hp (by omega) (by decide) dX8_isGoneWithout_13 (fun v13 H locs ev13 h => ?_)
  refine lv_aload_n hx hb dX8_isGoneWithout_14 rfl (lv_at hl 1 rfl) ?_
  refine lv_iload_n hx hb dX8_isGoneWithout_15 rfl (lv_at hl 3 rfl) ?_
  refine g_ki h (g_runV X h (As := [.int x1]) (rest := []) (c_X8_isGone gl Z v13 w x1 k hk n B L (by rw [ev13]; exact DM_dead hd (by omega)) (by first | assumption | omega)) mi_X8_isGone ml_RX8_286 (cc_116) (by decide) kl8 rfl ⟨Nat.le_of_ble_eq_true rfl, Nat.le_of_ble_eq_true rfl⟩ rfl hl.1 rfl (Nat.le_of_ble_eq_true rfl) dX8_isGoneWithout_16) (fun r16 v16 w16 H locs hp16 h => ?_)
  obtain ⟨hr16, hw16, hsc16⟩ := hp16
  obtain ⟨-, rfl⟩ := Prod.mk.inj hw16
  replace hsc16 : scM _ v16 := hsc16
  rw [ev13, xM_up_dead (by omega)] at hr16
  refine lv_istore (lv' := [(4, .int r16), (3, .int x3_6), (0, .ref (zg Z 116)), (1, .int x0), (2, .int x1)]) hx hb dX8_isGoneWithout_19 hl (by decide) rfl (fun ls hl => ?_)
  refine lv_aload_n hx hb dX8_isGoneWithout_21 rfl (lv_at hl 2 rfl) ?_
  refine g_getr X h (k := 5) (t := 121) (cc_116) fr_RX8_24 rfl (by decide) (by decide) (by decide) dX8_isGoneWithout_22 ?_
  refine lv_iload_n hx hb dX8_isGoneWithout_25 rfl (lv_at hl 3 rfl) ?_
  refine lv_iload_n hx hb dX8_isGoneWithout_26 rfl (lv_at hl 1 rfl) ?_
  refine g_iast X h (k := p) (cc_121) hp (by omega) (by decide) dX8_isGoneWithout_27 (fun v27 H locs ev27 h => ?_)
  refine lv_iload hx hb dX8_isGoneWithout_28 (lv_at hl 0 rfl) ?_
  exact g_nret X h dX8_isGoneWithout_30 (by rw [hr16]; exact nar_bI _) ⟨hr16, rfl, by show scM v v27; rw [ev27, ex3_6]; exact sc_back sc_0 ev13 hsc16⟩

set_option maxRecDepth 100000 in
set_option maxHeartbeats 1000000 in
theorem c_X8_aim (gl : Launch) (Z : PL) (v : VV) (w : WV) (n : Nat) (B : Nat) (L : LND) (hd : DM v n B L) (hB40 : B + 40 < 1000000) : CT gl yX8_aim cX8_aim 7 (some .int) 10 226 Z [.ref (zg Z 116)] v w (Qi Z (fun r u => r = (aimF (xM v n L) L n n).2 ∧ (u.1, w) = u ∧ scM v u.1)) := by
  refine g_met (by decide) (Nat.le_of_ble_eq_true rfl) ?_
  intro gp ge gs gm ga gb gh gc X h ls hl
  have hx := X.1
  have hb := X.2.1
  have hl : lv_has ls 7 [(0, .ref (zg Z 116))] := hl
  obtain ⟨hn, h6, hwf, hcur, hrx, hB⟩ := id hd
  refine lv_bipush (v := (-5)) hx hb dX8_aim_0 (by decide) ?_
  refine lv_istore_n (lv' := [(1, .int (-5)), (0, .ref (zg Z 116))]) hx hb dX8_aim_2 rfl hl (by decide) rfl (fun ls hl => ?_)
  refine lv_iconst (v := (-1)) hx hb dX8_aim_3 (by decide) ?_
  refine lv_istore_n (lv' := [(2, .int (-1)), (1, .int (-5)), (0, .ref (zg Z 116))]) hx hb dX8_aim_4 rfl hl (by decide) rfl (fun ls hl => ?_)
  refine lv_aload_n hx hb dX8_aim_5 rfl (lv_at hl 2 rfl) ?_
  refine g_geti X h (k := 9) (cc_116) fr_RX8_139 rfl (by decide) dX8_aim_6 ?_
  refine lv_topi (fun x3_9 ex3_9 => ?_)
  refine lv_istore_n (lv' := [(3, .int x3_9), (2, .int (-1)), (1, .int (-5)), (0, .ref (zg Z 116))]) hx hb dX8_aim_9 rfl hl (by decide) rfl (fun ls hl => ?_)
  refine lv_aload_n hx hb dX8_aim_10 rfl (lv_at hl 3 rfl) ?_
  refine g_getr X h (k := 10) (t := 123) (cc_116) fr_RX8_30 rfl (by decide) (by decide) (by decide) dX8_aim_11 ?_
  refine lv_iconst (v := 0) hx hb dX8_aim_14 (by decide) ?_
  refine g_iald X h (k := 0) (cc_123) rfl (by omega) (by decide) dX8_aim_15 ?_
  refine lv_topi (fun x4_16 ex4_16 => ?_)
  refine lv_istore (lv' := [(4, .int x4_16), (3, .int x3_9), (2, .int (-1)), (1, .int (-5)), (0, .ref (zg Z 116))]) hx hb dX8_aim_16 hl (by decide) rfl (fun ls hl => ?_)
  refine lv_iconst (v := 0) hx hb dX8_aim_18 (by decide) ?_
  refine lv_istore (lv' := [(5, .int 0), (4, .int x4_16), (3, .int x3_9), (2, .int (-1)), (1, .int (-5)), (0, .ref (zg Z 116))]) hx hb dX8_aim_19 hl (by decide) rfl (fun ls hl => ?_)
  have L21 : ∀ (n21 : Nat) (i : Nat) (x1 x2 x5 : Int32) (va : VV), (x5 = nI i) → (i ≤ n) → (x2 = (aimF (xM v n L) L n i).1) → (x1 = (aimF (xM v n L) L n i).2) → (scM v (up4 va 116 9 (v 116 9) 123 0 (v 123 0))) → n - i < n21 → ∀ (H : Heap) (locs : List Loc), HS Z gs va w H locs → ∀ ls : Array Slot, lv_has ls 7 [(0, .ref (zg Z 116)), (1, .int x1), (2, .int x2), (3, .int x3_9), (4, .int x4_16), (5, .int x5)] → W gp gl ge (rmm 10 226) gs gm ga gb gh gc H locs 0 0 (MQ gb (Qi Z (fun r u => r = (aimF (xM v n L) L n n).2 ∧ (u.1, w) = u ∧ scM v u.1)) ga gs 0 0 (zA Z)) (F0 gm 21 ls []) := by
    intro n21
    induction n21 with
    | zero => intro i x1 x2 x5 va hx5 hi hx2 hx1 hsa hmu; exact absurd hmu (Nat.not_lt_zero _)
    | succ n21 ih21 =>
      intro i x1 x2 x5 va hx5 hi hx2 hx1 hsa hmu21 H locs h ls hl
      have hna : va 116 0 = nI n := by
        have z := congrFun (hsa 116 (by decide) (by decide)) 0
        simp [up2] at z
        rw [z]; exact hn
      refine lv_iload hx hb dX8_aim_21 (lv_at hl 5 rfl) ?_
      refine lv_aload_n hx hb dX8_aim_23 rfl (lv_at hl 0 rfl) ?_
      refine g_geti X h (k := 0) (cc_116) fr_RX8_111 rfl (by decide) dX8_aim_24 ?_
      refine lv_icmp_ge (tgt := 72) hx hb dX8_aim_27 (by decide) (fun c_27 => ?_) (fun c_27 => ?_)
      · skip
        have hil := nI_le1 (a := n) (b := i) hna hx5 (by omega) (by omega) c_27
        refine lv_aload_n hx hb dX8_aim_72 rfl (lv_at hl 0 rfl) ?_
        refine lv_iload_n hx hb dX8_aim_73 rfl (lv_at hl 3 rfl) ?_
        refine g_puti X h (k := 9) (cc_116) fp_RX8_139 rfl (by decide) dX8_aim_74 (fun v74 H locs ev74 h => ?_)
        refine lv_aload_n hx hb dX8_aim_77 rfl (lv_at hl 0 rfl) ?_
        refine g_getr X h (k := 10) (t := 123) (cc_116) fr_RX8_30 rfl (by decide) (by decide) (by decide) dX8_aim_78 ?_
        refine lv_iconst (v := 0) hx hb dX8_aim_81 (by decide) ?_
        refine lv_iload hx hb dX8_aim_82 (lv_at hl 4 rfl) ?_
        refine g_iast X h (k := 0) (cc_123) rfl (by omega) (by decide) dX8_aim_84 (fun v84 H locs ev84 h => ?_)
        refine lv_iload_n hx hb dX8_aim_85 rfl (lv_at hl 1 rfl) ?_
        exact g_iret X h dX8_aim_86 ⟨by rw [hx1, show i = n by omega], rfl, by show scM v v84; rw [ev84, ev74]; rw [ex3_9, ex4_16]; exact hsa⟩
      · skip
        have hil := nI_le0 (a := n) (b := i) hna hx5 (by omega) (by omega) c_27
        refine lv_aload_n hx hb dX8_aim_30 rfl (lv_at hl 0 rfl) ?_
        refine lv_iconst (v := 1) hx hb dX8_aim_31 (by decide) ?_
        refine g_puti X h (k := 9) (cc_116) fp_RX8_139 rfl (by decide) dX8_aim_32 (fun v32 H locs ev32 h => ?_)
        refine lv_aload_n hx hb dX8_aim_35 rfl (lv_at hl 0 rfl) ?_
        refine g_getr X h (k := 10) (t := 123) (cc_116) fr_RX8_30 rfl (by decide) (by decide) (by decide) dX8_aim_36 ?_
        refine lv_iconst (v := 0) hx hb dX8_aim_39 (by decide) ?_
        refine lv_iload hx hb dX8_aim_40 (lv_at hl 5 rfl) ?_
        refine g_iast X h (k := 0) (cc_123) rfl (by omega) (by decide) dX8_aim_42 (fun v42 H locs ev42 h => ?_)
        refine lv_aload_n hx hb dX8_aim_43 rfl (lv_at hl 0 rfl) ?_
        refine lv_bipush (v := 40) hx hb dX8_aim_44 (by decide) ?_
        refine g_ki h (g_runV X h (As := [.int 40]) (rest := []) (c_X8_healthOn gl Z v42 w 40 40 rfl n B L ((by rw [ev42, ev32, hx5]; exact sc4_at hsa 1 (nI i) : scM (up4 v 116 9 1 123 0 (nI i)) v42).DM (DM_aim hd hil)) (by first | assumption | omega)) mi_X8_healthOn ml_RX8_283 (cc_116) (by decide) kl8 rfl ⟨Nat.le_of_ble_eq_true rfl, Nat.le_of_ble_eq_true rfl⟩ rfl hl.1 rfl (Nat.le_of_ble_eq_true rfl) dX8_aim_46) (fun r46 v46 w46 H locs hp46 h => ?_)
        obtain ⟨hr46, hw46, hsc46⟩ := hp46
        obtain ⟨-, rfl⟩ := Prod.mk.inj hw46
        replace hsc46 : scM _ v46 := hsc46
        rw [(by rw [ev42, ev32, hx5]; exact sc4_at hsa 1 (nI i) : scM (up4 v 116 9 1 123 0 (nI i)) v42).xM, xM_up_rnd (by omega), xM_up_pl] at hr46
        replace hr46 : r46 = wellS (aimX (xM v n L) i) L n := hr46
        refine lv_istore (lv' := [(6, .int r46), (0, .ref (zg Z 116)), (1, .int x1), (2, .int x2), (3, .int x3_9), (4, .int x4_16), (5, .int x5)]) hx hb dX8_aim_49 hl (by decide) rfl (fun ls hl => ?_)
        refine lv_iload hx hb dX8_aim_51 (lv_at hl 0 rfl) ?_
        refine lv_iload_n hx hb dX8_aim_53 rfl (lv_at hl 3 rfl) ?_
        refine lv_icmp_gt (tgt := 60) hx hb dX8_aim_54 (by decide) (fun c_54 => ?_) (fun c_54 => ?_)
        · skip
          refine lv_iload hx hb dX8_aim_60 (lv_at hl 0 rfl) ?_
          refine lv_istore_n (lv' := [(2, .int r46), (6, .int r46), (0, .ref (zg Z 116)), (1, .int x1), (3, .int x3_9), (4, .int x4_16), (5, .int x5)]) hx hb dX8_aim_62 rfl hl (by decide) rfl (fun ls hl => ?_)
          refine lv_iload hx hb dX8_aim_63 (lv_at hl 6 rfl) ?_
          refine lv_istore_n (lv' := [(1, .int x5), (2, .int r46), (6, .int r46), (0, .ref (zg Z 116)), (3, .int x3_9), (4, .int x4_16), (5, .int x5)]) hx hb dX8_aim_65 rfl hl (by decide) rfl (fun ls hl => ?_)
          refine lv_iinc (v := (x5 + 1)) (lv' := [(5, .int (x5 + 1)), (1, .int x5), (2, .int r46), (6, .int r46), (0, .ref (zg Z 116)), (3, .int x3_9), (4, .int x4_16)]) hx hb dX8_aim_66 hl (k := 6) rfl rfl (by decide) rfl (fun ls hl => ?_)
          refine lv_goto (tgt := 21) hx hb dX8_aim_69 (by decide) ?_
          exact ih21 (i + 1) x5 r46 (x5 + 1) v46 (by rw [hx5]; exact nI_1 _) (by omega) (by rw [aimF, if_pos (by rw [← hr46, ← hx2]; exact c_54)]; dsimp only; exact hr46) (by rw [aimF, if_pos (by rw [← hr46, ← hx2]; exact c_54)]; dsimp only; exact hx5) (sc4_back hsa (by rw [ev42, ev32]) hsc46) (by omega) _ _ h ls (lv_sub hl [4, 1, 2, 5, 6, 0] rfl)
        · skip
          refine lv_goto (tgt := 66) hx hb dX8_aim_57 (by decide) ?_
          refine lv_iinc (v := (x5 + 1)) (lv' := [(5, .int (x5 + 1)), (6, .int r46), (0, .ref (zg Z 116)), (1, .int x1), (2, .int x2), (3, .int x3_9), (4, .int x4_16)]) hx hb dX8_aim_66 hl (k := 6) rfl rfl (by decide) rfl (fun ls hl => ?_)
          refine lv_goto (tgt := 21) hx hb dX8_aim_69 (by decide) ?_
          exact ih21 (i + 1) x1 x2 (x5 + 1) v46 (by rw [hx5]; exact nI_1 _) (by omega) (by rw [aimF, if_neg (by rw [← hr46, ← hx2]; exact c_54)]; exact hx2) (by rw [aimF, if_neg (by rw [← hr46, ← hx2]; exact c_54)]; exact hx1) (sc4_back hsa (by rw [ev42, ev32]) hsc46) (by omega) _ _ h ls (lv_sub hl [2, 3, 4, 5, 6, 0] rfl)
  exact L21 (n - 0 + 1) 0 (-5) (-1) 0 v rfl (Nat.zero_le _) rfl rfl sc4_0 (Nat.lt_succ_self _) _ _ h ls (lv_sub hl [5, 4, 3, 2, 1, 0] rfl)

set_option maxRecDepth 100000 in
set_option maxHeartbeats 1000000 in
theorem c_X8_enough (gl : Launch) (Z : PL) (v : VV) (w : WV) (x0 : Int32) (n : Nat) (B : Nat) (L : LND) (hd : DM v n B L) (hB60 : B + 60 < 1000000) (hc0 : v 116 38 = -1) : CT gl yX8_enough cX8_enough 4 (some .int) 11 247 Z [.ref (zg Z 116), .int x0] v w (Qi Z (fun r u => r = sEnough (xM v n L) L n x0 ∧ (u.1, w) = u ∧ scM v u.1)) := by
  refine g_met (by decide) (Nat.le_of_ble_eq_true rfl) ?_
  intro gp ge gs gm ga gb gh gc X h ls hl
  have hx := X.1
  have hb := X.2.1
  have hl : lv_has ls 4 [(0, .ref (zg Z 116)), (1, .int x0)] := hl
  obtain ⟨hn, h6, hwf, hcur, hrx, hB⟩ := id hd
  refine lv_iload_n hx hb dX8_enough_0 rfl (lv_at hl 1 rfl) ?_
  refine lv_iconst (v := 1) hx hb dX8_enough_1 (by decide) ?_
  refine lv_bipush (v := 20) hx hb dX8_enough_2 (by decide) ?_
  refine g_ki h (g_runS X h (As := [.int x0, .int 1, .int 20]) (rest := []) (c_X8_within gl Z v w x0 1 20) ms_X8_within ml_RX8_114 ⟨Nat.le_of_ble_eq_true rfl, Nat.le_of_ble_eq_true rfl⟩ rfl hl.1 rfl (Nat.le_of_ble_eq_true rfl) dX8_enough_4) (fun r4 v4 w4 H locs hp4 h => ?_)
  obtain ⟨hr4, hu4⟩ := hp4; obtain ⟨rfl, rfl⟩ := Prod.mk.inj hu4
  refine lv_if_ne (tgt := 13) hx hb dX8_enough_7 (by decide) (fun c_7 => ?_) (fun c_7 => ?_)
  · skip
    rw [hr4, bI_n] at c_7
    obtain ⟨k, hk, hk0, hk20, hkc⟩ := inR_nat (a := 1) (b := 20) rfl rfl (by decide) c_7
    refine lv_bipush (v := (-5)) hx hb dX8_enough_13 (by decide) ?_
    refine lv_istore_n (lv' := [(2, .int (-5)), (0, .ref (zg Z 116)), (1, .int x0)]) hx hb dX8_enough_15 rfl hl (by decide) rfl (fun ls hl => ?_)
    refine lv_bipush (v := 40) hx hb dX8_enough_16 (by decide) ?_
    refine lv_istore_n (lv' := [(3, .int 40), (2, .int (-5)), (0, .ref (zg Z 116)), (1, .int x0)]) hx hb dX8_enough_18 rfl hl (by decide) rfl (fun ls hl => ?_)
    have L19 : ∀ (n19 : Nat) (j : Nat) (x2 x3 : Int32) (va : VV), (x3 = dn 40 j) → (j ≤ 41) → (x2 = minD (enP (xM v n L) L n k) 40 j) → (scM v (up2 va 116 38 (v 116 38))) → 41 - j < n19 → ∀ (H : Heap) (locs : List Loc), HS Z gs va w H locs → ∀ ls : Array Slot, lv_has ls 4 [(0, .ref (zg Z 116)), (1, .int x0), (2, .int x2), (3, .int x3)] → W gp gl ge (rmm 11 247) gs gm ga gb gh gc H locs 0 0 (MQ gb (Qi Z (fun r u => r = sEnough (xM v n L) L n x0 ∧ (u.1, w) = u ∧ scM v u.1)) ga gs 0 0 (zA Z)) (F0 gm 19 ls []) := by
      intro n19
      induction n19 with
      | zero => intro j x2 x3 va hx3 hj hx2 hsa hmu; exact absurd hmu (Nat.not_lt_zero _)
      | succ n19 ih19 =>
        intro j x2 x3 va hx3 hj hx2 hsa hmu19 H locs h ls hl
        refine lv_iload_n hx hb dX8_enough_19 rfl (lv_at hl 3 rfl) ?_
        refine lv_if_lt (tgt := 44) hx hb dX8_enough_20 (by decide) (fun c_20 => ?_) (fun c_20 => ?_)
        · skip
          have hji : 40 < j := dn_neg (by omega) (hx3 ▸ c_20)
          refine lv_aload_n hx hb dX8_enough_44 rfl (lv_at hl 0 rfl) ?_
          refine lv_iconst (v := (-1)) hx hb dX8_enough_45 (by decide) ?_
          refine g_puti X h (k := 38) (cc_116) fp_RX8_108 rfl (by decide) dX8_enough_46 (fun v46 H locs ev46 h => ?_)
          refine lv_iload_n hx hb dX8_enough_49 rfl (lv_at hl 2 rfl) ?_
          exact g_iret X h dX8_enough_50 ⟨by simp only [sEnough, c_7, if_true, hkc]; rw [hx2, show j = 41 by omega], rfl, by show scM v v46; rw [ev46, ← hc0]; exact hsa⟩
        · skip
          have hji : j ≤ 40 := dn_pos (hx3 ▸ c_20)
          rw [dn_at hji] at hx3
          refine lv_aload_n hx hb dX8_enough_23 rfl (lv_at hl 0 rfl) ?_
          refine lv_iload_n hx hb dX8_enough_24 rfl (lv_at hl 3 rfl) ?_
          refine g_puti X h (k := 38) (cc_116) fp_RX8_108 rfl (by decide) dX8_enough_25 (fun v25 H locs ev25 h => ?_)
          refine lv_aload_n hx hb dX8_enough_28 rfl (lv_at hl 0 rfl) ?_
          refine lv_iload_n hx hb dX8_enough_29 rfl (lv_at hl 1 rfl) ?_
          refine g_ki h (g_runV X h (As := [.int x0]) (rest := []) (c_X8_isGone gl Z v25 w x0 k hk n B L ((by rw [ev25, hx3]; exact sc_at hsa (nI (40 - j)) : scM (up2 v 116 38 (nI (40 - j))) v25).DM (DM_pk hd (by omega))) (by first | assumption | omega)) mi_X8_isGone ml_RX8_286 (cc_116) (by decide) kl8 rfl ⟨Nat.le_of_ble_eq_true rfl, Nat.le_of_ble_eq_true rfl⟩ rfl hl.1 rfl (Nat.le_of_ble_eq_true rfl) dX8_enough_30) (fun r30 v30 w30 H locs hp30 h => ?_)
          obtain ⟨hr30, hw30, hsc30⟩ := hp30
          obtain ⟨-, rfl⟩ := Prod.mk.inj hw30
          replace hsc30 : scM _ v30 := hsc30
          rw [(by rw [ev25, hx3]; exact sc_at hsa (nI (40 - j)) : scM (up2 v 116 38 (nI (40 - j))) v25).xM, xM_up_pk (by omega)] at hr30
          refine lv_if_ne (tgt := 38) hx hb dX8_enough_33 (by decide) (fun c_33 => ?_) (fun c_33 => ?_)
          · skip
            rw [hr30, bI_n] at c_33
            refine lv_iinc (v := (x3 + (-1))) (lv' := [(3, .int (x3 + (-1))), (0, .ref (zg Z 116)), (1, .int x0), (2, .int x2)]) hx hb dX8_enough_38 hl (k := 3) rfl rfl (by decide) rfl (fun ls hl => ?_)
            refine lv_goto (tgt := 19) hx hb dX8_enough_41 (by decide) ?_
            exact ih19 (j + 1) x2 (x3 + (-1)) v30 (by rw [hx3, ← dn_at hji]; exact dn_s hji (by omega)) (by omega) (by rw [minD, if_neg (by rw [enP, c_33]; simp)]; exact hx2) (sc_back hsa ev25 hsc30) (by omega) _ _ h ls (lv_sub hl [1, 2, 3, 0] rfl)
          · skip
            rw [hr30, bI_0] at c_33
            refine lv_iload_n hx hb dX8_enough_36 rfl (lv_at hl 3 rfl) ?_
            refine lv_istore_n (lv' := [(2, .int x3), (0, .ref (zg Z 116)), (1, .int x0), (3, .int x3)]) hx hb dX8_enough_37 rfl hl (by decide) rfl (fun ls hl => ?_)
            refine lv_iinc (v := (x3 + (-1))) (lv' := [(3, .int (x3 + (-1))), (2, .int x3), (0, .ref (zg Z 116)), (1, .int x0)]) hx hb dX8_enough_38 hl (k := 3) rfl rfl (by decide) rfl (fun ls hl => ?_)
            refine lv_goto (tgt := 19) hx hb dX8_enough_41 (by decide) ?_
            exact ih19 (j + 1) x3 (x3 + (-1)) v30 (by rw [hx3, ← dn_at hji]; exact dn_s hji (by omega)) (by omega) (by rw [minD, if_pos (by rw [enP, c_33]; rfl)]; exact hx3) (sc_back hsa ev25 hsc30) (by omega) _ _ h ls (lv_sub hl [2, 3, 1, 0] rfl)
    exact L19 (41 - 0 + 1) 0 (-5) 40 v (by rw [dn_0]; rfl) (by omega) rfl sc_0 (Nat.lt_succ_self _) _ _ h ls (lv_sub hl [2, 3, 1, 0] rfl)
  · skip
    rw [hr4, bI_0] at c_7
    refine lv_bipush (v := (-2)) hx hb dX8_enough_10 (by decide) ?_
    exact g_iret X h dX8_enough_12 ⟨by simp [sEnough, c_7], rfl, scM_refl v⟩

set_option maxRecDepth 100000 in
set_option maxHeartbeats 1000000 in
theorem c_X8_bears (gl : Launch) (Z : PL) (v : VV) (w : WV) (x0 : Int32) (n : Nat) (B : Nat) (L : LND) (hd : DM v n B L) (hB60 : B + 60 < 1000000) (hc0 : v 116 37 = -1) : CT gl yX8_bears cX8_bears 4 (some .int) 11 247 Z [.ref (zg Z 116), .int x0] v w (Qi Z (fun r u => r = sBears (xM v n L) L n x0 ∧ (u.1, w) = u ∧ scM v u.1)) := by
  refine g_met (by decide) (Nat.le_of_ble_eq_true rfl) ?_
  intro gp ge gs gm ga gb gh gc X h ls hl
  have hx := X.1
  have hb := X.2.1
  have hl : lv_has ls 4 [(0, .ref (zg Z 116)), (1, .int x0)] := hl
  obtain ⟨hn, h6, hwf, hcur, hrx, hB⟩ := id hd
  refine lv_iload_n hx hb dX8_bears_0 rfl (lv_at hl 1 rfl) ?_
  refine lv_iconst (v := 1) hx hb dX8_bears_1 (by decide) ?_
  refine lv_bipush (v := 20) hx hb dX8_bears_2 (by decide) ?_
  refine g_ki h (g_runS X h (As := [.int x0, .int 1, .int 20]) (rest := []) (c_X8_within gl Z v w x0 1 20) ms_X8_within ml_RX8_114 ⟨Nat.le_of_ble_eq_true rfl, Nat.le_of_ble_eq_true rfl⟩ rfl hl.1 rfl (Nat.le_of_ble_eq_true rfl) dX8_bears_4) (fun r4 v4 w4 H locs hp4 h => ?_)
  obtain ⟨hr4, hu4⟩ := hp4; obtain ⟨rfl, rfl⟩ := Prod.mk.inj hu4
  refine lv_if_ne (tgt := 13) hx hb dX8_bears_7 (by decide) (fun c_7 => ?_) (fun c_7 => ?_)
  · skip
    rw [hr4, bI_n] at c_7
    obtain ⟨k, hk, hk0, hk20, hkc⟩ := inR_nat (a := 1) (b := 20) rfl rfl (by decide) c_7
    refine lv_bipush (v := (-5)) hx hb dX8_bears_13 (by decide) ?_
    refine lv_istore_n (lv' := [(2, .int (-5)), (0, .ref (zg Z 116)), (1, .int x0)]) hx hb dX8_bears_15 rfl hl (by decide) rfl (fun ls hl => ?_)
    refine lv_iconst (v := 0) hx hb dX8_bears_16 (by decide) ?_
    refine lv_istore_n (lv' := [(3, .int 0), (2, .int (-5)), (0, .ref (zg Z 116)), (1, .int x0)]) hx hb dX8_bears_17 rfl hl (by decide) rfl (fun ls hl => ?_)
    have L18 : ∀ (n18 : Nat) (j : Nat) (x2 x3 : Int32) (va : VV), (x3 = nI j) → (j ≤ 41) → (x2 = maxU (beP (xM v n L) L n k) j) → (scM v (up2 va 116 37 (v 116 37))) → 41 - j < n18 → ∀ (H : Heap) (locs : List Loc), HS Z gs va w H locs → ∀ ls : Array Slot, lv_has ls 4 [(0, .ref (zg Z 116)), (1, .int x0), (2, .int x2), (3, .int x3)] → W gp gl ge (rmm 11 247) gs gm ga gb gh gc H locs 0 0 (MQ gb (Qi Z (fun r u => r = sBears (xM v n L) L n x0 ∧ (u.1, w) = u ∧ scM v u.1)) ga gs 0 0 (zA Z)) (F0 gm 18 ls []) := by
      intro n18
      induction n18 with
      | zero => intro j x2 x3 va hx3 hj hx2 hsa hmu; exact absurd hmu (Nat.not_lt_zero _)
      | succ n18 ih18 =>
        intro j x2 x3 va hx3 hj hx2 hsa hmu18 H locs h ls hl
        refine lv_iload_n hx hb dX8_bears_18 rfl (lv_at hl 3 rfl) ?_
        refine lv_bipush (v := 41) hx hb dX8_bears_19 (by decide) ?_
        refine lv_icmp_ge (tgt := 45) hx hb dX8_bears_21 (by decide) (fun c_21 => ?_) (fun c_21 => ?_)
        · skip
          have hil := nI_le1 (a := 41) (b := j) rfl hx3 (by omega) (by omega) c_21
          refine lv_aload_n hx hb dX8_bears_45 rfl (lv_at hl 0 rfl) ?_
          refine lv_iconst (v := (-1)) hx hb dX8_bears_46 (by decide) ?_
          refine g_puti X h (k := 37) (cc_116) fp_RX8_105 rfl (by decide) dX8_bears_47 (fun v47 H locs ev47 h => ?_)
          refine lv_iload_n hx hb dX8_bears_50 rfl (lv_at hl 2 rfl) ?_
          exact g_iret X h dX8_bears_51 ⟨by simp only [sBears, c_7, if_true, hkc]; rw [hx2, show j = 41 by omega], rfl, by show scM v v47; rw [ev47, ← hc0]; exact hsa⟩
        · skip
          have hil := nI_le0 (a := 41) (b := j) rfl hx3 (by omega) (by omega) c_21
          refine lv_aload_n hx hb dX8_bears_24 rfl (lv_at hl 0 rfl) ?_
          refine lv_iload_n hx hb dX8_bears_25 rfl (lv_at hl 3 rfl) ?_
          refine g_puti X h (k := 37) (cc_116) fp_RX8_105 rfl (by decide) dX8_bears_26 (fun v26 H locs ev26 h => ?_)
          refine lv_aload_n hx hb dX8_bears_29 rfl (lv_at hl 0 rfl) ?_
          refine lv_iload_n hx hb dX8_bears_30 rfl (lv_at hl 1 rfl) ?_
          refine g_ki h (g_runV X h (As := [.int x0]) (rest := []) (c_X8_isGone gl Z v26 w x0 k hk n B L ((by rw [ev26, hx3]; exact sc_at hsa (nI j) : scM (up2 v 116 37 (nI j)) v26).DM (DM_cd hd (by omega))) (by first | assumption | omega)) mi_X8_isGone ml_RX8_286 (cc_116) (by decide) kl8 rfl ⟨Nat.le_of_ble_eq_true rfl, Nat.le_of_ble_eq_true rfl⟩ rfl hl.1 rfl (Nat.le_of_ble_eq_true rfl) dX8_bears_31) (fun r31 v31 w31 H locs hp31 h => ?_)
          obtain ⟨hr31, hw31, hsc31⟩ := hp31
          obtain ⟨-, rfl⟩ := Prod.mk.inj hw31
          replace hsc31 : scM _ v31 := hsc31
          rw [(by rw [ev26, hx3]; exact sc_at hsa (nI j) : scM (up2 v 116 37 (nI j)) v26).xM, xM_up_cd (by omega)] at hr31
          refine lv_if_ne (tgt := 39) hx hb dX8_bears_34 (by decide) (fun c_34 => ?_) (fun c_34 => ?_)
          · skip
            rw [hr31, bI_n] at c_34
            refine lv_iinc (v := (x3 + 1)) (lv' := [(3, .int (x3 + 1)), (0, .ref (zg Z 116)), (1, .int x0), (2, .int x2)]) hx hb dX8_bears_39 hl (k := 3) rfl rfl (by decide) rfl (fun ls hl => ?_)
            refine lv_goto (tgt := 18) hx hb dX8_bears_42 (by decide) ?_
            exact ih18 (j + 1) x2 (x3 + 1) v31 (by rw [hx3]; exact nI_1 _) (by omega) (by rw [maxU, if_neg (by rw [beP, c_34]; simp)]; exact hx2) (sc_back hsa ev26 hsc31) (by omega) _ _ h ls (lv_sub hl [1, 2, 3, 0] rfl)
          · skip
            rw [hr31, bI_0] at c_34
            refine lv_iload_n hx hb dX8_bears_37 rfl (lv_at hl 3 rfl) ?_
            refine lv_istore_n (lv' := [(2, .int x3), (0, .ref (zg Z 116)), (1, .int x0), (3, .int x3)]) hx hb dX8_bears_38 rfl hl (by decide) rfl (fun ls hl => ?_)
            refine lv_iinc (v := (x3 + 1)) (lv' := [(3, .int (x3 + 1)), (2, .int x3), (0, .ref (zg Z 116)), (1, .int x0)]) hx hb dX8_bears_39 hl (k := 3) rfl rfl (by decide) rfl (fun ls hl => ?_)
            refine lv_goto (tgt := 18) hx hb dX8_bears_42 (by decide) ?_
            exact ih18 (j + 1) x3 (x3 + 1) v31 (by rw [hx3]; exact nI_1 _) (by omega) (by rw [maxU, if_pos (by rw [beP, c_34]; rfl)]; exact hx3) (sc_back hsa ev26 hsc31) (by omega) _ _ h ls (lv_sub hl [2, 3, 1, 0] rfl)
    exact L18 (41 - 0 + 1) 0 (-5) 0 v rfl (by omega) rfl sc_0 (Nat.lt_succ_self _) _ _ h ls (lv_sub hl [2, 3, 1, 0] rfl)
  · skip
    rw [hr4, bI_0] at c_7
    refine lv_bipush (v := (-2)) hx hb dX8_bears_10 (by decide) ?_
    exact g_iret X h dX8_bears_12 ⟨by simp [sBears, c_7], rfl, scM_refl v⟩

set_option maxRecDepth 100000 in
set_option maxHeartbeats 1000000 in
theorem c_X8_whose (gl : Launch) (Z : PL) (v : VV) (w : WV) (x0 : Int32) (n : Nat) (B : Nat) (L : LND) (hd : DM v n B L) (hB60 : B + 60 < 1000000) : CT gl yX8_whose cX8_whose 4 (some .int) 12 271 Z [.ref (zg Z 116), .int x0] v w (Qi Z (fun r u => r = sWhose (xM v n L) L n x0 ∧ (u.1, w) = u ∧ scM v u.1)) := by
  refine g_met (by decide) (Nat.le_of_ble_eq_true rfl) ?_
  intro gp ge gs gm ga gb gh gc X h ls hl
  have hx := X.1
  have hb := X.2.1
  have hl : lv_has ls 4 [(0, .ref (zg Z 116)), (1, .int x0)] := hl
  obtain ⟨hn, h6, hwf, hcur, hrx, hB⟩ := id hd
  refine lv_iload_n hx hb dX8_whose_0 rfl (lv_at hl 1 rfl) ?_
  refine lv_iconst (v := 1) hx hb dX8_whose_1 (by decide) ?_
  refine lv_bipush (v := 60) hx hb dX8_whose_2 (by decide) ?_
  refine g_ki h (g_runS X h (As := [.int x0, .int 1, .int 60]) (rest := []) (c_X8_within gl Z v w x0 1 60) ms_X8_within ml_RX8_114 ⟨Nat.le_of_ble_eq_true rfl, Nat.le_of_ble_eq_true rfl⟩ rfl hl.1 rfl (Nat.le_of_ble_eq_true rfl) dX8_whose_4) (fun r4 v4 w4 H locs hp4 h => ?_)
  obtain ⟨hr4, hu4⟩ := hp4; obtain ⟨rfl, rfl⟩ := Prod.mk.inj hu4
  refine lv_if_ne (tgt := 13) hx hb dX8_whose_7 (by decide) (fun c_7 => ?_) (fun c_7 => ?_)
  · skip
    rw [hr4, bI_n] at c_7
    obtain ⟨k, hk, hk0, hk20, hkc⟩ := inR_nat (a := 1) (b := 60) rfl rfl (by decide) c_7
    refine lv_iconst (v := 0) hx hb dX8_whose_13 (by decide) ?_
    refine lv_istore_n (lv' := [(2, .int 0), (0, .ref (zg Z 116)), (1, .int x0)]) hx hb dX8_whose_14 rfl hl (by decide) rfl (fun ls hl => ?_)
    refine lv_aload_n hx hb dX8_whose_15 rfl (lv_at hl 1 rfl) ?_
    refine lv_iload_n hx hb dX8_whose_16 rfl (lv_at hl 2 rfl) ?_
    refine g_ki h (g_runV X h (As := [.int x0]) (rest := []) (c_X8_isGone gl Z v w x0 k hk n B L hd (by omega)) mi_X8_isGone ml_RX8_286 (cc_116) (by decide) kl8 rfl ⟨Nat.le_of_ble_eq_true rfl, Nat.le_of_ble_eq_true rfl⟩ rfl hl.1 rfl (Nat.le_of_ble_eq_true rfl) dX8_whose_17) (fun r17 v17 w17 H locs hp17 h => ?_)
    obtain ⟨hr17, hw17, hsc17⟩ := hp17
    obtain ⟨-, rfl⟩ := Prod.mk.inj hw17
    replace hsc17 : scM _ v17 := hsc17
    refine lv_if_eq (tgt := 25) hx hb dX8_whose_20 (by decide) (fun c_20 => ?_) (fun c_20 => ?_)
    · skip
      rw [hr17, bI_0] at c_20
      refine lv_iconst (v := 0) hx hb dX8_whose_25 (by decide) ?_
      refine lv_istore_n (lv' := [(3, .int 0), (2, .int 0), (0, .ref (zg Z 116)), (1, .int x0)]) hx hb dX8_whose_26 rfl hl (by decide) rfl (fun ls hl => ?_)
      have L27 : ∀ (n27 : Nat) (i : Nat) (x2 x3 : Int32) (va : VV), (x3 = nI i) → (i ≤ n) → (x2 = whoF (xM v n L) L n k i) → (scM v va) → n - i < n27 → ∀ (H : Heap) (locs : List Loc), HS Z gs va w H locs → ∀ ls : Array Slot, lv_has ls 4 [(0, .ref (zg Z 116)), (1, .int x0), (2, .int x2), (3, .int x3)] → W gp gl ge (rmm 12 271) gs gm ga gb gh gc H locs 0 0 (MQ gb (Qi Z (fun r u => r = sWhose (xM v n L) L n x0 ∧ (u.1, w) = u ∧ scM v u.1)) ga gs 0 0 (zA Z)) (F0 gm 27 ls []) := by
        intro n27
        induction n27 with
        | zero => intro i x2 x3 va hx3 hi hx2 hsa hmu; exact absurd hmu (Nat.not_lt_zero _)
        | succ n27 ih27 =>
          intro i x2 x3 va hx3 hi hx2 hsa hmu27 H locs h ls hl
          refine lv_iload_n hx hb dX8_whose_27 rfl (lv_at hl 3 rfl) ?_
          refine lv_aload_n hx hb dX8_whose_28 rfl (lv_at hl 0 rfl) ?_
          refine g_geti X h (k := 0) (cc_116) fr_RX8_111 rfl (by decide) dX8_whose_29 ?_
          refine g_tr (y := (v 116 0)) (by simp [(scM.at hsa), up2, upc]) ?_
          refine lv_icmp_ge (tgt := 65) hx hb dX8_whose_32 (by decide) (fun c_32 => ?_) (fun c_32 => ?_)
          · skip
            have hil := nI_le1 (a := n) (b := i) hn hx3 (by omega) (by omega) c_32
            refine lv_iload_n hx hb dX8_whose_65 rfl (lv_at hl 2 rfl) ?_
            exact g_iret X h dX8_whose_66 ⟨by simp only [sWhose, c_7, if_true, hkc, c_20]; rw [hx2, show i = n by omega]; rfl, rfl, hsa⟩
          · skip
            have hil := nI_le0 (a := n) (b := i) hn hx3 (by omega) (by omega) c_32
            refine lv_aload_n hx hb dX8_whose_35 rfl (lv_at hl 0 rfl) ?_
            refine g_getr X h (k := 5) (t := 121) (cc_116) fr_RX8_24 rfl (by decide) (by decide) (by decide) dX8_whose_36 ?_
            refine lv_iload_n hx hb dX8_whose_39 rfl (lv_at hl 3 rfl) ?_
            refine g_iald X h (k := i) (cc_121) hx3 (by omega) (by decide) dX8_whose_40 ?_
            refine g_tr (y := (v 121 i)) (by simp [(scM.at hsa), up2, upc]) ?_
            refine lv_if_ne (tgt := 59) hx hb dX8_whose_41 (by decide) (fun c_41 => ?_) (fun c_41 => ?_)
            · skip
              refine lv_iinc (v := (x3 + 1)) (lv' := [(3, .int (x3 + 1)), (0, .ref (zg Z 116)), (1, .int x0), (2, .int x2)]) hx hb dX8_whose_59 hl (k := 3) rfl rfl (by decide) rfl (fun ls hl => ?_)
              refine lv_goto (tgt := 27) hx hb dX8_whose_62 (by decide) ?_
              exact ih27 (i + 1) x2 (x3 + 1) va (by rw [hx3]; exact nI_1 _) (by omega) (by rw [whoF, if_neg (fun q => c_41 (by rw [← xM_dead (v := v) (n := n) (L := L) (show i < 6 by omega)]; exact q.1))]; exact hx2) hsa (by omega) _ _ h ls (lv_sub hl [1, 2, 3, 0] rfl)
            · skip
              refine lv_aload_n hx hb dX8_whose_44 rfl (lv_at hl 0 rfl) ?_
              refine lv_iload_n hx hb dX8_whose_45 rfl (lv_at hl 3 rfl) ?_
              refine lv_iload_n hx hb dX8_whose_46 rfl (lv_at hl 1 rfl) ?_
              refine g_ki h (g_runV X h (As := [.int x3, .int x0]) (rest := []) (c_X8_isGoneWithout gl Z va w x3 i hx3 x0 k hk n B L (hsa.DM hd) hil (by omega)) mi_X8_isGoneWithout ml_RX8_293 (cc_116) (by decide) kl8 rfl ⟨Nat.le_of_ble_eq_true rfl, Nat.le_of_ble_eq_true rfl⟩ rfl hl.1 rfl (Nat.le_of_ble_eq_true rfl) dX8_whose_47) (fun r47 v47 w47 H locs hp47 h => ?_)
              obtain ⟨hr47, hw47, hsc47⟩ := hp47
              obtain ⟨-, rfl⟩ := Prod.mk.inj hw47
              replace hsc47 : scM _ v47 := hsc47
              rw [hsa.xM] at hr47
              refine lv_if_eq (tgt := 59) hx hb dX8_whose_50 (by decide) (fun c_50 => ?_) (fun c_50 => ?_)
              · skip
                rw [hr47, bI_0] at c_50
                refine lv_iinc (v := (x3 + 1)) (lv' := [(3, .int (x3 + 1)), (0, .ref (zg Z 116)), (1, .int x0), (2, .int x2)]) hx hb dX8_whose_59 hl (k := 3) rfl rfl (by decide) rfl (fun ls hl => ?_)
                refine lv_goto (tgt := 27) hx hb dX8_whose_62 (by decide) ?_
                exact ih27 (i + 1) x2 (x3 + 1) v47 (by rw [hx3]; exact nI_1 _) (by omega) (by rw [whoF, if_neg (fun q => by rw [q.2] at c_50; cases c_50)]; exact hx2) (scM_trans hsa hsc47) (by omega) _ _ h ls (lv_sub hl [1, 2, 3, 0] rfl)
              · skip
                rw [hr47, bI_n] at c_50
                refine lv_iload_n hx hb dX8_whose_53 rfl (lv_at hl 2 rfl) ?_
                refine lv_iconst (v := 1) hx hb dX8_whose_54 (by decide) ?_
                refine lv_iload_n hx hb dX8_whose_55 rfl (lv_at hl 3 rfl) ?_
                refine lv_ishl hx hb dX8_whose_56 ?_
                refine lv_ior hx hb dX8_whose_57 ?_
                refine lv_topi (fun x2_58 ex2_58 => ?_)
                refine lv_istore_n (lv' := [(2, .int x2_58), (0, .ref (zg Z 116)), (1, .int x0), (3, .int x3)]) hx hb dX8_whose_58 rfl hl (by decide) rfl (fun ls hl => ?_)
                refine lv_iinc (v := (x3 + 1)) (lv' := [(3, .int (x3 + 1)), (2, .int x2_58), (0, .ref (zg Z 116)), (1, .int x0)]) hx hb dX8_whose_59 hl (k := 3) rfl rfl (by decide) rfl (fun ls hl => ?_)
                refine lv_goto (tgt := 27) hx hb dX8_whose_62 (by decide) ?_
                exact ih27 (i + 1) x2_58 (x3 + 1) v47 (by rw [hx3]; exact nI_1 _) (by omega) (by rw [ex2_58, hx2, hx3, whoF, if_pos ⟨by rw [xM_dead (show i < 6 by omega)]; exact c_41, c_50⟩]) (scM_trans hsa hsc47) (by omega) _ _ h ls (lv_sub hl [2, 3, 1, 0] rfl)
      exact L27 (n - 0 + 1) 0 0 0 v17 rfl (Nat.zero_le _) rfl hsc17 (Nat.lt_succ_self _) _ _ h ls (lv_sub hl [2, 3, 1, 0] rfl)
    · skip
      rw [hr17, bI_n] at c_20
      refine lv_iconst (v := 0) hx hb dX8_whose_23 (by decide) ?_
      exact g_iret X h dX8_whose_24 ⟨by simp only [sWhose, c_7, if_true, hkc, c_20], rfl, hsc17⟩
  · skip
    rw [hr4, bI_0] at c_7
    refine lv_bipush (v := (-2)) hx hb dX8_whose_10 (by decide) ?_
    exact g_iret X h dX8_whose_12 ⟨by simp [sWhose, c_7], rfl, scM_refl v⟩

set_option maxRecDepth 100000 in
set_option maxHeartbeats 1000000 in
theorem c_X8_change (gl : Launch) (Z : PL) (v : VV) (w : WV) (x0 : Int32) (i : Nat) (hi : x0 = nI i) (x1 : Int32) (j : Nat) (hj : x1 = nI j) (hi6 : i < 6) (hj6 : j < 6) : CT gl yX8_change cX8_change 4 none 0 0 Z [.ref (zg Z 116), .int x0, .int x1] v w (Qv Z (fun u => (swV v i j, w) = u)) := by
  refine g_met (by decide) (Nat.le_of_ble_eq_true rfl) ?_
  intro gp ge gs gm ga gb gh gc X h ls hl
  have hx := X.1
  have hb := X.2.1
  have hl : lv_has ls 4 [(0, .ref (zg Z 116)), (1, .int x0), (2, .int x1)] := hl
  refine lv_aload_n hx hb dX8_change_0 rfl (lv_at hl 0 rfl) ?_
  refine g_getr X h (k := 10) (t := 123) (cc_116) fr_RX8_30 rfl (by decide) (by decide) (by decide) dX8_change_1 ?_
  refine lv_iload_n hx hb dX8_change_4 rfl (lv_at hl 1 rfl) ?_
  refine g_iald X h (k := i) (cc_123) hi (by omega) (by decide) dX8_change_5 ?_
  refine lv_topi (fun x3_6 ex3_6 => ?_)
  refine lv_istore_n (lv' := [(3, .int x3_6), (0, .ref (zg Z 116)), (1, .int x0), (2, .int x1)]) hx hb dX8_change_6 rfl hl (by decide) rfl (fun ls hl => ?_)
  refine lv_aload_n hx hb dX8_change_7 rfl (lv_at hl 1 rfl) ?_
  refine g_getr X h (k := 10) (t := 123) (cc_116) fr_RX8_30 rfl (by decide) (by decide) (by decide) dX8_change_8 ?_
  refine lv_iload_n hx hb dX8_change_11 rfl (lv_at hl 2 rfl) ?_
  refine lv_aload_n hx hb dX8_change_12 rfl (lv_at hl 1 rfl) ?_
  refine g_getr X h (k := 10) (t := 123) (cc_116) fr_RX8_30 rfl (by decide) (by decide) (by decide) dX8_change_13 ?_
  refine lv_iload_n hx hb dX8_change_16 rfl (lv_at hl 3 rfl) ?_
  refine g_iald X h (k := j) (cc_123) hj (by omega) (by decide) dX8_change_17 ?_
  refine g_iast X h (k := i) (cc_123) hi (by omega) (by decide) dX8_change_18 (fun v18 H locs ev18 h => ?_)
  refine lv_aload_n hx hb dX8_change_19 rfl (lv_at hl 1 rfl) ?_
  refine g_getr X h (k := 10) (t := 123) (cc_116) fr_RX8_30 rfl (by decide) (by decide) (by decide) dX8_change_20 ?_
  refine lv_iload_n hx hb dX8_change_23 rfl (lv_at hl 3 rfl) ?_
  refine lv_iload_n hx hb dX8_change_24 rfl (lv_at hl 0 rfl) ?_
  refine g_iast X h (k := j) (cc_123) hj (by omega) (by decide) dX8_change_25 (fun v25 H locs ev25 h => ?_)
  exact g_vret X h dX8_change_26 (by rw [ev25, ev18, ex3_6]; rfl)

set_option maxRecDepth 100000 in
set_option maxHeartbeats 1000000 in
theorem c_X8_swap (gl : Launch) (Z : PL) (v : VV) (w : WV) (n : Nat) (B : Nat) (L : LND) (hd : DM v n B L) (hB40 : B + 40 < 1000000) : CT gl yX8_swap cX8_swap 6 (some .int) 10 226 Z [.ref (zg Z 116)] v w (Qi Z (fun r u => r = sSwap (xM v n L) L n ∧ (u.1, w) = u ∧ scM v u.1)) := by
  refine g_met (by decide) (Nat.le_of_ble_eq_true rfl) ?_
  intro gp ge gs gm ga gb gh gc X h ls hl
  have hx := X.1
  have hb := X.2.1
  have hl : lv_has ls 6 [(0, .ref (zg Z 116))] := hl
  obtain ⟨hn, h6, hwf, hcur, hrx, hB⟩ := id hd
  obtain ⟨q, hq6, hq, hqr⟩ := id hrx.2.2.2.2.1
  rw [xM_04] at hq
  refine lv_bipush (v := (-5)) hx hb dX8_swap_0 (by decide) ?_
  refine lv_istore_n (lv' := [(1, .int (-5)), (0, .ref (zg Z 116))]) hx hb dX8_swap_2 rfl hl (by decide) rfl (fun ls hl => ?_)
  refine lv_aload_n hx hb dX8_swap_3 rfl (lv_at hl 1 rfl) ?_
  refine lv_bipush (v := 40) hx hb dX8_swap_4 (by decide) ?_
  refine g_ki h (g_runV X h (As := [.int 40]) (rest := []) (c_X8_healthOn gl Z v w 40 40 rfl n B L hd (by first | assumption | omega)) mi_X8_healthOn ml_RX8_283 (cc_116) (by decide) kl8 rfl ⟨Nat.le_of_ble_eq_true rfl, Nat.le_of_ble_eq_true rfl⟩ rfl hl.1 rfl (Nat.le_of_ble_eq_true rfl) dX8_swap_6) (fun r6 v6 w6 H locs hp6 h => ?_)
  obtain ⟨hr6, hw6, hsc6⟩ := hp6
  obtain ⟨-, rfl⟩ := Prod.mk.inj hw6
  replace hsc6 : scM _ v6 := hsc6
  replace hr6 : r6 = wellS (xM v n L) L n := hr6
  refine lv_istore_n (lv' := [(2, .int r6), (1, .int (-5)), (0, .ref (zg Z 116))]) hx hb dX8_swap_9 rfl hl (by decide) rfl (fun ls hl => ?_)
  refine lv_iconst (v := 0) hx hb dX8_swap_10 (by decide) ?_
  refine lv_istore_n (lv' := [(3, .int 0), (2, .int r6), (1, .int (-5)), (0, .ref (zg Z 116))]) hx hb dX8_swap_11 rfl hl (by decide) rfl (fun ls hl => ?_)
  have L12 : ∀ (n12 : Nat) (i : Nat) (x1 x2 x3 : Int32) (va : VV), (x3 = nI i) → (i ≤ q) → ((x2, x1) = swapO (xM v n L) L n q i) → (scM v va) → q - i < n12 → ∀ (H : Heap) (locs : List Loc), HS Z gs va w H locs → ∀ ls : Array Slot, lv_has ls 6 [(0, .ref (zg Z 116)), (1, .int x1), (2, .int x2), (3, .int x3)] → W gp gl ge (rmm 10 226) gs gm ga gb gh gc H locs 0 0 (MQ gb (Qi Z (fun r u => r = sSwap (xM v n L) L n ∧ (u.1, w) = u ∧ scM v u.1)) ga gs 0 0 (zA Z)) (F0 gm 12 ls []) := by
    intro n12
    induction n12 with
    | zero => intro i x1 x2 x3 va hx3 hi hpo hsa hmu; exact absurd hmu (Nat.not_lt_zero _)
    | succ n12 ih12 =>
      intro i x1 x2 x3 va hx3 hi hpo hsa hmu12 H locs h ls hl
      refine lv_iload_n hx hb dX8_swap_12 rfl (lv_at hl 3 rfl) ?_
      refine lv_aload_n hx hb dX8_swap_13 rfl (lv_at hl 0 rfl) ?_
      refine g_geti X h (k := 9) (cc_116) fr_RX8_139 rfl (by decide) dX8_swap_14 ?_
      refine g_tr (y := (v 116 9)) (by simp [(scM.at hsa), up2, upc]) ?_
      refine lv_icmp_ge (tgt := 88) hx hb dX8_swap_17 (by decide) (fun c_17 => ?_) (fun c_17 => ?_)
      · skip
        have hiq := nI_le1 (a := q) (b := i) hq hx3 (by omega) (by omega) c_17
        refine lv_iload_n hx hb dX8_swap_88 rfl (lv_at hl 1 rfl) ?_
        exact g_iret X h dX8_swap_89 (by have e : i = q := (by omega); subst e; exact ⟨by rw [sSwap, xM_04, hq, nI_clamp (by omega), ← hpo], rfl, hsa⟩)
      · skip
        have hiq := nI_le0 (a := q) (b := i) hq hx3 (by omega) (by omega) c_17
        refine lv_iload_n hx hb dX8_swap_20 rfl (lv_at hl 3 rfl) ?_
        refine lv_iconst (v := 1) hx hb dX8_swap_21 (by decide) ?_
        refine lv_iadd hx hb dX8_swap_22 ?_
        refine lv_topi (fun x4_23 ex4_23 => ?_)
        refine lv_istore (lv' := [(4, .int x4_23), (0, .ref (zg Z 116)), (1, .int x1), (2, .int x2), (3, .int x3)]) hx hb dX8_swap_23 hl (by decide) rfl (fun ls hl => ?_)
        have L25 : ∀ (n25 : Nat) (k : Nat) (x1 x2 x4 : Int32) (vb : VV), (x4 = nI (i + 1 + k)) → (i + 1 + k ≤ q) → ((x2, x1) = swapI (xM v n L) L n i (swapO (xM v n L) L n q i) k) → (scM v vb) → q - k < n25 → ∀ (H : Heap) (locs : List Loc), HS Z gs vb w H locs → ∀ ls : Array Slot, lv_has ls 6 [(0, .ref (zg Z 116)), (1, .int x1), (2, .int x2), (3, .int x3), (4, .int x4)] → W gp gl ge (rmm 10 226) gs gm ga gb gh gc H locs 0 0 (MQ gb (Qi Z (fun r u => r = sSwap (xM v n L) L n ∧ (u.1, w) = u ∧ scM v u.1)) ga gs 0 0 (zA Z)) (F0 gm 25 ls []) := by
          intro n25
          induction n25 with
          | zero => intro k x1 x2 x4 vb hx4 hk hpr hsb hmu; exact absurd hmu (Nat.not_lt_zero _)
          | succ n25 ih25 =>
            intro k x1 x2 x4 vb hx4 hk hpr hsb hmu25 H locs h ls hl
            refine lv_iload hx hb dX8_swap_25 (lv_at hl 4 rfl) ?_
            refine lv_aload_n hx hb dX8_swap_27 rfl (lv_at hl 0 rfl) ?_
            refine g_geti X h (k := 9) (cc_116) fr_RX8_139 rfl (by decide) dX8_swap_28 ?_
            refine g_tr (y := (v 116 9)) (by simp [(scM.at hsb), up2, upc]) ?_
            refine lv_icmp_ge (tgt := 82) hx hb dX8_swap_31 (by decide) (fun c_31 => ?_) (fun c_31 => ?_)
            · skip
              have hkq := nI_le1 (a := q) (b := (i + 1 + k)) hq hx4 (by omega) (by omega) c_31
              refine lv_iinc (v := (x3 + 1)) (lv' := [(3, .int (x3 + 1)), (0, .ref (zg Z 116)), (1, .int x1), (2, .int x2), (4, .int x4)]) hx hb dX8_swap_82 hl (k := 3) rfl rfl (by decide) rfl (fun ls hl => ?_)
              refine lv_goto (tgt := 12) hx hb dX8_swap_85 (by decide) ?_
              exact ih12 (i + 1) x1 x2 (x3 + 1) vb (by rw [hx3]; exact nI_1 _) (by omega) (by rw [hpr, show k = q - (i + 1) by omega]; rfl) hsb (by omega) _ _ h ls (lv_sub hl [1, 2, 3, 0] rfl)
            · skip
              have hkq := nI_le0 (a := q) (b := (i + 1 + k)) hq hx4 (by omega) (by omega) c_31
              refine lv_aload_n hx hb dX8_swap_34 rfl (lv_at hl 0 rfl) ?_
              refine lv_iload_n hx hb dX8_swap_35 rfl (lv_at hl 3 rfl) ?_
              refine lv_iload hx hb dX8_swap_36 (lv_at hl 4 rfl) ?_
              refine g_kv h (g_runV X h (As := [.int x3, .int x4]) (rest := []) (c_X8_change gl Z vb w x3 i hx3 x4 (i + 1 + k) hx4 (by first | assumption | omega) (by first | assumption | omega)) mi_X8_change ml_RX8_289 (cc_116) (by decide) kl8 rfl ⟨Nat.le_of_ble_eq_true rfl, Nat.le_of_ble_eq_true rfl⟩ rfl hl.1 rfl (Nat.le_of_ble_eq_true rfl) dX8_swap_38) (fun v38 w38 H locs hp38 h => ?_)
              obtain ⟨ev38, rfl⟩ := Prod.mk.inj hp38
              replace ev38 := ev38.symm
              refine lv_aload_n hx hb dX8_swap_41 rfl (lv_at hl 0 rfl) ?_
              refine lv_bipush (v := 40) hx hb dX8_swap_42 (by decide) ?_
              refine g_ki h (g_runV X h (As := [.int 40]) (rest := []) (c_X8_healthOn gl Z v38 w 40 40 rfl n B L ((by rw [ev38]; exact sc_swap hsb : scM (swV v i (i + 1 + k)) v38).DM (DM_sw hd hq hq6 hiq hkq)) (by first | assumption | omega)) mi_X8_healthOn ml_RX8_283 (cc_116) (by decide) kl8 rfl ⟨Nat.le_of_ble_eq_true rfl, Nat.le_of_ble_eq_true rfl⟩ rfl hl.1 rfl (Nat.le_of_ble_eq_true rfl) dX8_swap_44) (fun r44 v44 w44 H locs hp44 h => ?_)
              obtain ⟨hr44, hw44, hsc44⟩ := hp44
              obtain ⟨-, rfl⟩ := Prod.mk.inj hw44
              replace hsc44 : scM _ v44 := hsc44
              rw [(by rw [ev38]; exact sc_swap hsb : scM (swV v i (i + 1 + k)) v38).xM, xM_sw (by omega) (by omega)] at hr44
              replace hr44 : r44 = wellS (swapX (xM v n L) i (i + 1 + k)) L n := hr44
              refine lv_istore (lv' := [(5, .int r44), (0, .ref (zg Z 116)), (1, .int x1), (2, .int x2), (3, .int x3), (4, .int x4)]) hx hb dX8_swap_47 hl (by decide) rfl (fun ls hl => ?_)
              refine lv_aload_n hx hb dX8_swap_49 rfl (lv_at hl 1 rfl) ?_
              refine lv_iload_n hx hb dX8_swap_50 rfl (lv_at hl 4 rfl) ?_
              refine lv_iload hx hb dX8_swap_51 (lv_at hl 5 rfl) ?_
              refine g_kv h (g_runV X h (As := [.int x3, .int x4]) (rest := []) (c_X8_change gl Z v44 w x3 i hx3 x4 (i + 1 + k) hx4 (by first | assumption | omega) (by first | assumption | omega)) mi_X8_change ml_RX8_289 (cc_116) (by decide) kl8 rfl ⟨Nat.le_of_ble_eq_true rfl, Nat.le_of_ble_eq_true rfl⟩ rfl hl.1 rfl (Nat.le_of_ble_eq_true rfl) dX8_swap_53) (fun v53 w53 H locs hp53 h => ?_)
              obtain ⟨ev53, rfl⟩ := Prod.mk.inj hp53
              replace ev53 := ev53.symm
              refine lv_iload hx hb dX8_swap_56 (lv_at hl 0 rfl) ?_
              refine lv_iload_n hx hb dX8_swap_58 rfl (lv_at hl 3 rfl) ?_
              refine lv_icmp_gt (tgt := 65) hx hb dX8_swap_59 (by decide) (fun c_59 => ?_) (fun c_59 => ?_)
              · skip
                refine lv_iload hx hb dX8_swap_65 (lv_at hl 0 rfl) ?_
                refine lv_istore_n (lv' := [(2, .int r44), (5, .int r44), (0, .ref (zg Z 116)), (1, .int x1), (3, .int x3), (4, .int x4)]) hx hb dX8_swap_67 rfl hl (by decide) rfl (fun ls hl => ?_)
                refine lv_bipush (v := 10) hx hb dX8_swap_68 (by decide) ?_
                refine lv_iload_n hx hb dX8_swap_70 rfl (lv_at hl 4 rfl) ?_
                refine lv_imul hx hb dX8_swap_71 ?_
                refine lv_iload hx hb dX8_swap_72 (lv_at hl 5 rfl) ?_
                refine lv_iadd hx hb dX8_swap_74 ?_
                refine lv_topi (fun x1_75 ex1_75 => ?_)
                refine lv_istore_n (lv' := [(1, .int x1_75), (2, .int r44), (5, .int r44), (0, .ref (zg Z 116)), (3, .int x3), (4, .int x4)]) hx hb dX8_swap_75 rfl hl (by decide) rfl (fun ls hl => ?_)
                refine lv_iinc (v := (x4 + 1)) (lv' := [(4, .int (x4 + 1)), (1, .int x1_75), (2, .int r44), (5, .int r44), (0, .ref (zg Z 116)), (3, .int x3)]) hx hb dX8_swap_76 hl (k := 5) rfl rfl (by decide) rfl (fun ls hl => ?_)
                refine lv_goto (tgt := 25) hx hb dX8_swap_79 (by decide) ?_
                exact ih25 (k + 1) x1_75 r44 (x4 + 1) v53 (by rw [hx4, show i + 1 + (k + 1) = i + 1 + k + 1 by omega]; exact nI_1 _) (by omega) (by show _ = swapS _ _ _ _ _ _; rw [swapS, ← hpr, ← hr44, if_pos c_59, ex1_75, hx3, hx4]) (by have z := sc_swap (i := i) (j := i + 1 + k) hsc44; rw [ev38, sw_sw (by omega), ← ev53] at z; exact scM_trans hsb z) (by omega) _ _ h ls (lv_sub hl [4, 1, 2, 5, 0] rfl)
              · skip
                refine lv_goto (tgt := 76) hx hb dX8_swap_62 (by decide) ?_
                refine lv_iinc (v := (x4 + 1)) (lv' := [(4, .int (x4 + 1)), (5, .int r44), (0, .ref (zg Z 116)), (1, .int x1), (2, .int x2), (3, .int x3)]) hx hb dX8_swap_76 hl (k := 5) rfl rfl (by decide) rfl (fun ls hl => ?_)
                refine lv_goto (tgt := 25) hx hb dX8_swap_79 (by decide) ?_
                exact ih25 (k + 1) x1 x2 (x4 + 1) v53 (by rw [hx4, show i + 1 + (k + 1) = i + 1 + k + 1 by omega]; exact nI_1 _) (by omega) (by show _ = swapS _ _ _ _ _ _; rw [swapS, ← hpr, ← hr44, if_neg c_59]) (by have z := sc_swap (i := i) (j := i + 1 + k) hsc44; rw [ev38, sw_sw (by omega), ← ev53] at z; exact scM_trans hsb z) (by omega) _ _ h ls (lv_sub hl [2, 3, 4, 5, 0] rfl)
        exact L25 (q - 0 + 1) 0 x1 x2 x4_23 va (by rw [ex4_23, hx3]; exact nI_add i 1) (by omega) hpo hsa (Nat.lt_succ_self _) _ _ h ls (lv_sub hl [1, 2, 3, 4, 0] rfl)
  exact L12 (q - 0 + 1) 0 (-5) r6 0 v6 rfl (Nat.zero_le _) (by rw [hr6]; rfl) hsc6 (Nat.lt_succ_self _) _ _ h ls (lv_sub hl [3, 2, 1, 0] rfl)
