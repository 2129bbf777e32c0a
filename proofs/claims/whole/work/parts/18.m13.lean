/-! the reader: what it answers (good, where it stands, tokens) -/
abbrev RD : Type := Bool × Nat × List Nat
def tstR (t : Nat → Int32) (z a : Nat) : RD :=
  if a < z ∧ 0 < t a ∧ ¬ ixS 5 (t a) < 0 then
    if a + 1 < z ∧ 0 < t (a + 1) ∧ ¬ ixS 6 (t (a + 1)) < 0 then
      if nmC t z (a + 2) = 0 then (false, a + 2, [])
      else (true, a + 2 + nmC t z (a + 2), [3 + 300 * (ixS 5 (t a)).toNatClampNeg + 100 * (ixS 6 (t (a + 1))).toNatClampNeg + nmV t (a + 2) (nmC t z (a + 2))])
    else (false, a + 1, [])
  else (false, a, [])
/-- on and on, while the sign stands there -/
def rdL (q : Nat → RD) (t : Nat → Int32) (z : Nat) (x : Int32) (s : Nat) : Nat → Nat → List Nat → RD
  | 0, a, l => (true, a, l)
  | f + 1, a, l => if isAt t z a x then (if (q (a + 1)).1 then rdL q t z x s f (q (a + 1)).2.1 (l ++ (q (a + 1)).2.2 ++ [s]) else (false, (q (a + 1)).2.1, [])) else (true, a, l)
def rdT (q : Nat → RD) (t : Nat → Int32) (z : Nat) (x : Int32) (s : Nat) (a : Nat) : RD := if (q a).1 then rdL q t z x s (z - (q a).2.1) (q a).2.1 (q a).2.2 else (false, (q a).2.1, [])
def rdF (t : Nat → Int32) (z : Nat) : Nat → Nat → RD
  | 0, a => tstR t z a
  | d + 1, a =>
    if isAt t z a 33 then (if (rdF t z d (a + 1)).1 then (true, (rdF t z d (a + 1)).2.1, (rdF t z d (a + 1)).2.2 ++ [2]) else (false, (rdF t z d (a + 1)).2.1, []))
    else if isAt t z a 40 then
      (let r := rdT (rdT (rdF t z d) t z 38 0) t z 124 1 (a + 1)
       if r.1 then (if isAt t z r.2.1 41 then (true, r.2.1 + 1, r.2.2) else (false, r.2.1, [])) else (false, r.2.1, []))
    else tstR t z a
def rdA (t : Nat → Int32) (z d : Nat) : Nat → RD := rdT (rdF t z d) t z 38 0
def rdE (t : Nat → Int32) (z d : Nat) : Nat → RD := rdT (rdA t z d) t z 124 1
/-- where a reader leaves the text -/
def rdG (q : Nat → RD) (z : Nat) : Prop := ∀ a, a ≤ z → a ≤ (q a).2.1 ∧ (q a).2.1 ≤ z ∧ ((q a).1 = true → 1 ≤ (q a).2.2.length ∧ (q a).2.2.length + a ≤ (q a).2.1)
theorem nmC_le {t : Nat → Int32} {z a : Nat} (h : a ≤ z) : a + nmC t z a ≤ z := by
  unfold nmC
  split
  · rename_i e
    have := dig_lt e
    split
    · rename_i e2
      have := dig_lt e2
      omega
    · omega
  · omega
theorem nmC_2 (t : Nat → Int32) (z a : Nat) : nmC t z a ≤ 2 := by
  unfold nmC
  split
  · split <;> omega
  · omega
theorem nmC_dig {t : Nat → Int32} {z a j : Nat} (h : j < nmC t z a) : dig t z (a + j) = true := by
  unfold nmC at h
  split at h
  · rename_i e
    split at h
    · rename_i e2
      rcases (show j = 0 ∨ j = 1 by omega) with rfl | rfl
      · exact e
      · exact e2
    · rw [show j = 0 by omega]; exact e
  · omega
theorem tstR_G (t : Nat → Int32) (z : Nat) : rdG (tstR t z) z := by
  intro a ha
  unfold tstR
  split
  · rename_i h1
    split
    · rename_i h2
      have := nmC_le (t := t) (z := z) (a := a + 2) (by omega)
      split
      · exact ⟨by show a ≤ a + 2; omega, by show a + 2 ≤ z; omega, fun q => by cases q⟩
      · exact ⟨by show a ≤ a + 2 + _; omega, this, fun _ => ⟨Nat.le_refl _, by show 1 + a ≤ a + 2 + _; omega⟩⟩
    · exact ⟨by show a ≤ a + 1; omega, by show a + 1 ≤ z; omega, fun q => by cases q⟩
  · exact ⟨Nat.le_refl _, ha, fun q => by cases q⟩
theorem rdL_G {q : Nat → RD} {t : Nat → Int32} {z : Nat} {x : Int32} {s : Nat} (hq : rdG q z) : ∀ (f a : Nat) (l : List Nat) (b : Nat), b ≤ a → a ≤ z → 1 ≤ l.length → l.length + b ≤ a → b ≤ (rdL q t z x s f a l).2.1 ∧ (rdL q t z x s f a l).2.1 ≤ z ∧ ((rdL q t z x s f a l).1 = true → 1 ≤ (rdL q t z x s f a l).2.2.length ∧ (rdL q t z x s f a l).2.2.length + b ≤ (rdL q t z x s f a l).2.1) := by
  intro f
  induction f with
  | zero => intro a l b h1 h2 h3 h4; exact ⟨h1, h2, fun _ => ⟨h3, h4⟩⟩
  | succ f ih =>
    intro a l b h1 h2 h3 h4
    unfold rdL
    by_cases e : isAt t z a x = true
    · rw [if_pos e]
      have hlt := isAt_lt e
      obtain ⟨g1, g2, g3⟩ := hq (a + 1) (by omega)
      by_cases e2 : (q (a + 1)).1 = true
      · rw [if_pos e2]
        obtain ⟨g4, g5⟩ := g3 e2
        exact ih _ _ b (by omega) g2 (by simp only [List.length_append, List.length_singleton]; omega) (by simp only [List.length_append, List.length_singleton]; omega)
      · rw [if_neg e2]
        exact ⟨by show b ≤ (q (a + 1)).2.1; omega, g2, fun q => by cases q⟩
    · rw [if_neg e]
      exact ⟨h1, h2, fun _ => ⟨h3, h4⟩⟩
theorem rdT_G {q : Nat → RD} {t : Nat → Int32} {z : Nat} {x : Int32} {s : Nat} (hq : rdG q z) : rdG (rdT q t z x s) z := by
  intro a ha
  obtain ⟨g1, g2, g3⟩ := hq a ha
  unfold rdT
  by_cases e : (q a).1 = true
  · rw [if_pos e]
    obtain ⟨g4, g5⟩ := g3 e
    exact rdL_G hq _ _ _ a g1 g2 g4 g5
  · rw [if_neg e]
    exact ⟨g1, g2, fun q => by cases q⟩
theorem rdF_G (t : Nat → Int32) (z : Nat) : ∀ d, rdG (rdF t z d) z := by
  intro d
  induction d with
  | zero => exact tstR_G t z
  | succ d ih =>
    intro a ha
    unfold rdF
    by_cases e : isAt t z a 33 = true
    · rw [if_pos e]
      have hlt := isAt_lt e
      obtain ⟨g1, g2, g3⟩ := ih (a + 1) (by omega)
      by_cases e2 : (rdF t z d (a + 1)).1 = true
      · rw [if_pos e2]
        obtain ⟨g4, g5⟩ := g3 e2
        exact ⟨by show a ≤ (rdF t z d (a + 1)).2.1; omega, g2, fun _ => by simp only [List.length_append, List.length_singleton]; omega⟩
      · rw [if_neg e2]
        exact ⟨by show a ≤ (rdF t z d (a + 1)).2.1; omega, g2, fun q => by cases q⟩
    · rw [if_neg e]
      by_cases e3 : isAt t z a 40 = true
      · rw [if_pos e3]
        have hlt := isAt_lt e3
        obtain ⟨g1, g2, g3⟩ := rdT_G (t := t) (x := 124) (s := 1) (rdT_G (t := t) (x := 38) (s := 0) ih) (a + 1) (by omega)
        dsimp only
        generalize rdT (rdT (rdF t z d) t z 38 0) t z 124 1 (a + 1) = r at g1 g2 g3 ⊢
        by_cases e2 : r.1 = true
        · rw [if_pos e2]
          obtain ⟨g4, g5⟩ := g3 e2
          by_cases e4 : isAt t z r.2.1 41 = true
          · rw [if_pos e4]
            have := isAt_lt e4
            exact ⟨by show a ≤ r.2.1 + 1; omega, by show r.2.1 + 1 ≤ z; omega, fun _ => ⟨g4, by show r.2.2.length + a ≤ r.2.1 + 1; omega⟩⟩
          · rw [if_neg e4]
            exact ⟨by show a ≤ r.2.1; omega, g2, fun q => by cases q⟩
        · rw [if_neg e2]
          exact ⟨by show a ≤ r.2.1; omega, g2, fun q => by cases q⟩
      · rw [if_neg e3]
        exact tstR_G t z a ha
theorem rdA_G (t : Nat → Int32) (z d : Nat) : rdG (rdA t z d) z := rdT_G (rdF_G t z d)
theorem rdE_G (t : Nat → Int32) (z d : Nat) : rdG (rdE t z d) z := rdT_G (rdA_G t z d)
/-! the reference's state as it reads -/
def PS (v : VV) (t : Nat → Int32) (z a c o : Nat) : Prop := v 124 = t ∧ v 116 12 = nI z ∧ v 116 23 = nI a ∧ v 116 22 = nI c ∧ v 116 24 = nI o ∧ z ≤ 100 ∧ a ≤ z ∧ c + (z - a) ≤ 1000
def PF (c : Nat) (v u : VV) : Prop := (∀ i, i ≠ 116 → i ≠ 130 → u i = v i) ∧ (∀ k, k < 22 ∨ 26 < k → u 116 k = v 116 k) ∧ ∀ k, k < c → u 130 k = v 130 k
def TK (u : VV) (c : Nat) (l : List Nat) : Prop := ∀ k, k < l.length → u 130 (c + k) = nI (l.getD k 0)
def PR (t : Nat → Int32) (z c o : Nat) (v u : VV) (r : RD) : Prop := PF c v u ∧ u 116 23 = nI r.2.1 ∧ (r.1 = true → PS u t z r.2.1 (c + r.2.2.length) o ∧ TK u c r.2.2)
theorem PF_refl (c : Nat) (v : VV) : PF c v v := ⟨fun _ _ _ => rfl, fun _ _ => rfl, fun _ _ => rfl⟩
theorem PF_trans {c d : Nat} {v u x : VV} (h : PF c v u) (g : PF d u x) (hcd : c ≤ d) : PF c v x := ⟨fun i a b => (g.1 i a b).trans (h.1 i a b), fun k a => (g.2.1 k a).trans (h.2.1 k a), fun k a => (g.2.2 k (by omega)).trans (h.2.2 k a)⟩
theorem PF_up {c k : Nat} {v u : VV} {x : Int32} (h : PF c v u) (hk : 22 ≤ k ∧ k ≤ 26) : PF c v (up2 u 116 k x) := ⟨fun i a b => (up2_ne a).trans (h.1 i a b), fun j a => by rw [up2_at, if_neg (by omega)]; exact h.2.1 j a, fun j a => by rw [up2_ne (by decide)]; exact h.2.2 j a⟩
theorem PF_code {c q : Nat} {v u : VV} {x : Int32} (h : PF c v u) (hq : c ≤ q) : PF c v (up2 u 130 q x) := ⟨fun i a b => (up2_ne b).trans (h.1 i a b), fun j a => by rw [up2_ne (by decide)]; exact h.2.1 j a, fun j a => by rw [up2_at, if_neg (by omega)]; exact h.2.2 j a⟩
theorem PF_num {c a k : Nat} {v u : VV} {t : Nat → Int32} (h : PF c v u) : PF c v (numU u t a k) := PF_up (PF_up (PF_up h (by decide)) (by decide)) (by decide)
theorem PS_at {v : VV} {t : Nat → Int32} {z a c o b : Nat} (h : PS v t z a c o) (hb : a ≤ b) (hbz : b ≤ z) : PS (up2 v 116 23 (nI b)) t z b c o := by
  obtain ⟨h1, h2, h3, h4, h5, h6, h7, h8⟩ := h
  exact ⟨by rw [up2_ne (by decide)]; exact h1, by rw [up2_at, if_neg (by decide)]; exact h2, by rw [up2_at, if_pos rfl], by rw [up2_at, if_neg (by decide)]; exact h4, by rw [up2_at, if_neg (by decide)]; exact h5, h6, hbz, by omega⟩
theorem PS_num {v : VV} {t : Nat → Int32} {z a c o k : Nat} (h : PS v t z a c o) (hk : a + k ≤ z) : PS (numU v t a k) t z (a + k) c o := by
  obtain ⟨h1, h2, h3, h4, h5, h6, h7, h8⟩ := h
  exact ⟨by rw [numU_i (by decide)]; exact h1, by rw [numU_k (by decide)]; exact h2, numU_23, by rw [numU_k (by decide)]; exact h4, by rw [numU_k (by decide)]; exact h5, h6, hk, by omega⟩
/-- one token more -/
theorem PS_code {v : VV} {t : Nat → Int32} {z a c o : Nat} {x : Int32} (h : PS v t z a c o) (hc : c + 1 + (z - a) ≤ 1000) : PS (up2 (up2 v 116 22 (nI (c + 1))) 130 c x) t z a (c + 1) o := by
  obtain ⟨h1, h2, h3, h4, h5, h6, h7, h8⟩ := h
  exact ⟨by rw [up2_ne (by decide), up2_ne (by decide)]; exact h1, by rw [up2_ne (by decide), up2_at, if_neg (by decide)]; exact h2, by rw [up2_ne (by decide), up2_at, if_neg (by decide)]; exact h3, by rw [up2_ne (by decide), up2_at, if_pos rfl], by rw [up2_ne (by decide), up2_at, if_neg (by decide)]; exact h5, h6, h7, hc⟩
theorem TK_nil (u : VV) (c : Nat) : TK u c [] := fun k hk => absurd hk (Nat.not_lt_zero _)
theorem TK_snoc {u : VV} {c s : Nat} {l : List Nat} {y : Int32} (h : TK u c l) : TK (up2 (up2 u 116 22 y) 130 (c + l.length) (nI s)) c (l ++ [s]) := by
  intro k hk
  rw [List.length_append, List.length_singleton] at hk
  rw [up2_at]
  by_cases e : k = l.length
  · rw [if_pos (by omega), e]; simp [List.getD]
  · rw [if_neg (by omega), up2_ne (by decide), h k (by omega)]; simp [List.getD, List.getElem?_append_left (show k < l.length by omega)]
theorem TK_app {u w : VV} {c : Nat} {l m : List Nat} (h : TK u c l) (hf : PF (c + l.length) u w) (h2 : TK w (c + l.length) m) : TK w c (l ++ m) := by
  intro k hk
  rw [List.length_append] at hk
  rcases Nat.lt_or_ge k l.length with e | e
  · rw [hf.2.2 _ (by omega), h k e]; simp [List.getD, List.getElem?_append_left e]
  · have := h2 (k - l.length) (by omega)
    rw [show c + l.length + (k - l.length) = c + k by omega] at this
    rw [this]; simp [List.getD, List.getElem?_append_right e]
theorem ixS_nat {i : Nat} {x : Int32} (h : i < 12) (hx : ¬ ixS i x < 0) : ∃ k, ixS i x = nI k ∧ k < strN i := by
  obtain ⟨-, -, -, hl, -⟩ := str_all i h
  have h8 := strN_lt h
  have key : ∀ (l : List Int32) (k : Nat), k + l.length = strN i → ¬ ixF x l k < 0 → ∃ j, ixF x l k = nI j ∧ j < strN i := by
    intro l
    induction l with
    | nil => intro k _ hx; exact absurd (show (-1 : Int32) < 0 by decide) hx
    | cons b l ih =>
      intro k hk hx
      rw [List.length_cons] at hk
      by_cases e : b = x
      · exact ⟨k, by rw [ixF, if_pos e], by omega⟩
      · rw [ixF, if_neg e] at hx ⊢
        exact ih (k + 1) (by omega) hx
  exact key _ 0 (by rw [hl]; omega) hx
theorem up23 (v : VV) (x : Int32) : up2 v 116 23 x 116 23 = x := by rw [up2_at, if_pos rfl]
theorem rd_no {t : Nat → Int32} {z c o b : Nat} {v u : VV} (hF : PF c v u) (ha : u 116 23 = nI b) : PR t z c o v u (false, b, []) := ⟨hF, ha, fun q => by cases q⟩
theorem rd_yes {t : Nat → Int32} {z c o b : Nat} {v u : VV} {l : List Nat} (hF : PF c v u) (hP : PS u t z b (c + l.length) o) (hT : TK u c l) : PR t z c o v u (true, b, l) := ⟨hF, hP.2.2.1, fun _ => ⟨hP, hT⟩⟩
theorem rd_out {r : Int32} {e R : RD} {t : Nat → Int32} {z c o : Nat} {v u : VV} {w : WV} (he : e = R) (hr : r = bI R.1) (h : PR t z c o v u R) : r = bI e.1 ∧ (u, w) = (u, w) ∧ PR t z c o v u e := by subst he; exact ⟨hr, rfl, h⟩
set_option maxRecDepth 100000 in
set_option maxHeartbeats 1000000 in
theorem c_X8_isTest (gl : Launch) (Z : PL) (v : VV) (w : WV) (t : Nat → Int32) (z : Nat) (a : Nat) (c : Nat) (o : Nat) (hP : PS v t z a c o) : CT gl yX8_isTest cX8_isTest 3 (some .boolean) 4 91 Z [.ref (zg Z 116)] v w (Qi Z (fun r u => r = bI (tstR t z a).1 ∧ (u.1, w) = u ∧ PR t z c o v u.1 (tstR t z a))) := by
  refine g_met (by decide) (Nat.le_of_ble_eq_true rfl) ?_
  intro gp ge gs gm ga gb gh gc X h ls hl
  have hx := X.1
  have hb := X.2.1
  have hl : lv_has ls 3 [(0, .ref (zg Z 116))] := hl
  obtain ⟨rfl, hz, ha, hc, ho, hz1, haz, hcb⟩ := id hP
  refine lv_aload_n hx hb dX8_isTest_0 rfl (lv_at hl 0 rfl) ?_
  refine g_geti X h (k := 23) (cc_116) fr_RX8_145 rfl (by decide) dX8_isTest_1 ?_
  refine lv_aload_n hx hb dX8_isTest_4 rfl (lv_at hl 0 rfl) ?_
  refine g_geti X h (k := 12) (cc_116) fr_RX8_142 rfl (by decide) dX8_isTest_5 ?_
  refine lv_icmp_ge (tgt := 40) hx hb dX8_isTest_8 (by decide) (fun c_8 => ?_) (fun c_8 => ?_)
  · skip
    have hq := nI_le1 (a := z) (b := a) hz ha (by omega) (by omega) c_8
    refine lv_iconst (v := (-1)) hx hb dX8_isTest_40 (by decide) ?_
    refine lv_istore_n (lv' := [(1, .int (-1)), (0, .ref (zg Z 116))]) hx hb dX8_isTest_41 rfl hl (by decide) rfl (fun ls hl => ?_)
    refine lv_iload_n hx hb dX8_isTest_42 rfl (lv_at hl 0 rfl) ?_
    refine lv_if_ge (tgt := 48) hx hb dX8_isTest_43 (by decide) (fun c_43 => ?_) (fun c_43 => ?_)
    · exact absurd c_43 (by decide)
    · skip
      refine lv_iconst (v := 0) hx hb dX8_isTest_46 (by decide) ?_
      exact g_nret X h dX8_isTest_47 rfl (rd_out (by rw [tstR, if_neg (by omega)]) rfl (rd_no (PF_refl _ _) ha))
  · skip
    have hq := nI_le0 (a := z) (b := a) hz ha (by omega) (by omega) c_8
    refine lv_aload_n hx hb dX8_isTest_11 rfl (lv_at hl 0 rfl) ?_
    refine g_getr X h (k := 13) (t := 124) (cc_116) fr_RX8_33 rfl (by decide) (by decide) (by decide) dX8_isTest_12 ?_
    refine lv_aload_n hx hb dX8_isTest_15 rfl (lv_at hl 0 rfl) ?_
    refine g_geti X h (k := 23) (cc_116) fr_RX8_145 rfl (by decide) dX8_isTest_16 ?_
    refine g_iald X h (k := a) (cc_124) ha (by omega) (by decide) dX8_isTest_19 ?_
    refine lv_if_le (tgt := 40) hx hb dX8_isTest_20 (by decide) (fun c_20 => ?_) (fun c_20 => ?_)
    · skip
      refine lv_iconst (v := (-1)) hx hb dX8_isTest_40 (by decide) ?_
      refine lv_istore_n (lv' := [(1, .int (-1)), (0, .ref (zg Z 116))]) hx hb dX8_isTest_41 rfl hl (by decide) rfl (fun ls hl => ?_)
      refine lv_iload_n hx hb dX8_isTest_42 rfl (lv_at hl 0 rfl) ?_
      refine lv_if_ge (tgt := 48) hx hb dX8_isTest_43 (by decide) (fun c_43 => ?_) (fun c_43 => ?_)
      · exact absurd c_43 (by decide)
      · skip
        refine lv_iconst (v := 0) hx hb dX8_isTest_46 (by decide) ?_
        exact g_nret X h dX8_isTest_47 rfl (rd_out (by rw [tstR, if_neg (fun q => absurd q.2.1 (Int32.not_lt.mpr c_20))]) rfl (rd_no (PF_refl _ _) ha))
    · skip
      refine g_ldcs X sE_12 dX8_isTest_23 ?_
      refine lv_aload_n hx hb dX8_isTest_25 rfl (lv_at hl 0 rfl) ?_
      refine g_getr X h (k := 13) (t := 124) (cc_116) fr_RX8_33 rfl (by decide) (by decide) (by decide) dX8_isTest_26 ?_
      refine lv_aload_n hx hb dX8_isTest_29 rfl (lv_at hl 0 rfl) ?_
      refine g_geti X h (k := 23) (cc_116) fr_RX8_145 rfl (by decide) dX8_isTest_30 ?_
      refine g_iald X h (k := a) (cc_124) ha (by omega) (by decide) dX8_isTest_33 ?_
      refine g_ki h (g_runVs X h (As := [.int (v 124 a)]) (rest := []) (c_J0_indexOf_0f7a4 gl Z v w 5 (by first | decide | assumption) (v 124 a)) mi_J0_indexOf_0f7a4 ml_RX8_175 (by decide) rfl ⟨Nat.le_of_ble_eq_true rfl, Nat.le_of_ble_eq_true rfl⟩ rfl hl.1 rfl (Nat.le_of_ble_eq_true rfl) dX8_isTest_34) (fun r34 v34 w34 H locs hp34 h => ?_)
      obtain ⟨hr34, hu34⟩ := hp34; obtain ⟨rfl, rfl⟩ := Prod.mk.inj hu34
      refine lv_goto (tgt := 41) hx hb dX8_isTest_37 (by decide) ?_
      refine lv_istore_n (lv' := [(1, .int r34), (0, .ref (zg Z 116))]) hx hb dX8_isTest_41 rfl hl (by decide) rfl (fun ls hl => ?_)
      refine lv_iload_n hx hb dX8_isTest_42 rfl (lv_at hl 0 rfl) ?_
      refine lv_if_ge (tgt := 48) hx hb dX8_isTest_43 (by decide) (fun c_43 => ?_) (fun c_43 => ?_)
      · skip
        have hi1 : a < z ∧ 0 < v 124 a ∧ ¬ ixS 5 (v 124 a) < 0 := ⟨by omega, Int32.not_le.mp c_20, by rw [← hr34]; exact Int32.not_lt.mpr c_43⟩
        refine lv_aload_n hx hb dX8_isTest_48 rfl (lv_at hl 1 rfl) ?_
        refine lv_dup hx hb dX8_isTest_49 rfl ?_
        refine g_geti X h (k := 23) (cc_116) fr_RX8_145 rfl (by decide) dX8_isTest_50 ?_
        refine lv_iconst (v := 1) hx hb dX8_isTest_53 (by decide) ?_
        refine lv_iadd hx hb dX8_isTest_54 ?_
        refine g_puti X h (k := 23) (cc_116) fp_RX8_145 rfl (by decide) dX8_isTest_55 (fun v55 H locs ev55 h => ?_)
        refine lv_aload_n hx hb dX8_isTest_58 rfl (lv_at hl 1 rfl) ?_
        refine g_geti X h (k := 23) (cc_116) fr_RX8_145 rfl (by decide) dX8_isTest_59 ?_
        refine g_tr (y := ((v 116 23) + 1)) (by simp [ev55, up2, upc]) ?_
        refine lv_aload_n hx hb dX8_isTest_62 rfl (lv_at hl 1 rfl) ?_
        refine g_geti X h (k := 12) (cc_116) fr_RX8_142 rfl (by decide) dX8_isTest_63 ?_
        refine g_tr (y := (v 116 12)) (by simp [ev55, up2, upc]) ?_
        refine lv_icmp_ge (tgt := 98) hx hb dX8_isTest_66 (by decide) (fun c_66 => ?_) (fun c_66 => ?_)
        · skip
          have hq2 := nI_le1 (a := z) (b := (a + 1)) hz (show (v 116 23) + 1 = nI (a + 1) by rw [ha]; exact nI_1 _) (by omega) (by omega) c_66
          refine lv_iconst (v := (-1)) hx hb dX8_isTest_98 (by decide) ?_
          refine lv_istore_n (lv' := [(2, .int (-1)), (1, .int r34), (0, .ref (zg Z 116))]) hx hb dX8_isTest_99 rfl hl (by decide) rfl (fun ls hl => ?_)
          refine lv_iload_n hx hb dX8_isTest_100 rfl (lv_at hl 0 rfl) ?_
          refine lv_if_ge (tgt := 106) hx hb dX8_isTest_101 (by decide) (fun c_101 => ?_) (fun c_101 => ?_)
          · exact absurd c_101 (by decide)
          · skip
            refine lv_iconst (v := 0) hx hb dX8_isTest_104 (by decide) ?_
            exact g_nret X h dX8_isTest_105 rfl (rd_out (by rw [tstR, if_pos hi1, if_neg (by omega)]) rfl (rd_no (by rw [ev55]; exact PF_up (PF_refl _ _) (by decide)) (by show v55 116 23 = nI (a + 1); rw [ev55, up23, ha, nI_1])))
        · skip
          have hq2 := nI_le0 (a := z) (b := (a + 1)) hz (show (v 116 23) + 1 = nI (a + 1) by rw [ha]; exact nI_1 _) (by omega) (by omega) c_66
          refine lv_aload_n hx hb dX8_isTest_69 rfl (lv_at hl 1 rfl) ?_
          refine g_getr X h (k := 13) (t := 124) (cc_116) fr_RX8_33 rfl (by decide) (by decide) (by decide) dX8_isTest_70 ?_
          refine lv_aload_n hx hb dX8_isTest_73 rfl (lv_at hl 1 rfl) ?_
          refine g_geti X h (k := 23) (cc_116) fr_RX8_145 rfl (by decide) dX8_isTest_74 ?_
          refine g_tr (y := ((v 116 23) + 1)) (by simp [ev55, up2, upc]) ?_
          refine g_iald X h (k := (a + 1)) (cc_124) (by rw [show ((v 116 23)) = nI a from ha, show (1) = nI 1 from rfl, nI_add]) (by omega) (by decide) dX8_isTest_77 ?_
          refine g_tr (y := (v 124 (a + 1))) (by simp [ev55, up2, upc]) ?_
          refine lv_if_le (tgt := 98) hx hb dX8_isTest_78 (by decide) (fun c_78 => ?_) (fun c_78 => ?_)
          · skip
            refine lv_iconst (v := (-1)) hx hb dX8_isTest_98 (by decide) ?_
            refine lv_istore_n (lv' := [(2, .int (-1)), (1, .int r34), (0, .ref (zg Z 116))]) hx hb dX8_isTest_99 rfl hl (by decide) rfl (fun ls hl => ?_)
            refine lv_iload_n hx hb dX8_isTest_100 rfl (lv_at hl 0 rfl) ?_
            refine lv_if_ge (tgt := 106) hx hb dX8_isTest_101 (by decide) (fun c_101 => ?_) (fun c_101 => ?_)
            · exact absurd c_101 (by decide)
            · skip
              refine lv_iconst (v := 0) hx hb dX8_isTest_104 (by decide) ?_
              exact g_nret X h dX8_isTest_105 rfl (rd_out (by rw [tstR, if_pos hi1, if_neg (fun q => absurd q.2.1 (Int32.not_lt.mpr c_78))]) rfl (rd_no (by rw [ev55]; exact PF_up (PF_refl _ _) (by decide)) (by show v55 116 23 = nI (a + 1); rw [ev55, up23, ha, nI_1])))
          · skip
            refine g_ldcs X sE_13 dX8_isTest_81 ?_
            refine lv_aload_n hx hb dX8_isTest_83 rfl (lv_at hl 1 rfl) ?_
            refine g_getr X h (k := 13) (t := 124) (cc_116) fr_RX8_33 rfl (by decide) (by decide) (by decide) dX8_isTest_84 ?_
            refine lv_aload_n hx hb dX8_isTest_87 rfl (lv_at hl 1 rfl) ?_
            refine g_geti X h (k := 23) (cc_116) fr_RX8_145 rfl (by decide) dX8_isTest_88 ?_
            refine g_tr (y := ((v 116 23) + 1)) (by simp [ev55, up2, upc]) ?_
            refine g_iald X h (k := (a + 1)) (cc_124) (by rw [show ((v 116 23)) = nI a from ha, show (1) = nI 1 from rfl, nI_add]) (by omega) (by decide) dX8_isTest_91 ?_
            refine g_tr (y := (v 124 (a + 1))) (by simp [ev55, up2, upc]) ?_
            refine g_ki h (g_runVs X h (As := [.int (v 124 (a + 1))]) (rest := []) (c_J0_indexOf_0f7a4 gl Z v55 w 6 (by first | decide | assumption) (v 124 (a + 1))) mi_J0_indexOf_0f7a4 ml_RX8_175 (by decide) rfl ⟨Nat.le_of_ble_eq_true rfl, Nat.le_of_ble_eq_true rfl⟩ rfl hl.1 rfl (Nat.le_of_ble_eq_true rfl) dX8_isTest_92) (fun r92 v92 w92 H locs hp92 h => ?_)
            obtain ⟨hr92, hu92⟩ := hp92; obtain ⟨rfl, rfl⟩ := Prod.mk.inj hu92
            refine lv_goto (tgt := 99) hx hb dX8_isTest_95 (by decide) ?_
            refine lv_istore_n (lv' := [(2, .int r92), (1, .int r34), (0, .ref (zg Z 116))]) hx hb dX8_isTest_99 rfl hl (by decide) rfl (fun ls hl => ?_)
            refine lv_iload_n hx hb dX8_isTest_100 rfl (lv_at hl 0 rfl) ?_
            refine lv_if_ge (tgt := 106) hx hb dX8_isTest_101 (by decide) (fun c_101 => ?_) (fun c_101 => ?_)
            · skip
              have hi2 : a + 1 < z ∧ 0 < v 124 (a + 1) ∧ ¬ ixS 6 (v 124 (a + 1)) < 0 := ⟨by omega, Int32.not_le.mp c_78, by rw [← hr92]; exact Int32.not_lt.mpr c_101⟩
              refine lv_aload_n hx hb dX8_isTest_106 rfl (lv_at hl 2 rfl) ?_
              refine lv_dup hx hb dX8_isTest_107 rfl ?_
              refine g_geti X h (k := 23) (cc_116) fr_RX8_145 rfl (by decide) dX8_isTest_108 ?_
              refine g_tr (y := ((v 116 23) + 1)) (by simp [ev55, up2, upc]) ?_
              refine lv_iconst (v := 1) hx hb dX8_isTest_111 (by decide) ?_
              refine lv_iadd hx hb dX8_isTest_112 ?_
              refine g_puti X h (k := 23) (cc_116) fp_RX8_145 rfl (by decide) dX8_isTest_113 (fun v113 H locs ev113 h => ?_)
              have e113 : v113 = up2 (up2 v 116 23 (nI (a + 1))) 116 23 (nI (a + 2)) := by rw [show nI (a + 2) = nI (a + 1 + 1) from rfl, ev113, ev55, ha, nI_1, nI_1]
              have hP2 : PS v113 (v 124) z (a + 2) c o := by rw [e113]; exact PS_at (PS_at hP (by omega) (by omega)) (by omega) (by omega)
              have hF2 : PF c v v113 := by rw [e113]; exact PF_up (PF_up (PF_refl _ _) (by decide)) (by decide)
              obtain ⟨ht2, hz2, ha2, hc2, -⟩ := id hP2
              refine lv_aload_n hx hb dX8_isTest_116 rfl (lv_at hl 2 rfl) ?_
              refine g_ki h (g_runV X h (As := []) (rest := []) (c_X8_isNumber gl Z v113 w (a + 2) z ha2 hz2 (by omega) hz1) mi_X8_isNumber ml_RX8_180 (cc_116) (by decide) kl8 rfl ⟨Nat.le_of_ble_eq_true rfl, Nat.le_of_ble_eq_true rfl⟩ rfl hl.1 rfl (Nat.le_of_ble_eq_true rfl) dX8_isTest_117) (fun r117 v117 w117 H locs hp117 h => ?_)
              obtain ⟨hr117, hu117⟩ := hp117
              obtain ⟨hv117, rfl⟩ := Prod.mk.inj hu117
              refine lv_if_eq (tgt := 151) hx hb dX8_isTest_120 (by decide) (fun c_120 => ?_) (fun c_120 => ?_)
              · skip
                rw [hr117, bI_0] at c_120
                rw [ht2] at c_120 hv117
                have hn0 : nmC (v 124) z (a + 2) = 0 := by have := of_decide_eq_false c_120; omega
                refine lv_iconst (v := 0) hx hb dX8_isTest_151 (by decide) ?_
                exact g_nret X h dX8_isTest_152 rfl (rd_out (by rw [tstR, if_pos hi1, if_pos hi2, if_pos hn0]) rfl (rd_no (by rw [← hv117]; exact PF_num hF2) (by show v117 116 23 = nI (a + 2); rw [← hv117, numU_23, hn0])))
              · skip
                rw [hr117, bI_n] at c_120
                rw [ht2] at c_120 hv117
                have hn1 : ¬ nmC (v 124) z (a + 2) = 0 := by have := of_decide_eq_true c_120; omega
                have hn := nmC_le (t := v 124) (z := z) (a := a + 2) (by omega)
                have hP3 : PS v117 (v 124) z (a + 2 + nmC (v 124) z (a + 2)) c o := by rw [← hv117]; exact PS_num hP2 hn
                obtain ⟨k1, hk1, hk16⟩ := ixS_nat (i := 5) (by decide) hi1.2.2
                obtain ⟨k2, hk2, hk26⟩ := ixS_nat (i := 6) (by decide) hi2.2.2
                have hx25 : v117 116 25 = nI (nmV (v 124) (a + 2) (nmC (v 124) z (a + 2))) := by rw [← hv117]; exact numU_25
                refine lv_aload_n hx hb dX8_isTest_123 rfl (lv_at hl 2 rfl) ?_
                refine lv_iconst (v := 3) hx hb dX8_isTest_124 (by decide) ?_
                refine lv_sipush (v := 300) hx hb dX8_isTest_125 (by decide) ?_
                refine lv_iload_n hx hb dX8_isTest_128 rfl (lv_at hl 1 rfl) ?_
                refine lv_imul hx hb dX8_isTest_129 ?_
                refine lv_iadd hx hb dX8_isTest_130 ?_
                refine lv_bipush (v := 100) hx hb dX8_isTest_131 (by decide) ?_
                refine lv_iload_n hx hb dX8_isTest_133 rfl (lv_at hl 0 rfl) ?_
                refine lv_imul hx hb dX8_isTest_134 ?_
                refine lv_iadd hx hb dX8_isTest_135 ?_
                refine lv_aload_n hx hb dX8_isTest_136 rfl (lv_at hl 2 rfl) ?_
                refine g_geti X h (k := 25) (cc_116) fr_RX8_148 rfl (by decide) dX8_isTest_137 ?_
                refine lv_iadd hx hb dX8_isTest_140 ?_
                refine lv_topi (fun xk exk => ?_)
                refine g_ki h (g_runV X h (As := [.int xk]) (rest := []) (c_X8_codes gl Z v117 w xk c hP3.2.2.2.1 (by omega)) mi_X8_codes ml_RX8_183 (cc_116) (by decide) kl8 rfl ⟨Nat.le_of_ble_eq_true rfl, Nat.le_of_ble_eq_true rfl⟩ rfl hl.1 rfl (Nat.le_of_ble_eq_true rfl) dX8_isTest_141) (fun r141 v141 w141 H locs hp141 h => ?_)
                obtain ⟨hr141, hu141⟩ := hp141
                obtain ⟨hv141, rfl⟩ := Prod.mk.inj hu141
                have q1 := strN_lt (i := 5) (by decide)
                have q2 := strN_lt (i := 6) (by decide)
                have hxk : xk = nI (3 + 300 * (ixS 5 (v 124 a)).toNatClampNeg + 100 * (ixS 6 (v 124 (a + 1))).toNatClampNeg + nmV (v 124) (a + 2) (nmC (v 124) z (a + 2))) := by
                  rw [hk1, hk2, nI_clamp (by omega), nI_clamp (by omega), exk, hr34, hr92, hk1, hk2, hx25, show (300 : Int32) = nI 300 from rfl, show (100 : Int32) = nI 100 from rfl, show (3 : Int32) = nI 3 from rfl, pk_mul, pk_mul, nI_add, nI_add, nI_add]
                refine lv_if_eq (tgt := 151) hx hb dX8_isTest_144 (by decide) (fun c_144 => ?_) (fun c_144 => ?_)
                · exact absurd c_144 (by rw [hr141]; decide)
                · skip
                  refine lv_iconst (v := 1) hx hb dX8_isTest_147 (by decide) ?_
                  refine lv_goto (tgt := 152) hx hb dX8_isTest_148 (by decide) ?_
                  exact g_nret X h dX8_isTest_152 rfl (rd_out (by rw [tstR, if_pos hi1, if_pos hi2, if_neg hn1]) rfl (rd_yes (by rw [← hv141]; exact PF_code (PF_up (by rw [← hv117]; exact PF_num hF2) (by decide)) (Nat.le_refl _)) (by rw [← hv141]; exact PS_code hP3 (by omega)) (by rw [← hv141, hxk]; exact TK_snoc (l := []) (TK_nil _ _))))
            · skip
              refine lv_iconst (v := 0) hx hb dX8_isTest_104 (by decide) ?_
              exact g_nret X h dX8_isTest_105 rfl (rd_out (by rw [tstR, if_pos hi1, if_neg (fun q => q.2.2 (by rw [← hr92]; exact Int32.not_le.mp c_101))]) rfl (rd_no (by rw [ev55]; exact PF_up (PF_refl _ _) (by decide)) (by show v55 116 23 = nI (a + 1); rw [ev55, up23, ha, nI_1])))
      · skip
        refine lv_iconst (v := 0) hx hb dX8_isTest_46 (by decide) ?_
        exact g_nret X h dX8_isTest_47 rfl (rd_out (by rw [tstR, if_neg (fun q => q.2.2 (by rw [← hr34]; exact Int32.not_le.mp c_43))]) rfl (rd_no (PF_refl _ _) ha))
