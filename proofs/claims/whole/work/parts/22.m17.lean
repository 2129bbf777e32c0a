/-! what the reader gives can be run -/
def hok (m : Nat) : Nat → List Nat → Nat → Prop
  | h, [], h' => h = h'
  | h, x :: l, h' => x < 1803 ∧ (3 ≤ x → h + 1 ≤ m) ∧ (x = 2 → 1 ≤ h) ∧ (x < 2 → 2 ≤ h) ∧ hok m (hstep x h) l h'
theorem hok_app {m : Nat} : ∀ (l : List Nat) {l2 : List Nat} {h h1 h2 : Nat}, hok m h l h1 → hok m h1 l2 h2 → hok m h (l ++ l2) h2 := by
  intro l
  induction l with
  | nil => intro l2 h h1 h2 a b; rw [show h = h1 from a]; exact b
  | cons x l ih => intro l2 h h1 h2 a b; exact ⟨a.1, a.2.1, a.2.2.1, a.2.2.2.1, ih a.2.2.2.2 b⟩
theorem hok_mono {m m' : Nat} (hm : m ≤ m') : ∀ (l : List Nat) {h h' : Nat}, hok m h l h' → hok m' h l h' := by
  intro l
  induction l with
  | nil => intro h h' a; exact a
  | cons x l ih => intro h h' a; exact ⟨a.1, fun q => Nat.le_trans (a.2.1 q) hm, a.2.2.1, a.2.2.2.1, ih a.2.2.2.2⟩
def hfl (h : Nat) (l : List Nat) : Nat := l.foldl (fun h x => hstep x h) h
theorem hok_fl {m : Nat} : ∀ (l : List Nat) {h h' : Nat}, hok m h l h' → hfl h l = h' ∧ ∀ k, k < l.length → l.getD k 0 < 1803 ∧ (3 ≤ l.getD k 0 → hfl h (l.take k) + 1 ≤ m) ∧ (l.getD k 0 = 2 → 1 ≤ hfl h (l.take k)) ∧ (l.getD k 0 < 2 → 2 ≤ hfl h (l.take k)) := by
  intro l
  induction l with
  | nil => intro h h' a; exact ⟨a, fun k hk => absurd hk (Nat.not_lt_zero _)⟩
  | cons x l ih =>
    intro h h' a
    obtain ⟨a1, a2, a3, a4, a5⟩ := a
    obtain ⟨i1, i2⟩ := ih a5
    refine ⟨i1, fun k hk => ?_⟩
    cases k with
    | zero => exact ⟨a1, a2, a3, a4⟩
    | succ k =>
      rw [List.length_cons] at hk
      exact i2 k (by omega)
theorem hrun_fl (l : List Nat) : ∀ k, k ≤ l.length → hrun (fun j => l.getD j 0) k = hfl 0 (l.take k) := by
  intro k
  induction k with
  | zero => intro _; simp [hfl, hrun]
  | succ k ih =>
    intro hk
    have hk2 : k < l.length := by omega
    show hstep (l.getD k 0) (hrun (fun j => l.getD j 0) k) = _
    rw [ih (by omega), List.take_succ_eq_append_getElem hk2]
    simp only [hfl, List.foldl_append]
    show hstep (l.getD k 0) _ = hstep l[k] _
    rw [show l.getD k 0 = l[k] by simp [List.getD, List.getElem?_eq_getElem hk2]]
theorem hok_wft {l : List Nat} (h : hok 11 0 l 1) : wft l := by
  obtain ⟨h1, h2⟩ := hok_fl l h
  refine ⟨by rw [hrun_fl l _ (Nat.le_refl _), List.take_length]; exact h1, fun k hk => ?_⟩
  rw [hrun_fl l k (by omega)]
  obtain ⟨a, b, c, d⟩ := h2 k hk
  exact ⟨a, fun q => by have := b q; omega, c, d⟩
def rdH (q : Nat → RD) (z e : Nat) : Prop := ∀ a, a ≤ z → (q a).1 = true → ∀ h, hok (h + e) h (q a).2.2 (h + 1)
theorem tstR_H (t : Nat → Int32) (z : Nat) : rdH (tstR t z) z 1 := by
  intro a ha hg h
  unfold tstR at hg ⊢
  split at hg
  · rename_i h1
    rw [if_pos h1]
    split at hg
    · rename_i h2
      rw [if_pos h2]
      split at hg
      · cases hg
      · rename_i h3
        rw [if_neg h3]
        obtain ⟨k1, e1, b1⟩ := ixS_nat (i := 5) (by decide) h1.2.2
        obtain ⟨k2, e2, b2⟩ := ixS_nat (i := 6) (by decide) h2.2.2
        have s1 : strN 5 = 6 := rfl
        have s2 : strN 6 = 3 := rfl
        have hv := nmV_le (t := t) (z := z) (a := a + 2) (nmC_2 t z (a + 2)) (fun j hj => nmC_dig hj)
        show hok (h + 1) h [_] (h + 1)
        rw [e1, e2, nI_clamp (by omega), nI_clamp (by omega)]
        refine ⟨by omega, fun _ => Nat.le_refl _, fun q => by omega, fun q => by omega, ?_⟩
        show hstep _ h = h + 1
        rw [hstep, if_pos (by omega)]
    · cases hg
  · cases hg
theorem rdL_H {q : Nat → RD} {t : Nat → Int32} {z e s : Nat} {x : Int32} (hs : s < 2) (hG : rdG q z) (hq : rdH q z e) (he : 1 ≤ e) : ∀ (f a : Nat) (l : List Nat), a ≤ z → ∀ h, hok (h + (e + 1)) h l (h + 1) → (rdL q t z x s f a l).1 = true → hok (h + (e + 1)) h (rdL q t z x s f a l).2.2 (h + 1) := by
  intro f
  induction f with
  | zero => intro a l _ h hl _; exact hl
  | succ f ih =>
    intro a l ha h hl hg
    unfold rdL at hg ⊢
    by_cases c1 : isAt t z a x = true
    · rw [if_pos c1] at hg ⊢
      have hlt := isAt_lt c1
      by_cases c2 : (q (a + 1)).1 = true
      · rw [if_pos c2] at hg ⊢
        refine ih _ _ (hG (a + 1) hlt).2.1 h ?_ hg
        have k1 := hq (a + 1) hlt c2 (h + 1)
        rw [show h + 1 + e = h + (e + 1) by omega] at k1
        refine hok_app _ (hok_app _ hl k1) ?_
        refine ⟨by omega, fun y => by omega, fun y => by omega, fun _ => by omega, ?_⟩
        show hstep s (h + 1 + 1) = h + 1
        rw [hstep, if_neg (by omega), if_neg (by omega)]
        rfl
      · rw [if_neg c2] at hg
        cases hg
    · rw [if_neg c1] at hg ⊢
      exact hl
theorem rdT_H {q : Nat → RD} {t : Nat → Int32} {z e s : Nat} {x : Int32} (hs : s < 2) (hG : rdG q z) (hq : rdH q z e) (he : 1 ≤ e) : rdH (rdT q t z x s) z (e + 1) := by
  intro a ha hg h
  unfold rdT at hg ⊢
  by_cases c1 : (q a).1 = true
  · rw [if_pos c1] at hg ⊢
    exact rdL_H hs hG hq he _ _ _ (hG a ha).2.1 h (hok_mono (by omega) _ (hq a ha c1 h)) hg
  · rw [if_neg c1] at hg
    cases hg
theorem rdF_H (t : Nat → Int32) (z : Nat) : ∀ d, rdH (rdF t z d) z (1 + 2 * d) := by
  intro d
  induction d with
  | zero => exact tstR_H t z
  | succ d ih =>
    have ihA : rdH (rdA t z d) z (1 + 2 * d + 1) := rdT_H (s := 0) (by omega) (rdF_G t z d) ih (by omega)
    have ihE : rdH (rdE t z d) z (1 + 2 * d + 1 + 1) := rdT_H (s := 1) (by omega) (rdA_G t z d) ihA (by omega)
    rw [show 1 + 2 * d + 1 + 1 = 1 + 2 * (d + 1) by omega] at ihE
    intro a ha hg h
    by_cases c1 : isAt t z a 33 = true
    · by_cases c2 : (rdF t z d (a + 1)).1 = true
      · rw [rdF_y c1 c2]
        refine hok_app _ (hok_mono (by omega) _ (ih (a + 1) (isAt_lt c1) c2 h)) ⟨by omega, fun y => by omega, fun _ => by omega, fun y => by omega, ?_⟩
        show hstep 2 (h + 1) = h + 1
        rfl
      · rw [rdF_n c1 (by simpa using c2)] at hg
        cases hg
    · have c1' : isAt t z a 33 = false := by simpa using c1
      by_cases c3 : isAt t z a 40 = true
      · by_cases c4 : (rdE t z d (a + 1)).1 = true
        · by_cases c5 : isAt t z (rdE t z d (a + 1)).2.1 41 = true
          · rw [rdF_py c1' c3 c4 c5]
            exact ihE (a + 1) (isAt_lt c3) c4 h
          · rw [rdF_pm c1' c3 c4 (by simpa using c5)] at hg
            cases hg
        · rw [rdF_pn c1' c3 (by simpa using c4)] at hg
          cases hg
      · have c3' : isAt t z a 40 = false := by simpa using c3
        rw [rdF_t c1' c3'] at hg ⊢
        exact hok_mono (by omega) _ (tstR_H t z a ha hg h)
/-- what the reader gives can be run -/
theorem rdE_wft {t : Nat → Int32} {z a : Nat} (ha : a ≤ z) (hg : (rdE t z 4 a).1 = true) : wft (rdE t z 4 a).2.2 := by
  have kA : rdH (rdA t z 4) z (1 + 2 * 4 + 1) := rdT_H (s := 0) (by omega) (rdF_G t z 4) (rdF_H t z 4) (by omega)
  have kE : rdH (rdE t z 4) z (1 + 2 * 4 + 1 + 1) := rdT_H (s := 1) (by omega) (rdA_G t z 4) kA (by omega)
  exact hok_wft (kE a ha hg 0)
