/-! the class: a land, clause by clause -/
def repL (v : VV) (lb : Nat) (L : LND) : Prop :=
  (v lb 0 = lastS 2 5 L ∧ v lb 1 = lastS 3 10 L ∧ v lb 2 = lastS 4 1 L) ∧ v lb 3 = nI (DLs L).length ∧ v lb 9 = nI (cumL (DLs L) (DLs L).length) ∧
  ∀ i, i < (DLs L).length → v (lb + 1) i = wtC ((DLs L).getD i dC) ∧ v (lb + 2) i = nI (cumL (DLs L) (i + 1)) ∧ ∀ k, k < ((DLs L).getD i dC).2.2.length → stR v lb (cumL (DLs L) i + k) (((DLs L).getD i dC).2.2.getD k 0)
theorem cumL_mono (D : List CLA) : ∀ i j, i ≤ j → cumL D i ≤ cumL D j := by
  intro i j h
  induction j with
  | zero => rw [show i = 0 by omega]; exact Nat.le_refl _
  | succ j ih =>
    rcases Nat.lt_or_ge i (j + 1) with q | q
    · have := ih (by omega)
      show _ ≤ cumL D j + _
      omega
    · rw [show i = j + 1 by omega]; exact Nat.le_refl _
theorem repC_L {v : VV} {lb : Nat} {L : LND} (h : repL v lb L) (hc : cumL (DLs L) (DLs L).length ≤ 100) : repC v lb L := ⟨h.1, h.2.1, fun i hi => Nat.le_trans (cumL_mono _ _ _ hi) hc, h.2.2.2⟩
theorem lastS_snoc {wd : Nat} {d : Int32} {L : LND} {c : CLA} : lastS wd d (L ++ [c]) = if c.1 = wd then nI c.2.1 else lastS wd d L := by
  have e : ∀ k, k ≤ L.length → lastN wd d (L ++ [c]) k = lastN wd d L k := by
    intro k
    induction k with
    | zero => intro _; rfl
    | succ k ih =>
      intro hk
      have g : (L ++ [c]).getD k dC = L.getD k dC := by simp [List.getD, List.getElem?_append_left (show k < L.length by omega)]
      show (if ((L ++ [c]).getD k dC).1 = wd then _ else _) = (if (L.getD k dC).1 = wd then _ else _)
      rw [g, ih (by omega)]
  have g : (L ++ [c]).getD L.length dC = c := by simp [List.getD]
  rw [lastS, List.length_append, List.length_singleton]
  show (if ((L ++ [c]).getD L.length dC).1 = wd then nI ((L ++ [c]).getD L.length dC).2.1 else lastN wd d (L ++ [c]) L.length) = _
  rw [g, e _ (Nat.le_refl _), lastS]
theorem DLs_snoc {L : LND} {c : CLA} : DLs (L ++ [c]) = if c.1 < 2 then DLs L ++ [c] else DLs L := by
  unfold DLs
  rw [List.filter_append]
  split
  · rename_i h; simp [h]
  · rename_i h; simp [h]
theorem cumL_snoc {D : List CLA} {c : CLA} : ∀ i, i ≤ D.length → cumL (D ++ [c]) i = cumL D i
  | 0, _ => rfl
  | i + 1, h => by
    have g : (D ++ [c]).getD i dC = D.getD i dC := by simp [List.getD, List.getElem?_append_left (show i < D.length by omega)]
    show cumL (D ++ [c]) i + _ = cumL D i + _
    rw [cumL_snoc i (by omega), g]
theorem cumL_end {D : List CLA} {c : CLA} : cumL (D ++ [c]) (D ++ [c]).length = cumL D D.length + c.2.2.length := by
  rw [List.length_append, List.length_singleton]
  show cumL (D ++ [c]) D.length + ((D ++ [c]).getD D.length dC).2.2.length = _
  rw [cumL_snoc _ (Nat.le_refl _)]
  simp [List.getD]
theorem repL_nil {v : VV} {lb : Nat} : repL (clrS v lb) lb [] := by
  refine ⟨⟨?_, ?_, ?_⟩, ?_, ?_, fun i hi => absurd hi (Nat.not_lt_zero _)⟩
  · rw [clrS, up2_slot (by decide), up2_slot (by decide), up2_slot (by decide), up2_slot (by decide), up2_same]; rfl
  · rw [clrS, up2_slot (by decide), up2_slot (by decide), up2_slot (by decide), up2_same]; rfl
  · rw [clrS, up2_slot (by decide), up2_slot (by decide), up2_same]; rfl
  · rw [clrS, up2_slot (by decide), up2_same]; rfl
  · rw [clrS, up2_same]; rfl
/-- what a clause touches: the reader's place, the land -/
def FC (v u : VV) (lb : Nat) : Prop := (∀ i, i ≠ 108 → (i < lb ∨ lb + 5 < i) → u i = v i) ∧ ∀ k, k ≠ 2 → u 108 k = v 108 k
theorem FC_refl (v : VV) (lb : Nat) : FC v v lb := ⟨fun _ _ _ => rfl, fun _ _ => rfl⟩
theorem FC_trans {v u x : VV} {lb : Nat} (h1 : FC v u lb) (h2 : FC u x lb) : FC v x lb := ⟨fun i a b => (h2.1 i a b).trans (h1.1 i a b), fun k a => (h2.2 k a).trans (h1.2 k a)⟩
theorem FC_at {v : VV} {lb : Nat} {x : Int32} : FC v (up2 v 108 2 x) lb := ⟨fun i a _ => up2_ne a, fun k a => up2_slot a⟩
theorem FT_FC {v u : VV} {lb s : Nat} (h : FT v u lb s) : FC v u lb := ⟨fun i a b => h.1 i a (by omega) (by omega) (by omega) (by omega), h.2.1⟩
theorem FC_lb {v : VV} {lb i k : Nat} {x : Int32} (hl : lb ≤ 44) (hi : lb ≤ i ∧ i ≤ lb + 5) : FC v (up2 v i k x) lb := ⟨fun q a b => up2_ne (by omega), fun q a => by rw [up2_ne (by omega)]⟩
theorem FC_dr {v : VV} {lb d : Nat} {x : Int32} (hl : lb ≤ 44) : FC v (drS v lb d x) lb := FC_trans (FC_trans (FC_lb hl (by omega)) (FC_lb hl (by omega))) (FC_lb hl (by omega))
theorem PT_FC {v u : VV} {t : Nat → Int32} {z a b lb : Nat} (hl : lb ≤ 44) (h : PT v t z a) (hf : FC v u lb) (hb : u 108 2 = nI b) (hbz : b ≤ z) : PT u t z b := by
  obtain ⟨h1, h2, h3, h4, h5, h6⟩ := h
  exact ⟨by rw [hf.1 109 (by decide) (by omega)]; exact h1, by rw [hf.2 1 (by decide)]; exact h2, hb, h4, hbz, h6⟩
theorem repL_at {v : VV} {lb : Nat} {L : LND} {x : Int32} (hl : lb ≤ 44) (h : repL v lb L) : repL (up2 v 108 2 x) lb L := by
  unfold repL stR at h ⊢
  rw [up2_ne (j := lb) (by omega), up2_ne (j := lb + 1) (by omega), up2_ne (j := lb + 2) (by omega), up2_ne (j := lb + 3) (by omega), up2_ne (j := lb + 4) (by omega), up2_ne (j := lb + 5) (by omega)]
  exact h
/-- COLD, POCKET, STINK -/
theorem repL_num {v : VV} {lb wd n : Nat} {L : LND} (h : repL v lb L) (h2 : 2 ≤ wd) (h4 : wd < 5) : repL (up2 v lb (wd - 2) (nI n)) lb (L ++ [(wd, n, [])]) := by
  have eD : DLs (L ++ [(wd, n, [])]) = DLs L := by rw [DLs_snoc, if_neg (by show ¬ wd < 2; omega)]
  obtain ⟨⟨a1, a2, a3⟩, a4, a5, a6⟩ := h
  refine ⟨?_, ?_, ?_, ?_⟩
  · rw [lastS_snoc, lastS_snoc, lastS_snoc]
    rcases (show wd = 2 ∨ wd = 3 ∨ wd = 4 by omega) with rfl | rfl | rfl
    · exact ⟨by rw [up2_same]; rfl, by rw [up2_slot (by decide)]; exact a2, by rw [up2_slot (by decide)]; exact a3⟩
    · exact ⟨by rw [up2_slot (by decide)]; exact a1, by rw [up2_same]; rfl, by rw [up2_slot (by decide)]; exact a3⟩
    · exact ⟨by rw [up2_slot (by decide)]; exact a1, by rw [up2_slot (by decide)]; exact a2, by rw [up2_same]; rfl⟩
  · rw [eD, up2_slot (by omega)]; exact a4
  · rw [eD, up2_slot (by omega)]; exact a5
  · rw [eD]
    unfold stR
    rw [up2_ne (by omega), up2_ne (by omega), up2_ne (by omega), up2_ne (by omega), up2_ne (by omega)]
    exact a6
/-- a door's clause -/
theorem repL_door {v u : VV} {lb wd n : Nat} {L : LND} {l : List Nat} (hl : lb ≤ 44) (h : repL v lb L) (hf : FT v u lb (cumL (DLs L) (DLs L).length)) (ht : TS u lb (cumL (DLs L) (DLs L).length) l) (hw : wd < 2) {x : Int32} (hx : x = wtC (wd, n, l)) : repL (drS u lb (DLs L).length x) lb (L ++ [(wd, n, l)]) := by
  have eD : DLs (L ++ [(wd, n, l)]) = DLs L ++ [(wd, n, l)] := by rw [DLs_snoc, if_pos hw]
  obtain ⟨⟨a1, a2, a3⟩, a4, a5, a6⟩ := h
  have hlb : ∀ k, k ≠ 9 → k ≠ 3 → drS u lb (DLs L).length x lb k = v lb k := fun k h9 h3 => by rw [drS, up2_slot h3, up2_ne (by omega), up2_ne (by omega)]; exact hf.2.2.1 k h9
  refine ⟨?_, ?_, ?_, ?_⟩
  · rw [lastS_snoc, lastS_snoc, lastS_snoc, if_neg (by show ¬ wd = 2; omega), if_neg (by show ¬ wd = 3; omega), if_neg (by show ¬ wd = 4; omega), hlb 0 (by decide) (by decide), hlb 1 (by decide) (by decide), hlb 2 (by decide) (by decide)]
    exact ⟨a1, a2, a3⟩
  · rw [eD, List.length_append, drS, up2_same]; rfl
  · rw [eD, cumL_end, drS, up2_slot (by decide), up2_ne (by omega), up2_ne (by omega)]
    exact ht.1
  · rw [eD]
    intro i hi
    rw [List.length_append, List.length_singleton] at hi
    have e3 : ∀ q, 3 ≤ q → q ≤ 5 → drS u lb (DLs L).length x (lb + q) = u (lb + q) := fun q h1 h2 => by rw [drS, up2_ne (by omega), up2_ne (by omega), up2_ne (by omega)]
    by_cases e : i = (DLs L).length
    · have eg : (DLs L ++ [(wd, n, l)]).getD i dC = (wd, n, l) := by rw [e]; simp [List.getD]
      rw [eg, e]
      refine ⟨by rw [drS, up2_ne (by omega), up2_ne (by omega), up2_same, hx], ?_, fun k hk => ?_⟩
      · rw [drS, up2_ne (by omega), up2_same]
        show u lb 9 = nI (cumL (DLs L ++ [(wd, n, l)]) (DLs L).length + ((DLs L ++ [(wd, n, l)]).getD (DLs L).length dC).2.2.length)
        rw [cumL_snoc _ (Nat.le_refl _), show (DLs L ++ [(wd, n, l)]).getD (DLs L).length dC = (wd, n, l) by simp [List.getD]]
        exact ht.1
      · rw [cumL_snoc _ (Nat.le_refl _)]
        unfold stR
        rw [e3 3 (by decide) (by decide), e3 4 (by decide) (by decide), e3 5 (by decide) (by decide)]
        exact ht.2 k hk
    · have hi2 : i < (DLs L).length := by omega
      have eg : (DLs L ++ [(wd, n, l)]).getD i dC = (DLs L).getD i dC := by simp [List.getD, List.getElem?_append_left hi2]
      rw [eg, cumL_snoc _ (by omega), cumL_snoc _ (by omega)]
      obtain ⟨b1, b2, b3⟩ := a6 i hi2
      refine ⟨?_, ?_, fun k hk => ?_⟩
      · rw [drS, up2_ne (by omega), up2_ne (by omega), up2_slot (by omega), hf.1 _ (by omega) (by omega) (by omega) (by omega) (by omega)]; exact b1
      · rw [drS, up2_ne (by omega), up2_slot (by omega), up2_ne (by omega), hf.1 _ (by omega) (by omega) (by omega) (by omega) (by omega)]; exact b2
      · unfold stR
        rw [e3 3 (by decide) (by decide), e3 4 (by decide) (by decide), e3 5 (by decide) (by decide)]
        have hs : cumL (DLs L) i + k < cumL (DLs L) (DLs L).length := by
          have := cumL_mono (DLs L) (i + 1) (DLs L).length (by omega)
          have e9 : cumL (DLs L) (i + 1) = cumL (DLs L) i + ((DLs L).getD i dC).2.2.length := rfl
          omega
        obtain ⟨c1, c2, c3⟩ := hf.2.2.2 _ hs
        rw [c1, c2, c3]
        exact b3 k hk
theorem repL_u {v u : VV} {lb : Nat} {L : LND} (h : repL v lb L) (he : ∀ i, lb ≤ i → i ≤ lb + 5 → u i = v i) : repL u lb L := by
  unfold repL stR at h ⊢
  rw [he lb (by omega) (by omega), he (lb + 1) (by omega) (by omega), he (lb + 2) (by omega) (by omega), he (lb + 3) (by omega) (by omega), he (lb + 4) (by omega) (by omega), he (lb + 5) (by omega) (by omega)]
  exact h
/-- what a clause's reading says -/
def RC (lb : Nat) (L : LND) (v u : VV) (R : Bool × Nat × CLA) : Prop := FC v u lb ∧ u 108 2 = nI R.2.1 ∧ (R.1 = true → repL u lb (L ++ [R.2.2]))
theorem RC_eq {lb : Nat} {L : LND} {v u : VV} {r : Int32} {w : WV} {R e : Bool × Nat × CLA} (he : e = R) (hr : r = bI R.1) (h : RC lb L v u R) : r = bI e.1 ∧ (u, w) = (u, w) ∧ RC lb L v u e := by subst he; exact ⟨hr, rfl, h⟩
theorem RC_no {lb b : Nat} {L : LND} {v u : VV} (h : FC v u lb) (hb : u 108 2 = nI b) : RC lb L v u (false, b, dC) := ⟨h, hb, fun q => by cases q⟩
section CLR
variable {t : Nat → Int32} {z a : Nat}
theorem clR_5 (h : clW t z a = 5) : clR t z a = (false, a, dC) := by unfold clR; rw [if_pos h]
theorem clR_w (h : clW t z a < 5) (h2 : (allS t z (clW t z a) a).1 = false) : clR t z a = (false, (allS t z (clW t z a) a).2, dC) := by
  have e := allS_7 (t := t) (z := z) (a := a) h
  rw [if_neg (by rw [h2]; decide)] at e
  unfold clR
  rw [if_neg (by omega), e, if_pos h2]
theorem clR_b (h : clW t z a < 5) (h2 : (allS t z (clW t z a) a).1 = true) (h3 : isAt t z (allS t z (clW t z a) a).2 32 = false) : clR t z a = (false, (allS t z (clW t z a) a).2, dC) := by
  have e := allS_7 (t := t) (z := z) (a := a) h
  rw [if_pos h2, h3, if_neg (by decide)] at e
  unfold clR
  rw [if_neg (by omega), e, if_pos rfl]
theorem clR_n {b : Nat} (h : clW t z a < 5) (h2 : (allS t z (clW t z a) a).1 = true) (h3 : isAt t z (allS t z (clW t z a) a).2 32 = true) (hb : b = (allS t z (clW t z a) a).2 + 1) : clR t z a = (if nmC t z b = 0 then (false, b, dC)
     else if 2 ≤ clW t z a then (true, b + nmC t z b, (clW t z a, nmV t b (nmC t z b), []))
     else if isAt t z (b + nmC t z b) 32 then
       (if (rdE t z 4 (b + nmC t z b + 1)).1 then (true, (rdE t z 4 (b + nmC t z b + 1)).2.1, (clW t z a, nmV t b (nmC t z b), (rdE t z 4 (b + nmC t z b + 1)).2.2)) else (false, (rdE t z 4 (b + nmC t z b + 1)).2.1, dC))
     else (false, b + nmC t z b, dC)) := by
  subst hb
  have e := allS_7 (t := t) (z := z) (a := a) h
  rw [if_pos h2, h3, if_pos rfl] at e
  unfold clR
  rw [if_neg (by omega), e, if_neg (fun q => by cases q)]
end CLR
theorem clW_neg {t : Nat → Int32} {z a : Nat} {r : Int32} (h5 : clW t z a ≤ 5) (h : r = if (allS t z (clW t z a) a).1 then nI (clW t z a) else -1) (hr : r < 0) : (allS t z (clW t z a) a).1 = false := by
  cases q : (allS t z (clW t z a) a).1 with
  | false => rfl
  | true =>
    rw [q, if_pos rfl] at h
    rw [h] at hr
    exact absurd hr (nI_pos (by omega))
theorem word_y {t : Nat → Int32} {z a : Nat} {r : Int32} {v v1 : VV} (h5 : clW t z a ≤ 5) (ha : clW t z a = 5 → r = -1 ∧ v1 = v) (hb : clW t z a < 5 → r = (if (allS t z (clW t z a) a).1 then nI (clW t z a) else -1) ∧ v1 = up2 v 108 2 (nI (allS t z (clW t z a) a).2)) (hr : ¬ r < 0) : clW t z a < 5 ∧ (allS t z (clW t z a) a).1 = true ∧ r = nI (clW t z a) ∧ v1 = up2 v 108 2 (nI (allS t z (clW t z a) a).2) := by
  rcases Nat.lt_or_ge (clW t z a) 5 with q | q
  · obtain ⟨h1, h2⟩ := hb q
    cases e : (allS t z (clW t z a) a).1 with
    | false =>
      rw [e, if_neg (by decide)] at h1
      rw [h1] at hr
      exact absurd (by decide) hr
    | true => rw [e, if_pos rfl] at h1; exact ⟨q, rfl, h1, h2⟩
  · obtain ⟨h1, -⟩ := ha (by omega)
    rw [h1] at hr
    exact absurd (by decide) hr
theorem cum_s {L : LND} {c : CLA} {a b : Nat} (h : cumL (DLs L) (DLs L).length ≤ a) (hc : c.2.2.length + a ≤ b) (ha : a ≤ b := by omega) : cumL (DLs (L ++ [c])) (DLs (L ++ [c])).length ≤ b := by
  rw [DLs_snoc]
  split
  · rw [cumL_end]; omega
  · omega
section LD
variable {t : Nat → Int32} {z n b : Nat} {L : LND} {ft : Bool}
theorem ld_0 : ldR t z = if (clR t z 0).1 then (if (clR t z 0).2.1 = z then (true, z, [(clR t z 0).2.2]) else if (1 : Nat) = 10 then (false, (clR t z 0).2.1, []) else if isAt t z (clR t z 0).2.1 59 then ldL t z (10 - 1) ((clR t z 0).2.1 + 1) [(clR t z 0).2.2] else (false, (clR t z 0).2.1, [])) else (false, (clR t z 0).2.1, []) := rfl
theorem ld_1 (hf : ft = true) (hb : b < z) (hn : n < 10) (h : isAt t z b 59 = false) : (if ft then (if b = z then (true, z, L) else if n = 10 then (false, b, []) else if isAt t z b 59 then ldL t z (10 - n) (b + 1) L else (false, b, [])) else (false, b, [])) = (if false = true then (if b = z then (true, z, L) else if n + 1 = 10 then (false, b, []) else if isAt t z b 59 then ldL t z (10 - (n + 1)) (b + 1) L else (false, b, [])) else (false, b, [])) := by
  rw [hf, if_pos rfl, if_neg (by omega), if_neg (by omega), h, if_neg (by decide), if_neg (by decide)]
theorem ld_2 (hf : ft = true) (hb : b < z) (hn : n < 10) (h : isAt t z b 59 = true) (hc : (clR t z (b + 1)).1 = false) : (if ft then (if b = z then (true, z, L) else if n = 10 then (false, b, []) else if isAt t z b 59 then ldL t z (10 - n) (b + 1) L else (false, b, [])) else (false, b, [])) = (if false = true then (if (clR t z (b + 1)).2.1 = z then (true, z, L) else if n + 1 = 10 then (false, (clR t z (b + 1)).2.1, []) else if isAt t z (clR t z (b + 1)).2.1 59 then ldL t z (10 - (n + 1)) ((clR t z (b + 1)).2.1 + 1) L else (false, (clR t z (b + 1)).2.1, [])) else (false, (clR t z (b + 1)).2.1, [])) := by
  rw [hf, if_pos rfl, if_neg (by omega), if_neg (by omega), h, if_pos rfl, if_neg (by decide), show 10 - n = (9 - n) + 1 by omega, ldL, if_neg (by rw [hc]; decide)]
theorem ld_3 (hf : ft = true) (hb : b < z) (hn : n < 10) (h : isAt t z b 59 = true) (hc : (clR t z (b + 1)).1 = true) : (if ft then (if b = z then (true, z, L) else if n = 10 then (false, b, []) else if isAt t z b 59 then ldL t z (10 - n) (b + 1) L else (false, b, [])) else (false, b, [])) = (if true = true then (if (clR t z (b + 1)).2.1 = z then (true, z, L ++ [(clR t z (b + 1)).2.2]) else if n + 1 = 10 then (false, (clR t z (b + 1)).2.1, []) else if isAt t z (clR t z (b + 1)).2.1 59 then ldL t z (10 - (n + 1)) ((clR t z (b + 1)).2.1 + 1) (L ++ [(clR t z (b + 1)).2.2]) else (false, (clR t z (b + 1)).2.1, [])) else (false, (clR t z (b + 1)).2.1, [])) := by
  rw [hf, if_pos rfl, if_neg (by omega), if_neg (by omega), h, if_pos rfl, if_pos rfl, show 10 - n = (9 - n) + 1 by omega, ldL, if_pos hc, show 10 - (n + 1) = 9 - n by omega]
  by_cases e : n + 1 = 10
  · rw [if_pos (show 9 - n = 0 by omega), if_pos e]
  · rw [if_neg (show ¬ 9 - n = 0 by omega), if_neg e]
end LD
set_option maxRecDepth 100000 in
set_option maxHeartbeats 1000000 in
theorem c_X5_clause (gl : Launch) (Z : PL) (v : VV) (w : WV) (t : Nat → Int32) (z : Nat) (a : Nat) (hP : PT v t z a) (j : Nat) (hj7 : j < 7) (L : LND) (hrep : repL v (2 + 7 * j) L) (hD : (DLs L).length < 10) (hcz : cumL (DLs L) (DLs L).length + (z - a) ≤ 100) : CT gl yX5_clause cX5_clause 4 (some .boolean) 16 377 Z [.ref (zg Z 108), .ref (zg Z (2 + 7 * j))] v w (Qi Z (fun r u => r = bI (clR t z a).1 ∧ (u.1, w) = u ∧ RC (2 + 7 * j) L v u.1 (clR t z a))) := by
  refine g_met (by decide) (Nat.le_of_ble_eq_true rfl) ?_
  intro gp ge gs gm ga gb gh gc X h ls hl
  have hx := X.1
  have hb := X.2.1
  have hl : lv_has ls 4 [(0, .ref (zg Z 108)), (1, .ref (zg Z (2 + 7 * j)))] := hl
  obtain ⟨ht, hz, ha, hz1, haz, hch⟩ := id hP
  have hL : isL (2 + 7 * j) := isLj hj7
  refine lv_aload_n hx hb dX5_clause_0 rfl (lv_at hl 0 rfl) ?_
  refine g_ki h (g_runV X h (As := []) (rest := []) (c_X5_word gl Z v w t z a hP) mi_X5_word ml_RX5_39 (cc_108) (by decide) kl5 rfl ⟨Nat.le_of_ble_eq_true rfl, Nat.le_of_ble_eq_true rfl⟩ rfl hl.1 rfl (Nat.le_of_ble_eq_true rfl) dX5_clause_1) (fun r1 v1 w1 H locs hp1 h => ?_)
  obtain ⟨hw1, hwa1, hwb1⟩ := hp1
  obtain ⟨-, rfl⟩ := Prod.mk.inj hw1
  replace hwa1 : _ → _ ∧ v1 = _ := hwa1
  replace hwb1 : _ → _ ∧ v1 = _ := hwb1
  refine lv_istore_n (lv' := [(2, .int r1), (0, .ref (zg Z 108)), (1, .ref (zg Z (2 + 7 * j)))]) hx hb dX5_clause_4 rfl hl (by decide) rfl (fun ls hl => ?_)
  refine lv_iload_n hx hb dX5_clause_5 rfl (lv_at hl 0 rfl) ?_
  refine lv_if_lt (tgt := 18) hx hb dX5_clause_6 (by decide) (fun c_6 => ?_) (fun c_6 => ?_)
  · skip
    refine lv_iconst (v := 0) hx hb dX5_clause_18 (by decide) ?_
    exact g_nret X h dX5_clause_19 rfl (by rcases Nat.lt_or_ge (clW t z a) 5 with q | q; (obtain ⟨w1, w2⟩ := hwb1 q; have w3 : (allS t z (clW t z a) a).1 = false := clW_neg (clW_5 t z a) w1 c_6; exact RC_eq (u := v1) (clR_w q w3) rfl (RC_no (by rw [w2]; exact FC_at) (by rw [w2, up2_same]))); (obtain ⟨w1, w2⟩ := hwa1 (by have := clW_5 t z a; omega); exact RC_eq (u := v1) (clR_5 (by have := clW_5 t z a; omega)) rfl (RC_no (by rw [w2]; exact FC_refl _ _) (by rw [w2]; exact ha))))
  · skip
    obtain ⟨hW5, hok, hr1, hv1⟩ := word_y (clW_5 t z a) hwa1 hwb1 c_6
    have hle := allF_le (t := t) (z := z) (strB.getD (clW t z a) []) a haz
    change a ≤ (allS t z (clW t z a) a).2 ∧ (allS t z (clW t z a) a).2 ≤ z at hle
    refine lv_aload_n hx hb dX5_clause_9 rfl (lv_at hl 1 rfl) ?_
    refine lv_bipush (v := 32) hx hb dX5_clause_10 (by decide) ?_
    refine g_ki h (g_runV X h (As := [.int 32]) (rest := []) (c_X5_skip gl Z v1 w 32 t z ((allS t z (clW t z a) a).2) (by rw [hv1]; exact PT_at hP hle.2)) mi_X5_skip ml_RX5_35 (cc_108) (by decide) kl5 rfl ⟨Nat.le_of_ble_eq_true rfl, Nat.le_of_ble_eq_true rfl⟩ rfl hl.1 rfl (Nat.le_of_ble_eq_true rfl) dX5_clause_12) (fun r12 v12 w12 H locs hp12 h => ?_)
    obtain ⟨hr12, hu12⟩ := hp12
    obtain ⟨ev12, rfl⟩ := Prod.mk.inj hu12
    replace ev12 := ev12.symm
    refine lv_if_ne (tgt := 20) hx hb dX5_clause_15 (by decide) (fun c_15 => ?_) (fun c_15 => ?_)
    · skip
      rw [hr12, bI_n] at c_15
      rw [if_pos c_15] at ev12
      have hv12 : v12 = up2 v 108 2 (nI ((allS t z (clW t z a) a).2 + 1)) := by rw [ev12, hv1, up2_up2]
      have hR := clR_n hW5 hok c_15 rfl
      have hbz := isAt_lt c_15
      refine lv_aload_n hx hb dX5_clause_20 rfl (lv_at hl 1 rfl) ?_
      refine g_ki h (g_runV X h (As := []) (rest := []) (c_X5_number gl Z v12 w t z ((allS t z (clW t z a) a).2 + 1) (by rw [hv12]; exact PT_at hP (isAt_lt c_15))) mi_X5_number ml_RX5_43 (cc_108) (by decide) kl5 rfl ⟨Nat.le_of_ble_eq_true rfl, Nat.le_of_ble_eq_true rfl⟩ rfl hl.1 rfl (Nat.le_of_ble_eq_true rfl) dX5_clause_21) (fun r21 v21 w21 H locs hp21 h => ?_)
      obtain ⟨hr21, hu21⟩ := hp21
      obtain ⟨ev21, rfl⟩ := Prod.mk.inj hu21
      replace ev21 := ev21.symm
      have hv21 : v21 = up2 v 108 2 (nI (((allS t z (clW t z a) a).2 + 1) + (nmC t z ((allS t z (clW t z a) a).2 + 1)))) := by rw [ev21, hv12, up2_up2]
      refine lv_istore_n (lv' := [(3, .int r21), (2, .int r1), (0, .ref (zg Z 108)), (1, .ref (zg Z (2 + 7 * j)))]) hx hb dX5_clause_24 rfl hl (by decide) rfl (fun ls hl => ?_)
      refine lv_iload_n hx hb dX5_clause_25 rfl (lv_at hl 0 rfl) ?_
      refine lv_if_ge (tgt := 31) hx hb dX5_clause_26 (by decide) (fun c_26 => ?_) (fun c_26 => ?_)
      · skip
        have hn0 : ¬ nmC t z ((allS t z (clW t z a) a).2 + 1) = 0 := fun q => absurd (numA_neg.mpr q) (by rw [← hr21]; exact Int32.not_lt.mpr c_26)
        have hnz : ((allS t z (clW t z a) a).2 + 1) + (nmC t z ((allS t z (clW t z a) a).2 + 1)) ≤ z := nmC_le (by omega)
        refine lv_iload_n hx hb dX5_clause_31 rfl (lv_at hl 1 rfl) ?_
        by_cases t32_0 : r1 = 0
        · refine lv_tableIn (off := 32) (tgt := 64) hx hb dX5_clause_32 (by rw [t32_0]; decide) (by rw [t32_0]; decide) (by rw [t32_0]; rfl) (by decide) ?_
          have hW : clW t z a = 0 := nI_eq1 (b := 0) hr1 rfl (by omega) (by omega) t32_0
          refine lv_aload_n hx hb dX5_clause_64 rfl (lv_at hl 2 rfl) ?_
          refine lv_bipush (v := 32) hx hb dX5_clause_65 (by decide) ?_
          refine g_ki h (g_runV X h (As := [.int 32]) (rest := []) (c_X5_skip gl Z v21 w 32 t z (((allS t z (clW t z a) a).2 + 1) + (nmC t z ((allS t z (clW t z a) a).2 + 1))) (by rw [hv21]; exact PT_at hP hnz)) mi_X5_skip ml_RX5_35 (cc_108) (by decide) kl5 rfl ⟨Nat.le_of_ble_eq_true rfl, Nat.le_of_ble_eq_true rfl⟩ rfl hl.1 rfl (Nat.le_of_ble_eq_true rfl) dX5_clause_67) (fun r67 v67 w67 H locs hp67 h => ?_)
          obtain ⟨hr67, hu67⟩ := hp67
          obtain ⟨ev67, rfl⟩ := Prod.mk.inj hu67
          replace ev67 := ev67.symm
          refine lv_if_eq (tgt := 82) hx hb dX5_clause_70 (by decide) (fun c_70 => ?_) (fun c_70 => ?_)
          · skip
            rw [hr67, bI_0] at c_70
            rw [if_neg (by rw [c_70]; decide)] at ev67
            have hv67 : v67 = up2 v 108 2 (nI (((allS t z (clW t z a) a).2 + 1) + (nmC t z ((allS t z (clW t z a) a).2 + 1)))) := by rw [ev67, hv21]
            refine lv_iconst (v := 0) hx hb dX5_clause_82 (by decide) ?_
            exact g_nret X h dX5_clause_83 rfl (RC_eq (u := v67) (((hR.trans (if_neg hn0)).trans (if_neg (by omega))).trans (if_neg (by rw [c_70]; decide))) rfl (RC_no (by rw [hv67]; exact FC_at) (by rw [hv67, up2_same])))
          · skip
            rw [hr67, bI_n] at c_70
            rw [if_pos c_70] at ev67
            have hv67 : v67 = up2 v 108 2 (nI (((allS t z (clW t z a) a).2 + 1) + (nmC t z ((allS t z (clW t z a) a).2 + 1)) + 1)) := by rw [ev67, hv21, up2_up2]
            have hlt67 := isAt_lt c_70
            refine lv_aload_n hx hb dX5_clause_73 rfl (lv_at hl 2 rfl) ?_
            refine lv_aload_n hx hb dX5_clause_74 rfl (lv_at hl 3 rfl) ?_
            refine lv_iconst (v := 0) hx hb dX5_clause_75 (by decide) ?_
            refine g_ki h (g_runV X h (As := [.ref (zg Z (2 + 7 * j)), .int 0]) (rest := []) (c_X5_either_0 gl Z v67 w t z (((allS t z (clW t z a) a).2 + 1) + (nmC t z ((allS t z (clW t z a) a).2 + 1)) + 1) (by rw [hv67]; exact PT_at hP (isAt_lt c_70)) j hj7 (cumL (DLs L) (DLs L).length) (by rw [hv67, up2_ne (by omega)]; exact hrep.2.2.1) (by omega)) mi_X5_either ml_RX5_46 (cc_108) (by decide) kl5 rfl ⟨Nat.le_of_ble_eq_true rfl, Nat.le_of_ble_eq_true rfl⟩ rfl hl.1 rfl (Nat.le_of_ble_eq_true rfl) dX5_clause_76) (fun r76 v76 w76 H locs hp76 h => ?_)
            obtain ⟨hr76, hw76, hRT76⟩ := hp76
            obtain ⟨-, rfl⟩ := Prod.mk.inj hw76
            replace hRT76 : RT _ _ _ _ v76 _ := hRT76
            refine lv_if_ne (tgt := 84) hx hb dX5_clause_79 (by decide) (fun c_79 => ?_) (fun c_79 => ?_)
            · skip
              rw [hr76, bI_n] at c_79
              refine lv_aload_n hx hb dX5_clause_84 rfl (lv_at hl 3 rfl) ?_
              refine lv_iload_n hx hb dX5_clause_85 rfl (lv_at hl 1 rfl) ?_
              refine lv_if_ne (tgt := 93) hx hb dX5_clause_86 (by decide) (fun c_86 => ?_) (fun c_86 => ?_)
              · exact absurd t32_0 c_86
              · skip
                refine lv_iload_n hx hb dX5_clause_89 rfl (lv_at hl 0 rfl) ?_
                refine lv_goto (tgt := 95) hx hb dX5_clause_90 (by decide) ?_
                refine g_kv h (g_runV X h (As := [.int r21]) (rest := []) (c_X1_addDoor gl Z v76 w r21 (2 + 7 * j) hL ((DLs L).length) (by rw [hRT76.1.2.2.1 3 (by decide), hv67, up2_ne (by omega)]; exact hrep.2.1) hD) mi_X1_addDoor ml_RX5_50 (cL_0 hL) (by decide) kl1 rfl ⟨Nat.le_of_ble_eq_true rfl, Nat.le_of_ble_eq_true rfl⟩ rfl hl.1 rfl (Nat.le_of_ble_eq_true rfl) dX5_clause_95) (fun v95 w95 H locs hp95 h => ?_)
                obtain ⟨ev95, rfl⟩ := Prod.mk.inj hp95
                replace ev95 := ev95.symm
                refine lv_iconst (v := 1) hx hb dX5_clause_98 (by decide) ?_
                exact g_nret X h dX5_clause_99 rfl (RC_eq (u := v95) ((((hR.trans (if_neg hn0)).trans (if_neg (by omega))).trans (if_pos c_70)).trans (if_pos c_79)) rfl ⟨FC_trans (u := v76) (FC_trans (u := v67) (by rw [hv67]; exact FC_at) (FT_FC hRT76.1)) (by rw [ev95]; exact FC_dr (by omega)), (by rw [ev95, drS, up2_ne (by omega), up2_ne (by omega), up2_ne (by omega)]; exact hRT76.2.1), fun _ => (by rw [ev95]; exact repL_door (v := v67) (u := v76) (x := r21) (wd := clW t z a) (n := (nmV t ((allS t z (clW t z a) a).2 + 1) (nmC t z ((allS t z (clW t z a) a).2 + 1)))) (l := (rdE t z 4 (((allS t z (clW t z a) a).2 + 1) + (nmC t z ((allS t z (clW t z a) a).2 + 1)) + 1)).2.2) (by omega) (by rw [hv67]; exact repL_at (by omega) hrep) hRT76.1 (hRT76.2.2 c_79) (by omega) (by rw [hr21, numA, if_neg hn0, wtC, if_pos (by show  clW t z a = 0; omega)]))⟩)
            · skip
              rw [hr76, bI_0] at c_79
              refine lv_iconst (v := 0) hx hb dX5_clause_82 (by decide) ?_
              exact g_nret X h dX5_clause_83 rfl (RC_eq (u := v76) ((((hR.trans (if_neg hn0)).trans (if_neg (by omega))).trans (if_pos c_70)).trans (if_neg (by rw [c_79]; decide))) rfl (RC_no (FC_trans (u := v67) (by rw [hv67]; exact FC_at) (FT_FC hRT76.1)) hRT76.2.1))
        · skip
          by_cases t32_1 : r1 = 1
          · refine lv_tableIn (off := 32) (tgt := 64) hx hb dX5_clause_32 (by rw [t32_1]; decide) (by rw [t32_1]; decide) (by rw [t32_1]; rfl) (by decide) ?_
            have hW : clW t z a = 1 := nI_eq1 (b := 1) hr1 rfl (by omega) (by omega) t32_1
            refine lv_aload_n hx hb dX5_clause_64 rfl (lv_at hl 2 rfl) ?_
            refine lv_bipush (v := 32) hx hb dX5_clause_65 (by decide) ?_
            refine g_ki h (g_runV X h (As := [.int 32]) (rest := []) (c_X5_skip gl Z v21 w 32 t z (((allS t z (clW t z a) a).2 + 1) + (nmC t z ((allS t z (clW t z a) a).2 + 1))) (by rw [hv21]; exact PT_at hP hnz)) mi_X5_skip ml_RX5_35 (cc_108) (by decide) kl5 rfl ⟨Nat.le_of_ble_eq_true rfl, Nat.le_of_ble_eq_true rfl⟩ rfl hl.1 rfl (Nat.le_of_ble_eq_true rfl) dX5_clause_67) (fun r67 v67 w67 H locs hp67 h => ?_)
            obtain ⟨hr67, hu67⟩ := hp67
            obtain ⟨ev67, rfl⟩ := Prod.mk.inj hu67
            replace ev67 := ev67.symm
            refine lv_if_eq (tgt := 82) hx hb dX5_clause_70 (by decide) (fun c_70 => ?_) (fun c_70 => ?_)
            · skip
              rw [hr67, bI_0] at c_70
              rw [if_neg (by rw [c_70]; decide)] at ev67
              have hv67 : v67 = up2 v 108 2 (nI (((allS t z (clW t z a) a).2 + 1) + (nmC t z ((allS t z (clW t z a) a).2 + 1)))) := by rw [ev67, hv21]
              refine lv_iconst (v := 0) hx hb dX5_clause_82 (by decide) ?_
              exact g_nret X h dX5_clause_83 rfl (RC_eq (u := v67) (((hR.trans (if_neg hn0)).trans (if_neg (by omega))).trans (if_neg (by rw [c_70]; decide))) rfl (RC_no (by rw [hv67]; exact FC_at) (by rw [hv67, up2_same])))
            · skip
              rw [hr67, bI_n] at c_70
              rw [if_pos c_70] at ev67
              have hv67 : v67 = up2 v 108 2 (nI (((allS t z (clW t z a) a).2 + 1) + (nmC t z ((allS t z (clW t z a) a).2 + 1)) + 1)) := by rw [ev67, hv21, up2_up2]
              have hlt67 := isAt_lt c_70
              refine lv_aload_n hx hb dX5_clause_73 rfl (lv_at hl 2 rfl) ?_
              refine lv_aload_n hx hb dX5_clause_74 rfl (lv_at hl 3 rfl) ?_
              refine lv_iconst (v := 0) hx hb dX5_clause_75 (by decide) ?_
              refine g_ki h (g_runV X h (As := [.ref (zg Z (2 + 7 * j)), .int 0]) (rest := []) (c_X5_either_0 gl Z v67 w t z (((allS t z (clW t z a) a).2 + 1) + (nmC t z ((allS t z (clW t z a) a).2 + 1)) + 1) (by rw [hv67]; exact PT_at hP (isAt_lt c_70)) j hj7 (cumL (DLs L) (DLs L).length) (by rw [hv67, up2_ne (by omega)]; exact hrep.2.2.1) (by omega)) mi_X5_either ml_RX5_46 (cc_108) (by decide) kl5 rfl ⟨Nat.le_of_ble_eq_true rfl, Nat.le_of_ble_eq_true rfl⟩ rfl hl.1 rfl (Nat.le_of_ble_eq_true rfl) dX5_clause_76) (fun r76 v76 w76 H locs hp76 h => ?_)
              obtain ⟨hr76, hw76, hRT76⟩ := hp76
              obtain ⟨-, rfl⟩ := Prod.mk.inj hw76
              replace hRT76 : RT _ _ _ _ v76 _ := hRT76
              refine lv_if_ne (tgt := 84) hx hb dX5_clause_79 (by decide) (fun c_79 => ?_) (fun c_79 => ?_)
              · skip
                rw [hr76, bI_n] at c_79
                refine lv_aload_n hx hb dX5_clause_84 rfl (lv_at hl 3 rfl) ?_
                refine lv_iload_n hx hb dX5_clause_85 rfl (lv_at hl 1 rfl) ?_
                refine lv_if_ne (tgt := 93) hx hb dX5_clause_86 (by decide) (fun c_86 => ?_) (fun c_86 => ?_)
                · skip
                  refine lv_iload_n hx hb dX5_clause_93 rfl (lv_at hl 0 rfl) ?_
                  refine lv_ineg hx hb dX5_clause_94 ?_
                  refine g_kv h (g_runV X h (As := [.int (-r21)]) (rest := []) (c_X1_addDoor gl Z v76 w (-r21) (2 + 7 * j) hL ((DLs L).length) (by rw [hRT76.1.2.2.1 3 (by decide), hv67, up2_ne (by omega)]; exact hrep.2.1) hD) mi_X1_addDoor ml_RX5_50 (cL_0 hL) (by decide) kl1 rfl ⟨Nat.le_of_ble_eq_true rfl, Nat.le_of_ble_eq_true rfl⟩ rfl hl.1 rfl (Nat.le_of_ble_eq_true rfl) dX5_clause_95) (fun v95 w95 H locs hp95 h => ?_)
                  obtain ⟨ev95, rfl⟩ := Prod.mk.inj hp95
                  replace ev95 := ev95.symm
                  refine lv_iconst (v := 1) hx hb dX5_clause_98 (by decide) ?_
                  exact g_nret X h dX5_clause_99 rfl (RC_eq (u := v95) ((((hR.trans (if_neg hn0)).trans (if_neg (by omega))).trans (if_pos c_70)).trans (if_pos c_79)) rfl ⟨FC_trans (u := v76) (FC_trans (u := v67) (by rw [hv67]; exact FC_at) (FT_FC hRT76.1)) (by rw [ev95]; exact FC_dr (by omega)), (by rw [ev95, drS, up2_ne (by omega), up2_ne (by omega), up2_ne (by omega)]; exact hRT76.2.1), fun _ => (by rw [ev95]; exact repL_door (v := v67) (u := v76) (x := (-r21)) (wd := clW t z a) (n := (nmV t ((allS t z (clW t z a) a).2 + 1) (nmC t z ((allS t z (clW t z a) a).2 + 1)))) (l := (rdE t z 4 (((allS t z (clW t z a) a).2 + 1) + (nmC t z ((allS t z (clW t z a) a).2 + 1)) + 1)).2.2) (by omega) (by rw [hv67]; exact repL_at (by omega) hrep) hRT76.1 (hRT76.2.2 c_79) (by omega) (by rw [hr21, numA, if_neg hn0, wtC, if_neg (by show ¬ clW t z a = 0; omega)]))⟩)
                · exact absurd c_86 t32_0
              · skip
                rw [hr76, bI_0] at c_79
                refine lv_iconst (v := 0) hx hb dX5_clause_82 (by decide) ?_
                exact g_nret X h dX5_clause_83 rfl (RC_eq (u := v76) ((((hR.trans (if_neg hn0)).trans (if_neg (by omega))).trans (if_pos c_70)).trans (if_neg (by rw [c_79]; decide))) rfl (RC_no (FC_trans (u := v67) (by rw [hv67]; exact FC_at) (FT_FC hRT76.1)) hRT76.2.1))
          · skip
            by_cases t32_2 : r1 = 2
            · refine lv_tableIn (off := 68) (tgt := 100) hx hb dX5_clause_32 (by rw [t32_2]; decide) (by rw [t32_2]; decide) (by rw [t32_2]; rfl) (by decide) ?_
              have hW : clW t z a = 2 := nI_eq1 (b := 2) hr1 rfl (by omega) (by omega) t32_2
              refine lv_aload_n hx hb dX5_clause_100 rfl (lv_at hl 3 rfl) ?_
              refine lv_iload_n hx hb dX5_clause_101 rfl (lv_at hl 0 rfl) ?_
              refine g_puti X h (k := 0) (cL_0 hL) fp_RX5_54 rfl (by decide) dX5_clause_102 (fun v102 H locs ev102 h => ?_)
              refine lv_iconst (v := 1) hx hb dX5_clause_105 (by decide) ?_
              exact g_nret X h dX5_clause_106 rfl (RC_eq (u := v102) ((hR.trans (if_neg hn0)).trans (if_pos (by omega))) rfl ⟨FC_trans (u := v21) (by rw [hv21]; exact FC_at) (by rw [ev102]; exact FC_lb (by omega) (by omega)), (by rw [ev102, up2_ne (by omega), hv21, up2_same]), fun _ => (by have z9 := repL_num (v := v21) (lb := 2 + 7 * j) (L := L) (n := (nmV t ((allS t z (clW t z a) a).2 + 1) (nmC t z ((allS t z (clW t z a) a).2 + 1)))) (wd := clW t z a) (by rw [hv21]; exact repL_at (by omega) hrep) (by omega) (by omega); rw [show clW t z a - 2 = 0 by omega] at z9; rw [ev102, hr21, numA, if_neg hn0]; exact z9)⟩)
            · skip
              by_cases t32_3 : r1 = 3
              · refine lv_tableIn (off := 75) (tgt := 107) hx hb dX5_clause_32 (by rw [t32_3]; decide) (by rw [t32_3]; decide) (by rw [t32_3]; rfl) (by decide) ?_
                have hW : clW t z a = 3 := nI_eq1 (b := 3) hr1 rfl (by omega) (by omega) t32_3
                refine lv_aload_n hx hb dX5_clause_107 rfl (lv_at hl 3 rfl) ?_
                refine lv_iload_n hx hb dX5_clause_108 rfl (lv_at hl 0 rfl) ?_
                refine g_puti X h (k := 1) (cL_0 hL) fp_RX5_57 rfl (by decide) dX5_clause_109 (fun v109 H locs ev109 h => ?_)
                refine lv_iconst (v := 1) hx hb dX5_clause_112 (by decide) ?_
                exact g_nret X h dX5_clause_113 rfl (RC_eq (u := v109) ((hR.trans (if_neg hn0)).trans (if_pos (by omega))) rfl ⟨FC_trans (u := v21) (by rw [hv21]; exact FC_at) (by rw [ev109]; exact FC_lb (by omega) (by omega)), (by rw [ev109, up2_ne (by omega), hv21, up2_same]), fun _ => (by have z9 := repL_num (v := v21) (lb := 2 + 7 * j) (L := L) (n := (nmV t ((allS t z (clW t z a) a).2 + 1) (nmC t z ((allS t z (clW t z a) a).2 + 1)))) (wd := clW t z a) (by rw [hv21]; exact repL_at (by omega) hrep) (by omega) (by omega); rw [show clW t z a - 2 = 1 by omega] at z9; rw [ev109, hr21, numA, if_neg hn0]; exact z9)⟩)
              · skip
                have q0 := lv_neT t32_0 (a := 0) (by decide)
                have q1 := lv_neT t32_1 (a := 1) (by decide)
                have q2 := lv_neT t32_2 (a := 2) (by decide)
                have q3 := lv_neT t32_3 (a := 3) (by decide)
                refine lv_tableOut (tgt := 114) hx hb dX5_clause_32 (by omega) (by decide) ?_
                have hW : clW t z a = 4 := by
                  have e0 := nI_eq0 (b := 0) hr1 rfl t32_0
                  have e1 := nI_eq0 (b := 1) hr1 rfl t32_1
                  have e2 := nI_eq0 (b := 2) hr1 rfl t32_2
                  have e3 := nI_eq0 (b := 3) hr1 rfl t32_3
                  omega
                refine lv_aload_n hx hb dX5_clause_114 rfl (lv_at hl 3 rfl) ?_
                refine lv_iload_n hx hb dX5_clause_115 rfl (lv_at hl 0 rfl) ?_
                refine g_puti X h (k := 2) (cL_0 hL) fp_RX5_60 rfl (by decide) dX5_clause_116 (fun v116 H locs ev116 h => ?_)
                refine lv_iconst (v := 1) hx hb dX5_clause_119 (by decide) ?_
                exact g_nret X h dX5_clause_120 rfl (RC_eq (u := v116) ((hR.trans (if_neg hn0)).trans (if_pos (by omega))) rfl ⟨FC_trans (u := v21) (by rw [hv21]; exact FC_at) (by rw [ev116]; exact FC_lb (by omega) (by omega)), (by rw [ev116, up2_ne (by omega), hv21, up2_same]), fun _ => (by have z9 := repL_num (v := v21) (lb := 2 + 7 * j) (L := L) (n := (nmV t ((allS t z (clW t z a) a).2 + 1) (nmC t z ((allS t z (clW t z a) a).2 + 1)))) (wd := clW t z a) (by rw [hv21]; exact repL_at (by omega) hrep) (by omega) (by omega); rw [show clW t z a - 2 = 2 by omega] at z9; rw [ev116, hr21, numA, if_neg hn0]; exact z9)⟩)
      · skip
        have hn0 : nmC t z ((allS t z (clW t z a) a).2 + 1) = 0 := numA_neg.mp (by rw [← hr21]; exact Int32.not_le.mp c_26)
        refine lv_iconst (v := 0) hx hb dX5_clause_29 (by decide) ?_
        exact g_nret X h dX5_clause_30 rfl (RC_eq (u := v21) (hR.trans (if_pos hn0)) rfl (RC_no (by rw [hv21]; exact FC_at) (by rw [hv21, up2_same, hn0])))
    · skip
      rw [hr12, bI_0] at c_15
      rw [if_neg (by rw [c_15]; decide)] at ev12
      have hv12 : v12 = up2 v 108 2 (nI (allS t z (clW t z a) a).2) := by rw [ev12, hv1]
      refine lv_iconst (v := 0) hx hb dX5_clause_18 (by decide) ?_
      exact g_nret X h dX5_clause_19 rfl (RC_eq (u := v12) (clR_b hW5 hok c_15) rfl (RC_no (by rw [hv12]; exact FC_at) (by rw [hv12, up2_same])))

set_option maxRecDepth 100000 in
set_option maxHeartbeats 1000000 in
theorem c_X5_becomes (gl : Launch) (Z : PL) (v : VV) (w : WV) (t : Nat → Int32) (z : Nat) (ht : v 109 = t) (hz : v 108 1 = nI z) (hz1 : z ≤ 100) (hch : ∀ k, k < z → inR (t k) 0 127 = true) (j : Nat) (hj7 : j < 7) : CT gl yX5_becomes cX5_becomes 4 (some .int) 17 400 Z [.ref (zg Z 108), .ref (zg Z (2 + 7 * j))] v w (Qi Z (fun r u => r = (if (ldR t z).1 = true then -1 else nI (ldR t z).2.1) ∧ (u.1, w) = u ∧ (∀ i, i ≠ 108 → (i < 2 + 7 * j ∨ 2 + 7 * j + 5 < i) → u.1 i = v i) ∧ u.1 108 1 = 0 ∧ ((ldR t z).1 = true → repL u.1 (2 + 7 * j) (ldR t z).2.2 ∧ cumL (DLs (ldR t z).2.2) (DLs (ldR t z).2.2).length ≤ 100))) := by
  refine g_met (by decide) (Nat.le_of_ble_eq_true rfl) ?_
  intro gp ge gs gm ga gb gh gc X h ls hl
  have hx := X.1
  have hb := X.2.1
  have hl : lv_has ls 4 [(0, .ref (zg Z 108)), (1, .ref (zg Z (2 + 7 * j)))] := hl
  have hL : isL (2 + 7 * j) := isLj hj7
  refine lv_aload_n hx hb dX5_becomes_0 rfl (lv_at hl 1 rfl) ?_
  refine g_kv h (g_runV X h (As := []) (rest := []) (c_X1_clear gl Z v w (2 + 7 * j) hL) mi_X1_clear ml_RX5_23 (cL_0 hL) (by decide) kl1 rfl ⟨Nat.le_of_ble_eq_true rfl, Nat.le_of_ble_eq_true rfl⟩ rfl hl.1 rfl (Nat.le_of_ble_eq_true rfl) dX5_becomes_1) (fun v1 w1 H locs hp1 h => ?_)
  obtain ⟨ev1, rfl⟩ := Prod.mk.inj hp1
  replace ev1 := ev1.symm
  refine lv_aload_n hx hb dX5_becomes_4 rfl (lv_at hl 0 rfl) ?_
  refine lv_iconst (v := 0) hx hb dX5_becomes_5 (by decide) ?_
  refine g_puti X h (k := 2) (cc_108) fp_RX5_28 rfl (by decide) dX5_becomes_6 (fun v6 H locs ev6 h => ?_)
  have hP6 : PT v6 t z 0 := ⟨by rw [ev6, ev1, clrS, up2_ne (by decide), up2_ne (by omega), up2_ne (by omega), up2_ne (by omega), up2_ne (by omega), up2_ne (by omega)]; exact ht, by rw [ev6, up2_slot (by decide), ev1, clrS, up2_ne (by omega), up2_ne (by omega), up2_ne (by omega), up2_ne (by omega), up2_ne (by omega)]; exact hz, by rw [ev6, up2_same]; rfl, hz1, Nat.zero_le _, hch⟩
  have hG0 := clR_G (t := t) (z := z) (Nat.zero_le z)
  have hFC6 : FC v v6 (2 + 7 * j) := FC_trans (u := v1) (by rw [ev1]; exact FC_trans (FC_trans (FC_trans (FC_trans (FC_lb (by omega) (by omega)) (FC_lb (by omega) (by omega))) (FC_lb (by omega) (by omega))) (FC_lb (by omega) (by omega))) (FC_lb (by omega) (by omega))) (by rw [ev6]; exact FC_at)
  refine lv_aload_n hx hb dX5_becomes_9 rfl (lv_at hl 0 rfl) ?_
  refine lv_aload_n hx hb dX5_becomes_10 rfl (lv_at hl 1 rfl) ?_
  refine g_ki h (g_runV X h (As := [.ref (zg Z (2 + 7 * j))]) (rest := []) (c_X5_clause gl Z v6 w t z 0 hP6 j hj7 ([]) (by rw [ev6]; exact repL_at (by omega) (by rw [ev1]; exact repL_nil)) (by decide) (by show 0 + (z - 0) ≤ 100; omega)) mi_X5_clause ml_RX5_31 (cc_108) (by decide) kl5 rfl ⟨Nat.le_of_ble_eq_true rfl, Nat.le_of_ble_eq_true rfl⟩ rfl hl.1 rfl (Nat.le_of_ble_eq_true rfl) dX5_becomes_11) (fun r11 v11 w11 H locs hp11 h => ?_)
  obtain ⟨hr11, hw11, hRC11⟩ := hp11
  obtain ⟨-, rfl⟩ := Prod.mk.inj hw11
  replace hRC11 : RC _ _ _ v11 _ := hRC11
  refine lv_istore_n (lv' := [(2, .int r11), (0, .ref (zg Z 108)), (1, .ref (zg Z (2 + 7 * j)))]) hx hb dX5_becomes_14 rfl hl (by decide) rfl (fun ls hl => ?_)
  refine lv_iconst (v := 1) hx hb dX5_becomes_15 (by decide) ?_
  refine lv_istore_n (lv' := [(3, .int 1), (2, .int r11), (0, .ref (zg Z 108)), (1, .ref (zg Z (2 + 7 * j)))]) hx hb dX5_becomes_16 rfl hl (by decide) rfl (fun ls hl => ?_)
  have L17 : ∀ (n17 : Nat) (x2 x3 : Int32) (ft : Bool) (n b : Nat) (L : LND) (va : VV), (x2 = bI ft) → (x3 = nI n) → (1 ≤ n) → (n ≤ 10) → (PT va t z b) → (FC v va (2 + 7 * j)) → (ft = true → repL va (2 + 7 * j) L ∧ L.length = n ∧ cumL (DLs L) (DLs L).length ≤ b) → (ldR t z = (if ft then (if b = z then (true, z, L) else if n = 10 then (false, b, []) else if isAt t z b 59 then ldL t z (10 - n) (b + 1) L else (false, b, [])) else (false, b, []))) → 10 - n < n17 → ∀ (H : Heap) (locs : List Loc), HS Z gs va w H locs → ∀ ls : Array Slot, lv_has ls 4 [(0, .ref (zg Z 108)), (1, .ref (zg Z (2 + 7 * j))), (2, .int x2), (3, .int x3)] → W gp gl ge (rmm 17 400) gs gm ga gb gh gc H locs 0 0 (MQ gb (Qi Z (fun r u => r = (if (ldR t z).1 = true then -1 else nI (ldR t z).2.1) ∧ (u.1, w) = u ∧ (∀ i, i ≠ 108 → (i < 2 + 7 * j ∨ 2 + 7 * j + 5 < i) → u.1 i = v i) ∧ u.1 108 1 = 0 ∧ ((ldR t z).1 = true → repL u.1 (2 + 7 * j) (ldR t z).2.2 ∧ cumL (DLs (ldR t z).2.2) (DLs (ldR t z).2.2).length ≤ 100))) ga gs 0 0 (zA Z)) (F0 gm 17 ls []) := by
    intro n17
    induction n17 with
    | zero => intro x2 x3 ft n b L va hx2 hx3 hn1 hn hP hFC hrepL hR hmu; exact absurd hmu (Nat.not_lt_zero _)
    | succ n17 ih17 =>
      intro x2 x3 ft n b L va hx2 hx3 hn1 hn hP hFC hrepL hR hmu17 H locs h ls hl
      have hbz9 : b ≤ z := hP.2.2.2.2.1
      refine lv_iload_n hx hb dX5_becomes_17 rfl (lv_at hl 3 rfl) ?_
      refine lv_bipush (v := 10) hx hb dX5_becomes_18 (by decide) ?_
      refine lv_icmp_ge (tgt := 67) hx hb dX5_becomes_20 (by decide) (fun c_20 => ?_) (fun c_20 => ?_)
      · skip
        have hn10 : n = 10 := by have q := nI_le1 (a := 10) (b := n) rfl hx3 (by omega) (by omega) c_20; omega
        refine lv_iload_n hx hb dX5_becomes_67 rfl (lv_at hl 2 rfl) ?_
        refine lv_if_eq (tgt := 86) hx hb dX5_becomes_68 (by decide) (fun c_68 => ?_) (fun c_68 => ?_)
        · skip
          replace c_68 : ft = false := bI_0.mp (hx2.symm.trans c_68)
          refine lv_aload_n hx hb dX5_becomes_86 rfl (lv_at hl 0 rfl) ?_
          refine g_geti X h (k := 2) (cc_108) fr_RX5_28 rfl (by decide) dX5_becomes_87 ?_
          refine lv_topi (fun x3_90 ex3_90 => ?_)
          refine lv_istore_n (lv' := [(3, .int x3_90), (0, .ref (zg Z 108)), (1, .ref (zg Z (2 + 7 * j))), (2, .int x2)]) hx hb dX5_becomes_90 rfl hl (by decide) rfl (fun ls hl => ?_)
          refine lv_aload_n hx hb dX5_becomes_91 rfl (lv_at hl 1 rfl) ?_
          refine lv_iconst (v := 0) hx hb dX5_becomes_92 (by decide) ?_
          refine g_puti X h (k := 1) (cc_108) fp_RX5_15 rfl (by decide) dX5_becomes_93 (fun v93 H locs ev93 h => ?_)
          refine lv_iload_n hx hb dX5_becomes_96 rfl (lv_at hl 0 rfl) ?_
          exact g_iret X h dX5_becomes_97 (by have hRR : ldR t z = (false, b, []) := hR.trans (if_neg (by rw [c_68]; decide)); exact ⟨by rw [hRR]; exact ex3_90.trans hP.2.2.1, rfl, (fun i a1 b1 => by show v93 i = v i; rw [ev93, up2_ne a1]; exact hFC.1 i a1 b1), (by show v93 108 1 = 0; rw [ev93, up2_same]), fun q => by rw [hRR] at q; cases q⟩)
        · skip
          replace c_68 : ft = true := bI_n.mp (fun q => c_68 (hx2.trans q))
          refine lv_aload_n hx hb dX5_becomes_71 rfl (lv_at hl 0 rfl) ?_
          refine g_geti X h (k := 2) (cc_108) fr_RX5_28 rfl (by decide) dX5_becomes_72 ?_
          refine lv_aload_n hx hb dX5_becomes_75 rfl (lv_at hl 0 rfl) ?_
          refine g_geti X h (k := 1) (cc_108) fr_RX5_15 rfl (by decide) dX5_becomes_76 ?_
          refine lv_icmp_lt (tgt := 86) hx hb dX5_becomes_79 (by decide) (fun c_79 => ?_) (fun c_79 => ?_)
          · skip
            have hb79 := nI_lt1 (a := b) (b := z) hP.2.2.1 hP.2.1 (by omega) (by omega) c_79
            refine lv_aload_n hx hb dX5_becomes_86 rfl (lv_at hl 0 rfl) ?_
            refine g_geti X h (k := 2) (cc_108) fr_RX5_28 rfl (by decide) dX5_becomes_87 ?_
            refine lv_topi (fun x3_90 ex3_90 => ?_)
            refine lv_istore_n (lv' := [(3, .int x3_90), (0, .ref (zg Z 108)), (1, .ref (zg Z (2 + 7 * j))), (2, .int x2)]) hx hb dX5_becomes_90 rfl hl (by decide) rfl (fun ls hl => ?_)
            refine lv_aload_n hx hb dX5_becomes_91 rfl (lv_at hl 1 rfl) ?_
            refine lv_iconst (v := 0) hx hb dX5_becomes_92 (by decide) ?_
            refine g_puti X h (k := 1) (cc_108) fp_RX5_15 rfl (by decide) dX5_becomes_93 (fun v93 H locs ev93 h => ?_)
            refine lv_iload_n hx hb dX5_becomes_96 rfl (lv_at hl 0 rfl) ?_
            exact g_iret X h dX5_becomes_97 (by have hRR : ldR t z = (false, b, []) := hR.trans ((if_pos c_68).trans ((if_neg (by omega)).trans (if_pos (by omega)))); exact ⟨by rw [hRR]; exact ex3_90.trans hP.2.2.1, rfl, (fun i a1 b1 => by show v93 i = v i; rw [ev93, up2_ne a1]; exact hFC.1 i a1 b1), (by show v93 108 1 = 0; rw [ev93, up2_same]), fun q => by rw [hRR] at q; cases q⟩)
          · skip
            have hb79 := nI_lt0 (a := b) (b := z) hP.2.2.1 hP.2.1 (by omega) (by omega) c_79
            have hb80 := hP.2.2.2.2.1
            refine lv_iconst (v := (-1)) hx hb dX5_becomes_82 (by decide) ?_
            refine lv_goto (tgt := 90) hx hb dX5_becomes_83 (by decide) ?_
            refine lv_istore_n (lv' := [(3, .int (-1)), (0, .ref (zg Z 108)), (1, .ref (zg Z (2 + 7 * j))), (2, .int x2)]) hx hb dX5_becomes_90 rfl hl (by decide) rfl (fun ls hl => ?_)
            refine lv_aload_n hx hb dX5_becomes_91 rfl (lv_at hl 1 rfl) ?_
            refine lv_iconst (v := 0) hx hb dX5_becomes_92 (by decide) ?_
            refine g_puti X h (k := 1) (cc_108) fp_RX5_15 rfl (by decide) dX5_becomes_93 (fun v93 H locs ev93 h => ?_)
            refine lv_iload_n hx hb dX5_becomes_96 rfl (lv_at hl 0 rfl) ?_
            exact g_iret X h dX5_becomes_97 (by have hRR : ldR t z = (true, z, L) := hR.trans ((if_pos c_68).trans (if_pos (by omega))); obtain ⟨q1, q2, q3⟩ := hrepL c_68; exact ⟨by rw [hRR]; rfl, rfl, (fun i a1 b1 => by show v93 i = v i; rw [ev93, up2_ne a1]; exact hFC.1 i a1 b1), (by show v93 108 1 = 0; rw [ev93, up2_same]), fun _ => by rw [hRR]; exact ⟨(by show repL v93 _ _; rw [ev93]; exact repL_u q1 (fun i _ _ => up2_ne (by omega))), by show cumL (DLs L) (DLs L).length ≤ 100; omega⟩⟩)
      · skip
        have hn10 : n < 10 := by have q := nI_le0 (a := 10) (b := n) rfl hx3 (by omega) (by omega) c_20; omega
        refine lv_iload_n hx hb dX5_becomes_23 rfl (lv_at hl 2 rfl) ?_
        refine lv_if_eq (tgt := 67) hx hb dX5_becomes_24 (by decide) (fun c_24 => ?_) (fun c_24 => ?_)
        · skip
          have hft : ft = false := bI_0.mp (hx2.symm.trans c_24)
          refine lv_iload_n hx hb dX5_becomes_67 rfl (lv_at hl 2 rfl) ?_
          refine lv_if_eq (tgt := 86) hx hb dX5_becomes_68 (by decide) (fun c_68 => ?_) (fun c_68 => ?_)
          · skip
            replace c_68 : ft = false := bI_0.mp (hx2.symm.trans c_68)
            refine lv_aload_n hx hb dX5_becomes_86 rfl (lv_at hl 0 rfl) ?_
            refine g_geti X h (k := 2) (cc_108) fr_RX5_28 rfl (by decide) dX5_becomes_87 ?_
            refine lv_topi (fun x3_90 ex3_90 => ?_)
            refine lv_istore_n (lv' := [(3, .int x3_90), (0, .ref (zg Z 108)), (1, .ref (zg Z (2 + 7 * j))), (2, .int x2)]) hx hb dX5_becomes_90 rfl hl (by decide) rfl (fun ls hl => ?_)
            refine lv_aload_n hx hb dX5_becomes_91 rfl (lv_at hl 1 rfl) ?_
            refine lv_iconst (v := 0) hx hb dX5_becomes_92 (by decide) ?_
            refine g_puti X h (k := 1) (cc_108) fp_RX5_15 rfl (by decide) dX5_becomes_93 (fun v93 H locs ev93 h => ?_)
            refine lv_iload_n hx hb dX5_becomes_96 rfl (lv_at hl 0 rfl) ?_
            exact g_iret X h dX5_becomes_97 (by have hRR : ldR t z = (false, b, []) := hR.trans (if_neg (by rw [c_68]; decide)); exact ⟨by rw [hRR]; exact ex3_90.trans hP.2.2.1, rfl, (fun i a1 b1 => by show v93 i = v i; rw [ev93, up2_ne a1]; exact hFC.1 i a1 b1), (by show v93 108 1 = 0; rw [ev93, up2_same]), fun q => by rw [hRR] at q; cases q⟩)
          · exact absurd (bI_n.mp (fun q => c_68 (hx2.trans q))) (by rw [hft]; decide)
        · skip
          have hft : ft = true := bI_n.mp (fun q => c_24 (hx2.trans q))
          obtain ⟨hrp, hLn, hcum⟩ := hrepL hft
          refine lv_aload_n hx hb dX5_becomes_27 rfl (lv_at hl 0 rfl) ?_
          refine g_geti X h (k := 2) (cc_108) fr_RX5_28 rfl (by decide) dX5_becomes_28 ?_
          refine lv_aload_n hx hb dX5_becomes_31 rfl (lv_at hl 0 rfl) ?_
          refine g_geti X h (k := 1) (cc_108) fr_RX5_15 rfl (by decide) dX5_becomes_32 ?_
          refine lv_icmp_ge (tgt := 67) hx hb dX5_becomes_35 (by decide) (fun c_35 => ?_) (fun c_35 => ?_)
          · skip
            have hbz : b = z := by have q := nI_le1 (a := z) (b := b) hP.2.1 hP.2.2.1 (by omega) (by omega) c_35; have := hP.2.2.2.2.1; omega
            refine lv_iload_n hx hb dX5_becomes_67 rfl (lv_at hl 2 rfl) ?_
            refine lv_if_eq (tgt := 86) hx hb dX5_becomes_68 (by decide) (fun c_68 => ?_) (fun c_68 => ?_)
            · exact absurd (bI_0.mp (hx2.symm.trans c_68)) (by rw [hft]; decide)
            · skip
              replace c_68 : ft = true := bI_n.mp (fun q => c_68 (hx2.trans q))
              refine lv_aload_n hx hb dX5_becomes_71 rfl (lv_at hl 0 rfl) ?_
              refine g_geti X h (k := 2) (cc_108) fr_RX5_28 rfl (by decide) dX5_becomes_72 ?_
              refine lv_aload_n hx hb dX5_becomes_75 rfl (lv_at hl 0 rfl) ?_
              refine g_geti X h (k := 1) (cc_108) fr_RX5_15 rfl (by decide) dX5_becomes_76 ?_
              refine lv_icmp_lt (tgt := 86) hx hb dX5_becomes_79 (by decide) (fun c_79 => ?_) (fun c_79 => ?_)
              · exact absurd (nI_lt1 (a := b) (b := z) hP.2.2.1 hP.2.1 (by omega) (by omega) c_79) (by omega)
              · skip
                have hb79 := nI_lt0 (a := b) (b := z) hP.2.2.1 hP.2.1 (by omega) (by omega) c_79
                have hb80 := hP.2.2.2.2.1
                refine lv_iconst (v := (-1)) hx hb dX5_becomes_82 (by decide) ?_
                refine lv_goto (tgt := 90) hx hb dX5_becomes_83 (by decide) ?_
                refine lv_istore_n (lv' := [(3, .int (-1)), (0, .ref (zg Z 108)), (1, .ref (zg Z (2 + 7 * j))), (2, .int x2)]) hx hb dX5_becomes_90 rfl hl (by decide) rfl (fun ls hl => ?_)
                refine lv_aload_n hx hb dX5_becomes_91 rfl (lv_at hl 1 rfl) ?_
                refine lv_iconst (v := 0) hx hb dX5_becomes_92 (by decide) ?_
                refine g_puti X h (k := 1) (cc_108) fp_RX5_15 rfl (by decide) dX5_becomes_93 (fun v93 H locs ev93 h => ?_)
                refine lv_iload_n hx hb dX5_becomes_96 rfl (lv_at hl 0 rfl) ?_
                exact g_iret X h dX5_becomes_97 (by have hRR : ldR t z = (true, z, L) := hR.trans ((if_pos c_68).trans (if_pos (by omega))); obtain ⟨q1, q2, q3⟩ := hrepL c_68; exact ⟨by rw [hRR]; rfl, rfl, (fun i a1 b1 => by show v93 i = v i; rw [ev93, up2_ne a1]; exact hFC.1 i a1 b1), (by show v93 108 1 = 0; rw [ev93, up2_same]), fun _ => by rw [hRR]; exact ⟨(by show repL v93 _ _; rw [ev93]; exact repL_u q1 (fun i _ _ => up2_ne (by omega))), by show cumL (DLs L) (DLs L).length ≤ 100; omega⟩⟩)
          · skip
            have hbz : b < z := nI_le0 (a := z) (b := b) hP.2.1 hP.2.2.1 (by omega) (by omega) c_35
            refine lv_aload_n hx hb dX5_becomes_38 rfl (lv_at hl 0 rfl) ?_
            refine lv_bipush (v := 59) hx hb dX5_becomes_39 (by decide) ?_
            refine g_ki h (g_runV X h (As := [.int 59]) (rest := []) (c_X5_skip gl Z va w 59 t z b hP) mi_X5_skip ml_RX5_35 (cc_108) (by decide) kl5 rfl ⟨Nat.le_of_ble_eq_true rfl, Nat.le_of_ble_eq_true rfl⟩ rfl hl.1 rfl (Nat.le_of_ble_eq_true rfl) dX5_becomes_41) (fun r41 v41 w41 H locs hp41 h => ?_)
            obtain ⟨hr41, hu41⟩ := hp41
            obtain ⟨ev41, rfl⟩ := Prod.mk.inj hu41
            replace ev41 := ev41.symm
            refine lv_if_eq (tgt := 59) hx hb dX5_becomes_44 (by decide) (fun c_44 => ?_) (fun c_44 => ?_)
            · skip
              rw [hr41, bI_0] at c_44
              rw [if_neg (by rw [c_44]; decide)] at ev41
              refine lv_iconst (v := 0) hx hb dX5_becomes_59 (by decide) ?_
              refine lv_istore_n (lv' := [(2, .int 0), (0, .ref (zg Z 108)), (1, .ref (zg Z (2 + 7 * j))), (3, .int x3)]) hx hb dX5_becomes_60 rfl hl (by decide) rfl (fun ls hl => ?_)
              refine lv_iinc (v := (x3 + 1)) (lv' := [(3, .int (x3 + 1)), (2, .int 0), (0, .ref (zg Z 108)), (1, .ref (zg Z (2 + 7 * j)))]) hx hb dX5_becomes_61 hl (k := 3) rfl rfl (by decide) rfl (fun ls hl => ?_)
              refine lv_goto (tgt := 17) hx hb dX5_becomes_64 (by decide) ?_
              exact ih17 0 (x3 + 1) false (n + 1) b L v41 rfl (by rw [hx3]; exact nI_1 _) (by omega) (by omega) (by rw [ev41]; exact hP) (by rw [ev41]; exact hFC) (fun q => by cases q) (hR.trans (ld_1 hft hbz (by omega) c_44)) (by omega) _ _ h ls (lv_sub hl [2, 3, 1, 0] rfl)
            · skip
              rw [hr41, bI_n] at c_44
              rw [if_pos c_44] at ev41
              have hG := clR_G (t := t) (z := z) (a := b + 1) (isAt_lt c_44)
              refine lv_aload_n hx hb dX5_becomes_47 rfl (lv_at hl 0 rfl) ?_
              refine lv_aload_n hx hb dX5_becomes_48 rfl (lv_at hl 1 rfl) ?_
              refine g_ki h (g_runV X h (As := [.ref (zg Z (2 + 7 * j))]) (rest := []) (c_X5_clause gl Z v41 w t z (b + 1) (by rw [ev41]; exact PT_at hP (isAt_lt c_44)) j hj7 L (by rw [ev41]; exact repL_at (by omega) (hrepL hft).1) (by have := List.length_filter_le (fun c : CLA => decide (c.1 < 2)) L; show (L.filter _).length < 10; omega) (by omega)) mi_X5_clause ml_RX5_31 (cc_108) (by decide) kl5 rfl ⟨Nat.le_of_ble_eq_true rfl, Nat.le_of_ble_eq_true rfl⟩ rfl hl.1 rfl (Nat.le_of_ble_eq_true rfl) dX5_becomes_49) (fun r49 v49 w49 H locs hp49 h => ?_)
              obtain ⟨hr49, hw49, hRC49⟩ := hp49
              obtain ⟨-, rfl⟩ := Prod.mk.inj hw49
              replace hRC49 : RC _ _ _ v49 _ := hRC49
              rw [ev41] at hRC49
              refine lv_if_eq (tgt := 59) hx hb dX5_becomes_52 (by decide) (fun c_52 => ?_) (fun c_52 => ?_)
              · skip
                rw [hr49, bI_0] at c_52
                refine lv_iconst (v := 0) hx hb dX5_becomes_59 (by decide) ?_
                refine lv_istore_n (lv' := [(2, .int 0), (0, .ref (zg Z 108)), (1, .ref (zg Z (2 + 7 * j))), (3, .int x3)]) hx hb dX5_becomes_60 rfl hl (by decide) rfl (fun ls hl => ?_)
                refine lv_iinc (v := (x3 + 1)) (lv' := [(3, .int (x3 + 1)), (2, .int 0), (0, .ref (zg Z 108)), (1, .ref (zg Z (2 + 7 * j)))]) hx hb dX5_becomes_61 hl (k := 3) rfl rfl (by decide) rfl (fun ls hl => ?_)
                refine lv_goto (tgt := 17) hx hb dX5_becomes_64 (by decide) ?_
                exact ih17 0 (x3 + 1) false (n + 1) (clR t z (b + 1)).2.1 L v49 rfl (by rw [hx3]; exact nI_1 _) (by omega) (by omega) (PT_FC (by omega) (PT_at hP (isAt_lt c_44)) hRC49.1 hRC49.2.1 hG.2.1) (FC_trans hFC (FC_trans (FC_at (x := nI (b + 1))) hRC49.1)) (fun q => by cases q) (hR.trans (ld_2 hft hbz (by omega) c_44 c_52)) (by omega) _ _ h ls (lv_sub hl [2, 3, 1, 0] rfl)
              · skip
                rw [hr49, bI_n] at c_52
                refine lv_iconst (v := 1) hx hb dX5_becomes_55 (by decide) ?_
                refine lv_goto (tgt := 60) hx hb dX5_becomes_56 (by decide) ?_
                refine lv_istore_n (lv' := [(2, .int 1), (0, .ref (zg Z 108)), (1, .ref (zg Z (2 + 7 * j))), (3, .int x3)]) hx hb dX5_becomes_60 rfl hl (by decide) rfl (fun ls hl => ?_)
                refine lv_iinc (v := (x3 + 1)) (lv' := [(3, .int (x3 + 1)), (2, .int 1), (0, .ref (zg Z 108)), (1, .ref (zg Z (2 + 7 * j)))]) hx hb dX5_becomes_61 hl (k := 3) rfl rfl (by decide) rfl (fun ls hl => ?_)
                refine lv_goto (tgt := 17) hx hb dX5_becomes_64 (by decide) ?_
                exact ih17 1 (x3 + 1) true (n + 1) (clR t z (b + 1)).2.1 (L ++ [(clR t z (b + 1)).2.2]) v49 rfl (by rw [hx3]; exact nI_1 _) (by omega) (by omega) (PT_FC (by omega) (PT_at hP (isAt_lt c_44)) hRC49.1 hRC49.2.1 hG.2.1) (FC_trans hFC (FC_trans (FC_at (x := nI (b + 1))) hRC49.1)) (fun _ => ⟨hRC49.2.2 c_52, by rw [List.length_append, List.length_singleton, hLn], cum_s (a := b) hcum (by have := (hG.2.2 c_52).1; omega) (by have := hG.1; omega)⟩) (hR.trans (ld_3 hft hbz (by omega) c_44 c_52)) (by omega) _ _ h ls (lv_sub hl [2, 3, 1, 0] rfl)
  exact L17 (10 - 1 + 1) r11 1 (clR t z 0).1 1 (clR t z 0).2.1 [(clR t z 0).2.2] v11 hr11 rfl (by omega) (by omega) (PT_FC (by omega) hP6 hRC11.1 hRC11.2.1 hG0.2.1) (FC_trans hFC6 hRC11.1) (fun q => ⟨hRC11.2.2 q, rfl, by have z9 := cum_s (L := []) (a := 0) (Nat.zero_le _) (hG0.2.2 q).1; exact z9⟩) ld_0 (Nat.lt_succ_self _) _ _ h ls (lv_sub hl [2, 3, 1, 0] rfl)
