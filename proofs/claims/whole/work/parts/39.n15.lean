/-! the class: the text is read -/
abbrev Qs (Z : PL) (k : Nat) (post : VW → Prop) : Array Value → State → Outcome → State → Prop := va_Qr post (fun u a t => a = zK Z k ∧ OUT Z u t) (zA Z)
section RS
variable {Z : PL} {p : Program} {l : Launch} {e : Env} {R : Room} {s : State} {m : MethodId} {args : Array Value} {below : List Frame} {meth : Method} {c : Code} {H : Heap} {locs : List Loc} {Q : State → Prop} {cc : ByteArray} {nL : Nat} {own : String} {ret : Option FieldType} {pc : Nat} {ls : Array Slot} {rest : List Value} {v : VV} {w : WV} {st : List Value} {a : Array Value}
theorem g_sret (X : Cx Z p s m args meth c cc nL own (some (.object "java/lang/String"))) (h : HS Z s v w H locs) {k : Nat} {post : VW → Prop} (hdg : decode cc pc = .ok (.areturn, 1)) (hp : post (v, w)) : W p l e R s m args below meth c H locs 0 0 (MQ below (Qs Z k post) args s 0 0 (zA Z)) (F0 m pc ls [.ref (zK Z k)]) :=
  W.aret X.1 X.2.1 X.2.2.2.2.2.2.1 (Or.inl ⟨_, rfl⟩) (Or.inr ⟨_, rfl⟩) (fun t ht _ => ⟨⟨(v, w), zK Z k, rfl, hp, rfl, (g_end h t ht).1⟩, (g_end h t ht).2⟩) h.2.2.2 hdg X.2.2.2.2.2.2.2
theorem g_ks (h : HS Z s v w H locs) {k : Nat} {post : VW → Prop} (hr : RunS p l e R s m args below meth c H locs (F0 m pc ls st) rest (Qs Z k post a) (zA Z)) (kk : ∀ (v1 : VV) (w1 : WV) (H1 : Heap) (locs1 : List Loc), post (v1, w1) → HS Z s v1 w1 H1 locs1 → W p l e R s m args below meth c H1 locs1 0 0 Q (F0 m (pc + 3) ls (.ref (zK Z k) :: rest))) : W p l e R s m args below meth c H locs 0 0 Q (F0 m pc ls st) :=
  va_callr hr h.2 (fun _ _ h => h) (fun _ h => h) (fun u ra t H1 locs1 ht _ hp hB _ _ hS => by
    obtain ⟨rfl, hB⟩ := hB
    exact kk u.1 u.2 H1 locs1 hp ⟨by rw [← ht]; exact hB, hS⟩)
end RS
def PT (v : VV) (t : Nat → Int32) (z a : Nat) : Prop := v 109 = t ∧ v 108 1 = nI z ∧ v 108 2 = nI a ∧ z ≤ 100 ∧ a ≤ z ∧ ∀ k, k < z → inR (t k) 0 127 = true
theorem c16 {x : Int32} (h : inR x 0 127 = true) : (x.toUInt32 % 65536).toInt32 = x := by
  obtain ⟨k, e, -, hk, -⟩ := inR_nat (a := 0) (b := 127) rfl rfl (by decide) h
  subst e
  have : ∀ k, k < 128 → ((nI k).toUInt32 % 65536).toInt32 = nI k := by decide +kernel
  exact this k (by omega)
def oneS (t : Nat → Int32) (z a i : Nat) : Int32 := if a < z then ixS i (t a) else -1
theorem ix0 {i : Nat} {x : Int32} (hi : i = 5 ∨ i = 6) (h : ¬ ixS i x < 0) : 0 < x := by
  rcases Int32.lt_or_le 0 x with q | q
  · exact q
  · exfalso
    apply h
    rw [show ixS i x = -1 from ixF_out _ _ (fun b hb e => by
      have hall : ∀ b ∈ strB.getD i [], (0 : Int32) < b := by rcases hi with rfl | rfl <;> decide
      have := hall b hb
      rw [e] at this
      rw [i_lt] at this
      rw [i_le] at q
      omega)]
    decide
/-! the reading, and the steps laid -/
def FT (v u : VV) (lb s : Nat) : Prop := (∀ i, i ≠ 108 → i ≠ lb → i ≠ lb + 3 → i ≠ lb + 4 → i ≠ lb + 5 → u i = v i) ∧ (∀ k, k ≠ 2 → u 108 k = v 108 k) ∧ (∀ k, k ≠ 9 → u lb k = v lb k) ∧ ∀ k, k < s → u (lb + 3) k = v (lb + 3) k ∧ u (lb + 4) k = v (lb + 4) k ∧ u (lb + 5) k = v (lb + 5) k
def TS (u : VV) (lb s : Nat) (l : List Nat) : Prop := u lb 9 = nI (s + l.length) ∧ ∀ k, k < l.length → stR u lb (s + k) (l.getD k 0)
def RT (z lb s : Nat) (v u : VV) (R : RD) : Prop := FT v u lb s ∧ u 108 2 = nI R.2.1 ∧ (R.1 = true → TS u lb s R.2.2)
theorem FT_refl (v : VV) (lb s : Nat) : FT v v lb s := ⟨fun _ _ _ _ _ _ => rfl, fun _ _ => rfl, fun _ _ => rfl, fun _ _ => ⟨rfl, rfl, rfl⟩⟩
theorem FT_trans {v u x : VV} {lb s s2 : Nat} (h1 : FT v u lb s) (h2 : FT u x lb s2) (hs : s ≤ s2) : FT v x lb s := ⟨fun i a b c d e => (h2.1 i a b c d e).trans (h1.1 i a b c d e), fun k a => (h2.2.1 k a).trans (h1.2.1 k a), fun k a => (h2.2.2.1 k a).trans (h1.2.2.1 k a), fun k hk => by
  obtain ⟨a, b, c⟩ := h2.2.2.2 k (by omega)
  obtain ⟨d, e, f⟩ := h1.2.2.2 k hk
  exact ⟨a.trans d, b.trans e, c.trans f⟩⟩
theorem FT_at {v u : VV} {lb s : Nat} {x : Int32} (hl : lb ≤ 44) (h : FT v u lb s) : FT v (up2 u 108 2 x) lb s := ⟨fun i a b c d e => (up2_ne a).trans (h.1 i a b c d e), fun k a => by rw [up2_slot a]; exact h.2.1 k a, fun k a => by rw [up2_ne (by omega)]; exact h.2.2.1 k a, fun k hk => by rw [up2_ne (by omega), up2_ne (by omega), up2_ne (by omega)]; exact h.2.2.2 k hk⟩
theorem TS_at {u : VV} {lb s : Nat} {l : List Nat} {x : Int32} {k : Nat} (hl : lb ≤ 44) (h : TS u lb s l) : TS (up2 u 108 k x) lb s l := ⟨by rw [up2_ne (by omega)]; exact h.1, fun q hq => by unfold stR; rw [up2_ne (by omega), up2_ne (by omega), up2_ne (by omega)]; exact h.2 q hq⟩
theorem TS_nil {u : VV} {lb s : Nat} (h : u lb 9 = nI s) : TS u lb s [] := ⟨h, fun k hk => absurd hk (Nat.not_lt_zero _)⟩
theorem TS_app {u x : VV} {lb s : Nat} {l l2 : List Nat} (h : TS u lb s l) (hf : FT u x lb (s + l.length)) (h2 : TS x lb (s + l.length) l2) : TS x lb s (l ++ l2) := by
  refine ⟨by rw [List.length_append, ← Nat.add_assoc]; exact h2.1, fun k hk => ?_⟩
  rw [List.length_append] at hk
  by_cases q : k < l.length
  · rw [show (l ++ l2).getD k 0 = l.getD k 0 by simp [List.getD, List.getElem?_append_left q]]
    obtain ⟨a, b, c⟩ := hf.2.2.2 (s + k) (by omega)
    unfold stR
    rw [a, b, c]
    exact h.2 k q
  · obtain ⟨d, rfl⟩ : ∃ d, k = l.length + d := ⟨k - l.length, by omega⟩
    rw [show (l ++ l2).getD (l.length + d) 0 = l2.getD d 0 by simp [List.getD, List.getElem?_append_right], ← Nat.add_assoc]
    exact h2.2 d (by omega)
/-- one step more -/
def adS (v : VV) (lb s : Nat) (x : Int32) : VV := up2 (up2 v (lb + 3) s x) lb 9 (nI (s + 1))
theorem FT_ad {v : VV} {lb s : Nat} {x : Int32} (hl : lb ≤ 44) : FT v (adS v lb s x) lb s := ⟨fun i a b c d e => by rw [adS, up2_ne b, up2_ne c], fun k a => by rw [adS, up2_ne (by omega), up2_ne (by omega)], fun k a => by rw [adS, up2_slot a, up2_ne (by omega)], fun k hk => by rw [adS, up2_ne (by omega), up2_slot (by omega), up2_ne (by omega), up2_ne (by omega), up2_ne (by omega), up2_ne (by omega)]; exact ⟨rfl, rfl, rfl⟩⟩
theorem TS_ad {v : VV} {lb s t : Nat} {x : Int32} (ht : t < 3) (hx : x = dT t) : TS (adS v lb s x) lb s [t] := ⟨by rw [adS, up2_same]; rfl, fun k hk => by
  rw [show k = 0 by simpa using hk]
  refine ⟨?_, fun q => absurd q (by simp; omega)⟩
  rw [adS, up2_ne (by omega)]
  show up2 v (lb + 3) s x (lb + 3) s = dT t
  rw [up2_same, hx]⟩
/-- a test more -/
def atS (v : VV) (lb s t : Nat) : VV := up2 (up2 (up2 (up2 v (lb + 4) s (loT t)) (lb + 5) s (hiT t)) (lb + 3) s (dT t)) lb 9 (nI (s + 1))
theorem FT_atS {v : VV} {lb s t : Nat} (hl : lb ≤ 44) : FT v (atS v lb s t) lb s := ⟨fun i a b c d e => by rw [atS, up2_ne b, up2_ne c, up2_ne e, up2_ne d], fun k a => by rw [atS, up2_ne (by omega), up2_ne (by omega), up2_ne (by omega), up2_ne (by omega)], fun k a => by rw [atS, up2_slot a, up2_ne (by omega), up2_ne (by omega), up2_ne (by omega)], fun k hk => by
  refine ⟨?_, ?_, ?_⟩
  · rw [atS, up2_ne (by omega), up2_slot (by omega), up2_ne (by omega), up2_ne (by omega)]
  · rw [atS, up2_ne (by omega), up2_ne (by omega), up2_ne (by omega), up2_slot (by omega)]
  · rw [atS, up2_ne (by omega), up2_ne (by omega), up2_slot (by omega), up2_ne (by omega)]⟩
theorem TS_atS {v : VV} {lb s t : Nat} : TS (atS v lb s t) lb s [t] := ⟨by rw [atS, up2_same]; rfl, fun k hk => by
  rw [show k = 0 by simpa using hk, Nat.add_zero]
  refine ⟨?_, fun _ => ⟨?_, ?_⟩⟩
  · rw [atS, up2_ne (by omega), up2_same]; rfl
  · rw [atS, up2_ne (by omega), up2_ne (by omega), up2_ne (by omega), up2_same]; rfl
  · rw [atS, up2_ne (by omega), up2_ne (by omega), up2_same]; rfl⟩
/-- what a test is, by its parts -/
theorem tok_p {l g n : Nat} (hl : l ≤ 5) (hg : g ≤ 2) (hn : n ≤ 99) : let t := 3 + 300 * l + 100 * g + n; (t - 3) / 300 = l ∧ (t - 3) / 100 % 3 = g ∧ (t - 3) % 100 = n ∧ t < 1803 ∧ dT t = nI l ∧ wT t = (if l = 3 ∨ l = 4 then 10 else 1) ∧ loT t = (if g = 0 then 0 else if g = 1 then nI (n * wT t) else nI (n * wT t + wT t)) ∧ hiT t = (if g = 0 then nI (n * wT t) - 1 else if g = 1 then nI (n * wT t + wT t) - 1 else 2147483647) := by
  have h1 : (3 + 300 * l + 100 * g + n - 3) / 300 = l := by omega
  have h2 : (3 + 300 * l + 100 * g + n - 3) / 100 % 3 = g := by omega
  have h3 : (3 + 300 * l + 100 * g + n - 3) % 100 = n := by omega
  refine ⟨h1, h2, h3, by omega, ?_, ?_, ?_, ?_⟩
  · rw [dT, if_pos (by omega), h1]
  · unfold wT; rw [h1]
  · unfold loT; rw [h2, h3]
  · unfold hiT; rw [h2, h3]
theorem wT_le (t : Nat) : wT t = 1 ∨ wT t = 10 := by unfold wT; split <;> simp
def drS (v : VV) (lb d : Nat) (x : Int32) : VV := up2 (up2 (up2 v (lb + 1) d x) (lb + 2) d (v lb 9)) lb 3 (nI (d + 1))
def clrS (v : VV) (lb : Nat) : VV := up2 (up2 (up2 (up2 (up2 v lb 0 5) lb 1 10) lb 2 1) lb 3 0) lb 9 0
theorem PT_at {v : VV} {t : Nat → Int32} {z a b : Nat} (h : PT v t z a) (hb : b ≤ z) : PT (up2 v 108 2 (nI b)) t z b := by
  obtain ⟨h1, h2, h3, h4, h5, h6⟩ := h
  exact ⟨by rw [up2_ne (by decide)]; exact h1, by rw [up2_slot (by decide)]; exact h2, up2_same _ _ _ _, h4, hb, h6⟩
theorem PT_FT {v u : VV} {t : Nat → Int32} {z a b lb s : Nat} (hl : lb ≤ 44) (h : PT v t z a) (hf : FT v u lb s) (hb : u 108 2 = nI b) (hbz : b ≤ z) : PT u t z b := by
  obtain ⟨h1, h2, h3, h4, h5, h6⟩ := h
  exact ⟨by rw [hf.1 109 (by decide) (by omega) (by omega) (by omega) (by omega)]; exact h1, by rw [hf.2.1 1 (by decide)]; exact h2, hb, h4, hbz, h6⟩
def numA (t : Nat → Int32) (a k : Nat) : Int32 := if k = 0 then -1 else nI (nmV t a k)
theorem numA_s {t : Nat → Int32} {z a k : Nat} {x1 y : Int32} (hk : k ≤ 1) (h1 : x1 = numA t a k) (hd : dig t z (a + k) = true) (hy : (k = 0 ∧ y = 0) ∨ (¬ k = 0 ∧ y = x1 * 10)) (hall : ∀ j, j < k → dig t z (a + j) = true) : y + t (a + k) - 48 = numA t a (k + 1) := by
  have hv := nmV_le (t := t) (z := z) (a := a) (k := k) (by omega) hall
  have e : y = nI (10 * nmV t a k) := by
    rcases hy with ⟨a1, b1⟩ | ⟨a1, b1⟩
    · rw [b1, a1]; rfl
    · rw [b1, h1, numA, if_neg a1, Int32.mul_comm]; exact pk_mul 10 _
  rw [e, rd_s hd hv, numA, if_neg (by omega)]
theorem dig_tt {t : Nat → Int32} {z a : Nat} (h : a < z) (h1 : ¬ t a < 48) (h2 : ¬ 57 < t a) : dig t z a = true := by
  rw [dig, decide_eq_true h]
  exact inR_t.mpr ⟨Int32.not_lt.mp h1, Int32.not_lt.mp h2⟩
theorem dig_f1 {t : Nat → Int32} {z a : Nat} (h : z ≤ a) : dig t z a = false := by rw [dig, decide_eq_false (by omega)]; rfl
theorem dig_f2 {t : Nat → Int32} {z a : Nat} (h : t a < 48) : dig t z a = false := by
  rw [dig, show inR (t a) 48 57 = false from inR_f.mpr (fun q => absurd q.1 (Int32.not_le.mpr h)), Bool.and_false]
theorem dig_f3 {t : Nat → Int32} {z a : Nat} (h : 57 < t a) : dig t z a = false := by
  rw [dig, show inR (t a) 48 57 = false from inR_f.mpr (fun q => absurd q.2 (Int32.not_le.mpr h)), Bool.and_false]
theorem numA_neg {t : Nat → Int32} {z a : Nat} : numA t a (nmC t z a) < 0 ↔ nmC t z a = 0 := by
  have hv := nmV_le (t := t) (z := z) (a := a) (nmC_2 t z a) (fun j hj => nmC_dig hj)
  unfold numA
  split
  · rename_i h; exact ⟨fun _ => h, fun _ => by decide⟩
  · rename_i h; exact ⟨fun q => absurd q (nI_pos (by omega)), fun q => absurd q h⟩
/-! tests, as the class reads them -/
theorem tstR_l {t : Nat → Int32} {z a : Nat} (h : oneS t z a 5 < 0) : tstR t z a = (false, a, []) := by
  unfold tstR
  rw [if_neg]
  rintro ⟨h1, -, h3⟩
  rw [oneS, if_pos h1] at h
  exact h3 h
theorem tstR_g {t : Nat → Int32} {z a : Nat} (h : ¬ oneS t z a 5 < 0) (h2 : oneS t z (a + 1) 6 < 0) : tstR t z a = (false, a + 1, []) := by
  have ha : a < z := by
    rcases Nat.lt_or_ge a z with q | q
    · exact q
    · rw [oneS, if_neg (by omega)] at h; exact absurd (by decide) h
  rw [oneS, if_pos ha] at h
  unfold tstR
  rw [if_pos ⟨ha, ix0 (Or.inl rfl) h, h⟩, if_neg]
  rintro ⟨h1, -, h3⟩
  rw [oneS, if_pos h1] at h2
  exact h3 h2
theorem tstR_n {t : Nat → Int32} {z a : Nat} (h : ¬ oneS t z a 5 < 0) (h2 : ¬ oneS t z (a + 1) 6 < 0) : tstR t z a = if nmC t z (a + 2) = 0 then (false, a + 2, []) else (true, a + 2 + nmC t z (a + 2), [3 + 300 * (oneS t z a 5).toNatClampNeg + 100 * (oneS t z (a + 1) 6).toNatClampNeg + nmV t (a + 2) (nmC t z (a + 2))]) := by
  have ha : a < z := by
    rcases Nat.lt_or_ge a z with q | q
    · exact q
    · rw [oneS, if_neg (by omega)] at h; exact absurd (by decide) h
  have ha2 : a + 1 < z := by
    rcases Nat.lt_or_ge (a + 1) z with q | q
    · exact q
    · rw [oneS, if_neg (by omega)] at h2; exact absurd (by decide) h2
  rw [oneS, if_pos ha] at h ⊢
  rw [oneS, if_pos ha2] at h2 ⊢
  unfold tstR
  rw [if_pos ⟨ha, ix0 (Or.inl rfl) h, h⟩, if_pos ⟨ha2, ix0 (Or.inr rfl) h2, h2⟩]
theorem oneS_lt {t : Nat → Int32} {z a i : Nat} (h : ¬ oneS t z a i < 0) : a < z := by
  rcases Nat.lt_or_ge a z with q | q
  · exact q
  · rw [oneS, if_neg (by omega)] at h; exact absurd (by decide) h
theorem oneS_nat {t : Nat → Int32} {z a i : Nat} (hi : i < 12) (h : ¬ oneS t z a i < 0) : ∃ k, oneS t z a i = nI k ∧ k < strN i ∧ (oneS t z a i).toNatClampNeg = k := by
  have ha := oneS_lt h
  rw [oneS, if_pos ha] at h ⊢
  obtain ⟨k, e, hk⟩ := ixS_nat hi h
  have := strN_lt hi
  exact ⟨k, e, hk, by rw [e]; exact nI_clamp (by omega)⟩
set_option maxRecDepth 100000 in
set_option maxHeartbeats 1000000 in
theorem c_X1_clear (gl : Launch) (Z : PL) (v : VV) (w : WV) (lb : Nat) (hL : isL lb) : CT gl yX1_clear cX1_clear 1 none 0 0 Z [.ref (zg Z lb)] v w (Qv Z (fun u => (clrS v lb, w) = u)) := by
  refine g_met (by decide) (Nat.le_of_ble_eq_true rfl) ?_
  intro gp ge gs gm ga gb gh gc X h ls hl
  have hx := X.1
  have hb := X.2.1
  have hl : lv_has ls 1 [(0, .ref (zg Z lb))] := hl
  refine lv_aload_n hx hb dX1_clear_0 rfl (lv_at hl 0 rfl) ?_
  refine lv_iconst (v := 5) hx hb dX1_clear_1 (by decide) ?_
  refine g_puti X h (k := 0) (cL_0 hL) fp_RX1_33 rfl (by decide) dX1_clear_2 (fun v2 H locs ev2 h => ?_)
  refine lv_aload_n hx hb dX1_clear_5 rfl (lv_at hl 0 rfl) ?_
  refine lv_bipush (v := 10) hx hb dX1_clear_6 (by decide) ?_
  refine g_puti X h (k := 1) (cL_0 hL) fp_RX1_37 rfl (by decide) dX1_clear_8 (fun v8 H locs ev8 h => ?_)
  refine lv_aload_n hx hb dX1_clear_11 rfl (lv_at hl 0 rfl) ?_
  refine lv_iconst (v := 1) hx hb dX1_clear_12 (by decide) ?_
  refine g_puti X h (k := 2) (cL_0 hL) fp_RX1_40 rfl (by decide) dX1_clear_13 (fun v13 H locs ev13 h => ?_)
  refine lv_aload_n hx hb dX1_clear_16 rfl (lv_at hl 0 rfl) ?_
  refine lv_iconst (v := 0) hx hb dX1_clear_17 (by decide) ?_
  refine g_puti X h (k := 3) (cL_0 hL) fp_RX1_43 rfl (by decide) dX1_clear_18 (fun v18 H locs ev18 h => ?_)
  refine lv_aload_n hx hb dX1_clear_21 rfl (lv_at hl 0 rfl) ?_
  refine lv_iconst (v := 0) hx hb dX1_clear_22 (by decide) ?_
  refine g_puti X h (k := 9) (cL_0 hL) fp_RX1_46 rfl (by decide) dX1_clear_23 (fun v23 H locs ev23 h => ?_)
  exact g_vret X h dX1_clear_26 (by rw [ev23, ev18, ev13, ev8, ev2]; rfl)

set_option maxRecDepth 100000 in
set_option maxHeartbeats 1000000 in
theorem c_X1_addStep (gl : Launch) (Z : PL) (v : VV) (w : WV) (x0 : Int32) (lb : Nat) (hL : isL lb) (s : Nat) (hs : v lb 9 = nI s) (hs1 : s < 100) : CT gl yX1_addStep cX1_addStep 2 none 0 0 Z [.ref (zg Z lb), .int x0] v w (Qv Z (fun u => (adS v lb s x0, w) = u)) := by
  refine g_met (by decide) (Nat.le_of_ble_eq_true rfl) ?_
  intro gp ge gs gm ga gb gh gc X h ls hl
  have hx := X.1
  have hb := X.2.1
  have hl : lv_has ls 2 [(0, .ref (zg Z lb)), (1, .int x0)] := hl
  refine lv_aload_n hx hb dX1_addStep_0 rfl (lv_at hl 0 rfl) ?_
  refine g_geti X h (k := 9) (cL_0 hL) fr_RX1_46 rfl (by decide) dX1_addStep_1 ?_
  refine lv_bipush (v := 100) hx hb dX1_addStep_4 (by decide) ?_
  refine lv_icmp_ge (tgt := 29) hx hb dX1_addStep_6 (by decide) (fun c_6 => ?_) (fun c_6 => ?_)
  · exact absurd c_6 (by rw [hs]; exact Int32.not_le.mpr (nI_lt (b := 100) hs1 (by omega)))
  · skip
    refine lv_aload_n hx hb dX1_addStep_9 rfl (lv_at hl 0 rfl) ?_
    refine g_getr X h (k := 6) (t := (lb + 3)) (cL_0 hL) fr_RX1_18 rfl (by decide) (by decide) (by decide) dX1_addStep_10 ?_
    refine lv_aload_n hx hb dX1_addStep_13 rfl (lv_at hl 0 rfl) ?_
    refine g_geti X h (k := 9) (cL_0 hL) fr_RX1_46 rfl (by decide) dX1_addStep_14 ?_
    refine lv_iload_n hx hb dX1_addStep_17 rfl (lv_at hl 1 rfl) ?_
    refine g_iast X h (k := s) (cL_3 hL) hs (by omega) (by decide) dX1_addStep_18 (fun v18 H locs ev18 h => ?_)
    refine lv_aload_n hx hb dX1_addStep_19 rfl (lv_at hl 0 rfl) ?_
    refine lv_dup hx hb dX1_addStep_20 rfl ?_
    refine g_geti X h (k := 9) (cL_0 hL) fr_RX1_46 rfl (by decide) dX1_addStep_21 ?_
    refine g_tr (y := (v lb 9)) (by rw [ev18, up2_ne (by omega)]) ?_
    refine lv_iconst (v := 1) hx hb dX1_addStep_24 (by decide) ?_
    refine lv_iadd hx hb dX1_addStep_25 ?_
    refine g_puti X h (k := 9) (cL_0 hL) fp_RX1_46 rfl (by decide) dX1_addStep_26 (fun v26 H locs ev26 h => ?_)
    exact g_vret X h dX1_addStep_29 (by rw [ev26, ev18, hs, nI_1]; rfl)

set_option maxRecDepth 100000 in
set_option maxHeartbeats 1000000 in
theorem c_X1_addTest (gl : Launch) (Z : PL) (v : VV) (w : WV) (x0 : Int32) (lt : Nat) (hlt : x0 = nI lt) (x1 : Int32) (g : Nat) (hg : x1 = nI g) (x2 : Int32) (n : Nat) (hn : x2 = nI n) (lb : Nat) (hL : isL lb) (s : Nat) (hs : v lb 9 = nI s) (hs1 : s < 100) (hl5 : lt ≤ 5) (hg2 : g ≤ 2) (hn99 : n ≤ 99) : CT gl yX1_addTest cX1_addTest 7 none 0 0 Z [.ref (zg Z lb), .int x0, .int x1, .int x2] v w (Qv Z (fun u => (atS v lb s (3 + 300 * lt + 100 * g + n), w) = u)) := by
  refine g_met (by decide) (Nat.le_of_ble_eq_true rfl) ?_
  intro gp ge gs gm ga gb gh gc X h ls hl
  have hx := X.1
  have hb := X.2.1
  have hl : lv_has ls 7 [(0, .ref (zg Z lb)), (1, .int x0), (2, .int x1), (3, .int x2)] := hl
  obtain ⟨t, ht⟩ : ∃ t, t = 3 + 300 * lt + 100 * g + n := ⟨_, rfl⟩
  obtain ⟨q1, q2, q3, q4, q5, q6, q7, q8⟩ := tok_p hl5 hg2 hn99
  rw [← ht] at q1 q2 q3 q4 q5 q6 q7 q8
  refine lv_aload_n hx hb dX1_addTest_0 rfl (lv_at hl 0 rfl) ?_
  refine g_geti X h (k := 9) (cL_0 hL) fr_RX1_46 rfl (by decide) dX1_addTest_1 ?_
  refine lv_bipush (v := 100) hx hb dX1_addTest_4 (by decide) ?_
  refine lv_icmp_ge (tgt := 125) hx hb dX1_addTest_6 (by decide) (fun c_6 => ?_) (fun c_6 => ?_)
  · exact absurd c_6 (by rw [hs]; exact Int32.not_le.mpr (nI_lt (b := 100) hs1 (by omega)))
  · skip
    refine lv_iload_n hx hb dX1_addTest_9 rfl (lv_at hl 1 rfl) ?_
    refine lv_iconst (v := 3) hx hb dX1_addTest_10 (by decide) ?_
    refine lv_icmp_eq (tgt := 19) hx hb dX1_addTest_11 (by decide) (fun c_11 => ?_) (fun c_11 => ?_)
    · skip
      refine lv_bipush (v := 10) hx hb dX1_addTest_19 (by decide) ?_
      refine lv_goto (tgt := 25) hx hb dX1_addTest_21 (by decide) ?_
      refine lv_istore (lv' := [(4, .int 10), (0, .ref (zg Z lb)), (1, .int x0), (2, .int x1), (3, .int x2)]) hx hb dX1_addTest_25 hl (by decide) rfl (fun ls hl => ?_)
      refine lv_iload_n hx hb dX1_addTest_27 rfl (lv_at hl 4 rfl) ?_
      refine lv_iload hx hb dX1_addTest_28 (lv_at hl 0 rfl) ?_
      refine lv_imul hx hb dX1_addTest_30 ?_
      refine lv_topi (fun x5_31 ex5_31 => ?_)
      refine lv_istore (lv' := [(5, .int x5_31), (4, .int 10), (0, .ref (zg Z lb)), (1, .int x0), (2, .int x1), (3, .int x2)]) hx hb dX1_addTest_31 hl (by decide) rfl (fun ls hl => ?_)
      refine lv_iload hx hb dX1_addTest_33 (lv_at hl 0 rfl) ?_
      refine lv_iload hx hb dX1_addTest_35 (lv_at hl 1 rfl) ?_
      refine lv_iadd hx hb dX1_addTest_37 ?_
      refine lv_iconst (v := 1) hx hb dX1_addTest_38 (by decide) ?_
      refine lv_isub hx hb dX1_addTest_39 ?_
      refine lv_topi (fun x6_40 ex6_40 => ?_)
      refine lv_istore (lv' := [(6, .int x6_40), (5, .int x5_31), (4, .int 10), (0, .ref (zg Z lb)), (1, .int x0), (2, .int x1), (3, .int x2)]) hx hb dX1_addTest_40 hl (by decide) rfl (fun ls hl => ?_)
      have hw : wT t = 10 := by rw [q6, if_pos (by exact Or.inl (nI_eq1 (b := 3) hlt rfl (by omega) (by omega) c_11))]
      have h5 : x5_31 = nI (n * wT t) := by rw [ex5_31, hw, hn]; exact pk_mul n 10
      have h6 : x6_40 = nI (n * wT t + wT t) - 1 := by rw [ex6_40, h5, hw]; exact congrArg (fun z => z - 1) (nI_add _ 10)
      refine lv_aload_n hx hb dX1_addTest_42 rfl (lv_at hl 3 rfl) ?_
      refine g_getr X h (k := 7) (t := (lb + 4)) (cL_0 hL) fr_RX1_21 rfl (by decide) (by decide) (by decide) dX1_addTest_43 ?_
      refine lv_aload_n hx hb dX1_addTest_46 rfl (lv_at hl 3 rfl) ?_
      refine g_geti X h (k := 9) (cL_0 hL) fr_RX1_46 rfl (by decide) dX1_addTest_47 ?_
      refine lv_iload_n hx hb dX1_addTest_50 rfl (lv_at hl 5 rfl) ?_
      refine lv_if_ne (tgt := 58) hx hb dX1_addTest_51 (by decide) (fun c_51 => ?_) (fun c_51 => ?_)
      · skip
        have hg0 : ¬ g = 0 := nI_eq0 (b := 0) hg rfl c_51
        refine lv_iload_n hx hb dX1_addTest_58 rfl (lv_at hl 5 rfl) ?_
        refine lv_iconst (v := 1) hx hb dX1_addTest_59 (by decide) ?_
        refine lv_icmp_ne (tgt := 68) hx hb dX1_addTest_60 (by decide) (fun c_60 => ?_) (fun c_60 => ?_)
        · skip
          have hg1 : ¬ g = 1 := nI_eq0 (b := 1) hg rfl c_60
          refine lv_iload hx hb dX1_addTest_68 (lv_at hl 0 rfl) ?_
          refine lv_iconst (v := 1) hx hb dX1_addTest_70 (by decide) ?_
          refine lv_iadd hx hb dX1_addTest_71 ?_
          refine g_iast X h (k := s) (cL_4 hL) hs (by omega) (by decide) dX1_addTest_72 (fun v72 H locs ev72 h => ?_)
          refine lv_aload_n hx hb dX1_addTest_73 rfl (lv_at hl 3 rfl) ?_
          refine g_getr X h (k := 8) (t := (lb + 5)) (cL_0 hL) fr_RX1_24 rfl (by decide) (by decide) (by decide) dX1_addTest_74 ?_
          refine lv_aload_n hx hb dX1_addTest_77 rfl (lv_at hl 3 rfl) ?_
          refine g_geti X h (k := 9) (cL_0 hL) fr_RX1_46 rfl (by decide) dX1_addTest_78 ?_
          refine g_tr (y := (v lb 9)) (by rw [ev72, up2_ne (by omega)]) ?_
          refine lv_iload_n hx hb dX1_addTest_81 rfl (lv_at hl 5 rfl) ?_
          refine lv_if_ne (tgt := 92) hx hb dX1_addTest_82 (by decide) (fun c_82 => ?_) (fun c_82 => ?_)
          · skip
            refine lv_iload_n hx hb dX1_addTest_92 rfl (lv_at hl 5 rfl) ?_
            refine lv_iconst (v := 1) hx hb dX1_addTest_93 (by decide) ?_
            refine lv_icmp_ne (tgt := 102) hx hb dX1_addTest_94 (by decide) (fun c_94 => ?_) (fun c_94 => ?_)
            · skip
              refine lv_ldc hx hb X.ow (X.ts _ cn_RX1_51) dX1_addTest_102 ?_
              refine g_iast X h (k := s) (cL_5 hL) hs (by omega) (by decide) dX1_addTest_104 (fun v104 H locs ev104 h => ?_)
              refine lv_aload_n hx hb dX1_addTest_105 rfl (lv_at hl 3 rfl) ?_
              refine g_getr X h (k := 6) (t := (lb + 3)) (cL_0 hL) fr_RX1_18 rfl (by decide) (by decide) (by decide) dX1_addTest_106 ?_
              refine lv_aload_n hx hb dX1_addTest_109 rfl (lv_at hl 3 rfl) ?_
              refine g_geti X h (k := 9) (cL_0 hL) fr_RX1_46 rfl (by decide) dX1_addTest_110 ?_
              refine g_tr (y := (v lb 9)) (by rw [ev104, up2_ne (by omega), ev72, up2_ne (by omega)]) ?_
              refine lv_iload_n hx hb dX1_addTest_113 rfl (lv_at hl 4 rfl) ?_
              refine g_iast X h (k := s) (cL_3 hL) hs (by omega) (by decide) dX1_addTest_114 (fun v114 H locs ev114 h => ?_)
              refine lv_aload_n hx hb dX1_addTest_115 rfl (lv_at hl 3 rfl) ?_
              refine lv_dup hx hb dX1_addTest_116 rfl ?_
              refine g_geti X h (k := 9) (cL_0 hL) fr_RX1_46 rfl (by decide) dX1_addTest_117 ?_
              refine g_tr (y := (v lb 9)) (by rw [ev114, up2_ne (by omega), ev104, up2_ne (by omega), ev72, up2_ne (by omega)]) ?_
              refine lv_iconst (v := 1) hx hb dX1_addTest_120 (by decide) ?_
              refine lv_iadd hx hb dX1_addTest_121 ?_
              refine g_puti X h (k := 9) (cL_0 hL) fp_RX1_46 rfl (by decide) dX1_addTest_122 (fun v122 H locs ev122 h => ?_)
              exact g_vret X h dX1_addTest_125 (by rw [← ht]; refine congrArg (fun z => (z, w)) ?_; rw [atS, ev122, ev114, ev104, ev72, hs, nI_1, (show loT t = (x6_40 + 1) from by rw [q7, if_neg hg0, if_neg hg1]; rw [h6]; exact (Int32.sub_add_cancel _ _).symm), (show hiT t = 2147483647 from by rw [q8, if_neg hg0, if_neg hg1]), show dT t = x0 from by rw [q5, hlt]])
            · exact absurd c_94 c_60
          · exact absurd c_82 c_51
        · skip
          have hg1 : g = 1 := nI_eq1 (b := 1) hg rfl (by omega) (by omega) c_60
          refine lv_iload hx hb dX1_addTest_63 (lv_at hl 1 rfl) ?_
          refine lv_goto (tgt := 72) hx hb dX1_addTest_65 (by decide) ?_
          refine g_iast X h (k := s) (cL_4 hL) hs (by omega) (by decide) dX1_addTest_72 (fun v72 H locs ev72 h => ?_)
          refine lv_aload_n hx hb dX1_addTest_73 rfl (lv_at hl 3 rfl) ?_
          refine g_getr X h (k := 8) (t := (lb + 5)) (cL_0 hL) fr_RX1_24 rfl (by decide) (by decide) (by decide) dX1_addTest_74 ?_
          refine lv_aload_n hx hb dX1_addTest_77 rfl (lv_at hl 3 rfl) ?_
          refine g_geti X h (k := 9) (cL_0 hL) fr_RX1_46 rfl (by decide) dX1_addTest_78 ?_
          refine g_tr (y := (v lb 9)) (by rw [ev72, up2_ne (by omega)]) ?_
          refine lv_iload_n hx hb dX1_addTest_81 rfl (lv_at hl 5 rfl) ?_
          refine lv_if_ne (tgt := 92) hx hb dX1_addTest_82 (by decide) (fun c_82 => ?_) (fun c_82 => ?_)
          · skip
            refine lv_iload_n hx hb dX1_addTest_92 rfl (lv_at hl 5 rfl) ?_
            refine lv_iconst (v := 1) hx hb dX1_addTest_93 (by decide) ?_
            refine lv_icmp_ne (tgt := 102) hx hb dX1_addTest_94 (by decide) (fun c_94 => ?_) (fun c_94 => ?_)
            · exact absurd c_60 c_94
            · skip
              refine lv_iload hx hb dX1_addTest_97 (lv_at hl 0 rfl) ?_
              refine lv_goto (tgt := 104) hx hb dX1_addTest_99 (by decide) ?_
              refine g_iast X h (k := s) (cL_5 hL) hs (by omega) (by decide) dX1_addTest_104 (fun v104 H locs ev104 h => ?_)
              refine lv_aload_n hx hb dX1_addTest_105 rfl (lv_at hl 3 rfl) ?_
              refine g_getr X h (k := 6) (t := (lb + 3)) (cL_0 hL) fr_RX1_18 rfl (by decide) (by decide) (by decide) dX1_addTest_106 ?_
              refine lv_aload_n hx hb dX1_addTest_109 rfl (lv_at hl 3 rfl) ?_
              refine g_geti X h (k := 9) (cL_0 hL) fr_RX1_46 rfl (by decide) dX1_addTest_110 ?_
              refine g_tr (y := (v lb 9)) (by rw [ev104, up2_ne (by omega), ev72, up2_ne (by omega)]) ?_
              refine lv_iload_n hx hb dX1_addTest_113 rfl (lv_at hl 4 rfl) ?_
              refine g_iast X h (k := s) (cL_3 hL) hs (by omega) (by decide) dX1_addTest_114 (fun v114 H locs ev114 h => ?_)
              refine lv_aload_n hx hb dX1_addTest_115 rfl (lv_at hl 3 rfl) ?_
              refine lv_dup hx hb dX1_addTest_116 rfl ?_
              refine g_geti X h (k := 9) (cL_0 hL) fr_RX1_46 rfl (by decide) dX1_addTest_117 ?_
              refine g_tr (y := (v lb 9)) (by rw [ev114, up2_ne (by omega), ev104, up2_ne (by omega), ev72, up2_ne (by omega)]) ?_
              refine lv_iconst (v := 1) hx hb dX1_addTest_120 (by decide) ?_
              refine lv_iadd hx hb dX1_addTest_121 ?_
              refine g_puti X h (k := 9) (cL_0 hL) fp_RX1_46 rfl (by decide) dX1_addTest_122 (fun v122 H locs ev122 h => ?_)
              exact g_vret X h dX1_addTest_125 (by rw [← ht]; refine congrArg (fun z => (z, w)) ?_; rw [atS, ev122, ev114, ev104, ev72, hs, nI_1, (show loT t = x5_31 from by rw [q7, if_neg hg0, if_pos hg1]; exact h5.symm), (show hiT t = x6_40 from by rw [q8, if_neg hg0, if_pos hg1]; exact h6.symm), show dT t = x0 from by rw [q5, hlt]])
          · exact absurd c_82 c_51
      · skip
        have hg0 : g = 0 := nI_eq1 (b := 0) hg rfl (by omega) (by omega) c_51
        refine lv_iconst (v := 0) hx hb dX1_addTest_54 (by decide) ?_
        refine lv_goto (tgt := 72) hx hb dX1_addTest_55 (by decide) ?_
        refine g_iast X h (k := s) (cL_4 hL) hs (by omega) (by decide) dX1_addTest_72 (fun v72 H locs ev72 h => ?_)
        refine lv_aload_n hx hb dX1_addTest_73 rfl (lv_at hl 3 rfl) ?_
        refine g_getr X h (k := 8) (t := (lb + 5)) (cL_0 hL) fr_RX1_24 rfl (by decide) (by decide) (by decide) dX1_addTest_74 ?_
        refine lv_aload_n hx hb dX1_addTest_77 rfl (lv_at hl 3 rfl) ?_
        refine g_geti X h (k := 9) (cL_0 hL) fr_RX1_46 rfl (by decide) dX1_addTest_78 ?_
        refine g_tr (y := (v lb 9)) (by rw [ev72, up2_ne (by omega)]) ?_
        refine lv_iload_n hx hb dX1_addTest_81 rfl (lv_at hl 5 rfl) ?_
        refine lv_if_ne (tgt := 92) hx hb dX1_addTest_82 (by decide) (fun c_82 => ?_) (fun c_82 => ?_)
        · exact absurd c_51 c_82
        · skip
          refine lv_iload hx hb dX1_addTest_85 (lv_at hl 1 rfl) ?_
          refine lv_iconst (v := 1) hx hb dX1_addTest_87 (by decide) ?_
          refine lv_isub hx hb dX1_addTest_88 ?_
          refine lv_goto (tgt := 104) hx hb dX1_addTest_89 (by decide) ?_
          refine g_iast X h (k := s) (cL_5 hL) hs (by omega) (by decide) dX1_addTest_104 (fun v104 H locs ev104 h => ?_)
          refine lv_aload_n hx hb dX1_addTest_105 rfl (lv_at hl 3 rfl) ?_
          refine g_getr X h (k := 6) (t := (lb + 3)) (cL_0 hL) fr_RX1_18 rfl (by decide) (by decide) (by decide) dX1_addTest_106 ?_
          refine lv_aload_n hx hb dX1_addTest_109 rfl (lv_at hl 3 rfl) ?_
          refine g_geti X h (k := 9) (cL_0 hL) fr_RX1_46 rfl (by decide) dX1_addTest_110 ?_
          refine g_tr (y := (v lb 9)) (by rw [ev104, up2_ne (by omega), ev72, up2_ne (by omega)]) ?_
          refine lv_iload_n hx hb dX1_addTest_113 rfl (lv_at hl 4 rfl) ?_
          refine g_iast X h (k := s) (cL_3 hL) hs (by omega) (by decide) dX1_addTest_114 (fun v114 H locs ev114 h => ?_)
          refine lv_aload_n hx hb dX1_addTest_115 rfl (lv_at hl 3 rfl) ?_
          refine lv_dup hx hb dX1_addTest_116 rfl ?_
          refine g_geti X h (k := 9) (cL_0 hL) fr_RX1_46 rfl (by decide) dX1_addTest_117 ?_
          refine g_tr (y := (v lb 9)) (by rw [ev114, up2_ne (by omega), ev104, up2_ne (by omega), ev72, up2_ne (by omega)]) ?_
          refine lv_iconst (v := 1) hx hb dX1_addTest_120 (by decide) ?_
          refine lv_iadd hx hb dX1_addTest_121 ?_
          refine g_puti X h (k := 9) (cL_0 hL) fp_RX1_46 rfl (by decide) dX1_addTest_122 (fun v122 H locs ev122 h => ?_)
          exact g_vret X h dX1_addTest_125 (by rw [← ht]; refine congrArg (fun z => (z, w)) ?_; rw [atS, ev122, ev114, ev104, ev72, hs, nI_1, (show loT t = 0 from by rw [q7, if_pos hg0]), (show hiT t = (x5_31 - 1) from by rw [q8, if_pos hg0]; rw [h5]), show dT t = x0 from by rw [q5, hlt]])
    · skip
      refine lv_iload_n hx hb dX1_addTest_14 rfl (lv_at hl 1 rfl) ?_
      refine lv_iconst (v := 4) hx hb dX1_addTest_15 (by decide) ?_
      refine lv_icmp_ne (tgt := 24) hx hb dX1_addTest_16 (by decide) (fun c_16 => ?_) (fun c_16 => ?_)
      · skip
        refine lv_iconst (v := 1) hx hb dX1_addTest_24 (by decide) ?_
        refine lv_istore (lv' := [(4, .int 1), (0, .ref (zg Z lb)), (1, .int x0), (2, .int x1), (3, .int x2)]) hx hb dX1_addTest_25 hl (by decide) rfl (fun ls hl => ?_)
        refine lv_iload_n hx hb dX1_addTest_27 rfl (lv_at hl 4 rfl) ?_
        refine lv_iload hx hb dX1_addTest_28 (lv_at hl 0 rfl) ?_
        refine lv_imul hx hb dX1_addTest_30 ?_
        refine lv_topi (fun x5_31 ex5_31 => ?_)
        refine lv_istore (lv' := [(5, .int x5_31), (4, .int 1), (0, .ref (zg Z lb)), (1, .int x0), (2, .int x1), (3, .int x2)]) hx hb dX1_addTest_31 hl (by decide) rfl (fun ls hl => ?_)
        refine lv_iload hx hb dX1_addTest_33 (lv_at hl 0 rfl) ?_
        refine lv_iload hx hb dX1_addTest_35 (lv_at hl 1 rfl) ?_
        refine lv_iadd hx hb dX1_addTest_37 ?_
        refine lv_iconst (v := 1) hx hb dX1_addTest_38 (by decide) ?_
        refine lv_isub hx hb dX1_addTest_39 ?_
        refine lv_topi (fun x6_40 ex6_40 => ?_)
        refine lv_istore (lv' := [(6, .int x6_40), (5, .int x5_31), (4, .int 1), (0, .ref (zg Z lb)), (1, .int x0), (2, .int x1), (3, .int x2)]) hx hb dX1_addTest_40 hl (by decide) rfl (fun ls hl => ?_)
        have hw : wT t = 1 := by
          have e3 := nI_eq0 (b := 3) hlt rfl c_11
          have e4 := nI_eq0 (b := 4) hlt rfl c_16
          rw [q6, if_neg (by omega)]
        have h5 : x5_31 = nI (n * wT t) := by rw [ex5_31, hw, hn]; exact pk_mul n 1
        have h6 : x6_40 = nI (n * wT t + wT t) - 1 := by rw [ex6_40, h5, hw]; exact congrArg (fun z => z - 1) (nI_add _ 1)
        refine lv_aload_n hx hb dX1_addTest_42 rfl (lv_at hl 3 rfl) ?_
        refine g_getr X h (k := 7) (t := (lb + 4)) (cL_0 hL) fr_RX1_21 rfl (by decide) (by decide) (by decide) dX1_addTest_43 ?_
        refine lv_aload_n hx hb dX1_addTest_46 rfl (lv_at hl 3 rfl) ?_
        refine g_geti X h (k := 9) (cL_0 hL) fr_RX1_46 rfl (by decide) dX1_addTest_47 ?_
        refine lv_iload_n hx hb dX1_addTest_50 rfl (lv_at hl 5 rfl) ?_
        refine lv_if_ne (tgt := 58) hx hb dX1_addTest_51 (by decide) (fun c_51 => ?_) (fun c_51 => ?_)
        · skip
          have hg0 : ¬ g = 0 := nI_eq0 (b := 0) hg rfl c_51
          refine lv_iload_n hx hb dX1_addTest_58 rfl (lv_at hl 5 rfl) ?_
          refine lv_iconst (v := 1) hx hb dX1_addTest_59 (by decide) ?_
          refine lv_icmp_ne (tgt := 68) hx hb dX1_addTest_60 (by decide) (fun c_60 => ?_) (fun c_60 => ?_)
          · skip
            have hg1 : ¬ g = 1 := nI_eq0 (b := 1) hg rfl c_60
            refine lv_iload hx hb dX1_addTest_68 (lv_at hl 0 rfl) ?_
            refine lv_iconst (v := 1) hx hb dX1_addTest_70 (by decide) ?_
            refine lv_iadd hx hb dX1_addTest_71 ?_
            refine g_iast X h (k := s) (cL_4 hL) hs (by omega) (by decide) dX1_addTest_72 (fun v72 H locs ev72 h => ?_)
            refine lv_aload_n hx hb dX1_addTest_73 rfl (lv_at hl 3 rfl) ?_
            refine g_getr X h (k := 8) (t := (lb + 5)) (cL_0 hL) fr_RX1_24 rfl (by decide) (by decide) (by decide) dX1_addTest_74 ?_
            refine lv_aload_n hx hb dX1_addTest_77 rfl (lv_at hl 3 rfl) ?_
            refine g_geti X h (k := 9) (cL_0 hL) fr_RX1_46 rfl (by decide) dX1_addTest_78 ?_
            refine g_tr (y := (v lb 9)) (by rw [ev72, up2_ne (by omega)]) ?_
            refine lv_iload_n hx hb dX1_addTest_81 rfl (lv_at hl 5 rfl) ?_
            refine lv_if_ne (tgt := 92) hx hb dX1_addTest_82 (by decide) (fun c_82 => ?_) (fun c_82 => ?_)
            · skip
              refine lv_iload_n hx hb dX1_addTest_92 rfl (lv_at hl 5 rfl) ?_
              refine lv_iconst (v := 1) hx hb dX1_addTest_93 (by decide) ?_
              refine lv_icmp_ne (tgt := 102) hx hb dX1_addTest_94 (by decide) (fun c_94 => ?_) (fun c_94 => ?_)
              · skip
                refine lv_ldc hx hb X.ow (X.ts _ cn_RX1_51) dX1_addTest_102 ?_
                refine g_iast X h (k := s) (cL_5 hL) hs (by omega) (by decide) dX1_addTest_104 (fun v104 H locs ev104 h => ?_)
                refine lv_aload_n hx hb dX1_addTest_105 rfl (lv_at hl 3 rfl) ?_
                refine g_getr X h (k := 6) (t := (lb + 3)) (cL_0 hL) fr_RX1_18 rfl (by decide) (by decide) (by decide) dX1_addTest_106 ?_
                refine lv_aload_n hx hb dX1_addTest_109 rfl (lv_at hl 3 rfl) ?_
                refine g_geti X h (k := 9) (cL_0 hL) fr_RX1_46 rfl (by decide) dX1_addTest_110 ?_
                refine g_tr (y := (v lb 9)) (by rw [ev104, up2_ne (by omega), ev72, up2_ne (by omega)]) ?_
                refine lv_iload_n hx hb dX1_addTest_113 rfl (lv_at hl 4 rfl) ?_
                refine g_iast X h (k := s) (cL_3 hL) hs (by omega) (by decide) dX1_addTest_114 (fun v114 H locs ev114 h => ?_)
                refine lv_aload_n hx hb dX1_addTest_115 rfl (lv_at hl 3 rfl) ?_
                refine lv_dup hx hb dX1_addTest_116 rfl ?_
                refine g_geti X h (k := 9) (cL_0 hL) fr_RX1_46 rfl (by decide) dX1_addTest_117 ?_
                refine g_tr (y := (v lb 9)) (by rw [ev114, up2_ne (by omega), ev104, up2_ne (by omega), ev72, up2_ne (by omega)]) ?_
                refine lv_iconst (v := 1) hx hb dX1_addTest_120 (by decide) ?_
                refine lv_iadd hx hb dX1_addTest_121 ?_
                refine g_puti X h (k := 9) (cL_0 hL) fp_RX1_46 rfl (by decide) dX1_addTest_122 (fun v122 H locs ev122 h => ?_)
                exact g_vret X h dX1_addTest_125 (by rw [← ht]; refine congrArg (fun z => (z, w)) ?_; rw [atS, ev122, ev114, ev104, ev72, hs, nI_1, (show loT t = (x6_40 + 1) from by rw [q7, if_neg hg0, if_neg hg1]; rw [h6]; exact (Int32.sub_add_cancel _ _).symm), (show hiT t = 2147483647 from by rw [q8, if_neg hg0, if_neg hg1]), show dT t = x0 from by rw [q5, hlt]])
              · exact absurd c_94 c_60
            · exact absurd c_82 c_51
          · skip
            have hg1 : g = 1 := nI_eq1 (b := 1) hg rfl (by omega) (by omega) c_60
            refine lv_iload hx hb dX1_addTest_63 (lv_at hl 1 rfl) ?_
            refine lv_goto (tgt := 72) hx hb dX1_addTest_65 (by decide) ?_
            refine g_iast X h (k := s) (cL_4 hL) hs (by omega) (by decide) dX1_addTest_72 (fun v72 H locs ev72 h => ?_)
            refine lv_aload_n hx hb dX1_addTest_73 rfl (lv_at hl 3 rfl) ?_
            refine g_getr X h (k := 8) (t := (lb + 5)) (cL_0 hL) fr_RX1_24 rfl (by decide) (by decide) (by decide) dX1_addTest_74 ?_
            refine lv_aload_n hx hb dX1_addTest_77 rfl (lv_at hl 3 rfl) ?_
            refine g_geti X h (k := 9) (cL_0 hL) fr_RX1_46 rfl (by decide) dX1_addTest_78 ?_
            refine g_tr (y := (v lb 9)) (by rw [ev72, up2_ne (by omega)]) ?_
            refine lv_iload_n hx hb dX1_addTest_81 rfl (lv_at hl 5 rfl) ?_
            refine lv_if_ne (tgt := 92) hx hb dX1_addTest_82 (by decide) (fun c_82 => ?_) (fun c_82 => ?_)
            · skip
              refine lv_iload_n hx hb dX1_addTest_92 rfl (lv_at hl 5 rfl) ?_
              refine lv_iconst (v := 1) hx hb dX1_addTest_93 (by decide) ?_
              refine lv_icmp_ne (tgt := 102) hx hb dX1_addTest_94 (by decide) (fun c_94 => ?_) (fun c_94 => ?_)
              · exact absurd c_60 c_94
              · skip
                refine lv_iload hx hb dX1_addTest_97 (lv_at hl 0 rfl) ?_
                refine lv_goto (tgt := 104) hx hb dX1_addTest_99 (by decide) ?_
                refine g_iast X h (k := s) (cL_5 hL) hs (by omega) (by decide) dX1_addTest_104 (fun v104 H locs ev104 h => ?_)
                refine lv_aload_n hx hb dX1_addTest_105 rfl (lv_at hl 3 rfl) ?_
                refine g_getr X h (k := 6) (t := (lb + 3)) (cL_0 hL) fr_RX1_18 rfl (by decide) (by decide) (by decide) dX1_addTest_106 ?_
                refine lv_aload_n hx hb dX1_addTest_109 rfl (lv_at hl 3 rfl) ?_
                refine g_geti X h (k := 9) (cL_0 hL) fr_RX1_46 rfl (by decide) dX1_addTest_110 ?_
                refine g_tr (y := (v lb 9)) (by rw [ev104, up2_ne (by omega), ev72, up2_ne (by omega)]) ?_
                refine lv_iload_n hx hb dX1_addTest_113 rfl (lv_at hl 4 rfl) ?_
                refine g_iast X h (k := s) (cL_3 hL) hs (by omega) (by decide) dX1_addTest_114 (fun v114 H locs ev114 h => ?_)
                refine lv_aload_n hx hb dX1_addTest_115 rfl (lv_at hl 3 rfl) ?_
                refine lv_dup hx hb dX1_addTest_116 rfl ?_
                refine g_geti X h (k := 9) (cL_0 hL) fr_RX1_46 rfl (by decide) dX1_addTest_117 ?_
                refine g_tr (y := (v lb 9)) (by rw [ev114, up2_ne (by omega), ev104, up2_ne (by omega), ev72, up2_ne (by omega)]) ?_
                refine lv_iconst (v := 1) hx hb dX1_addTest_120 (by decide) ?_
                refine lv_iadd hx hb dX1_addTest_121 ?_
                refine g_puti X h (k := 9) (cL_0 hL) fp_RX1_46 rfl (by decide) dX1_addTest_122 (fun v122 H locs ev122 h => ?_)
                exact g_vret X h dX1_addTest_125 (by rw [← ht]; refine congrArg (fun z => (z, w)) ?_; rw [atS, ev122, ev114, ev104, ev72, hs, nI_1, (show loT t = x5_31 from by rw [q7, if_neg hg0, if_pos hg1]; exact h5.symm), (show hiT t = x6_40 from by rw [q8, if_neg hg0, if_pos hg1]; exact h6.symm), show dT t = x0 from by rw [q5, hlt]])
            · exact absurd c_82 c_51
        · skip
          have hg0 : g = 0 := nI_eq1 (b := 0) hg rfl (by omega) (by omega) c_51
          refine lv_iconst (v := 0) hx hb dX1_addTest_54 (by decide) ?_
          refine lv_goto (tgt := 72) hx hb dX1_addTest_55 (by decide) ?_
          refine g_iast X h (k := s) (cL_4 hL) hs (by omega) (by decide) dX1_addTest_72 (fun v72 H locs ev72 h => ?_)
          refine lv_aload_n hx hb dX1_addTest_73 rfl (lv_at hl 3 rfl) ?_
          refine g_getr X h (k := 8) (t := (lb + 5)) (cL_0 hL) fr_RX1_24 rfl (by decide) (by decide) (by decide) dX1_addTest_74 ?_
          refine lv_aload_n hx hb dX1_addTest_77 rfl (lv_at hl 3 rfl) ?_
          refine g_geti X h (k := 9) (cL_0 hL) fr_RX1_46 rfl (by decide) dX1_addTest_78 ?_
          refine g_tr (y := (v lb 9)) (by rw [ev72, up2_ne (by omega)]) ?_
          refine lv_iload_n hx hb dX1_addTest_81 rfl (lv_at hl 5 rfl) ?_
          refine lv_if_ne (tgt := 92) hx hb dX1_addTest_82 (by decide) (fun c_82 => ?_) (fun c_82 => ?_)
          · exact absurd c_51 c_82
          · skip
            refine lv_iload hx hb dX1_addTest_85 (lv_at hl 1 rfl) ?_
            refine lv_iconst (v := 1) hx hb dX1_addTest_87 (by decide) ?_
            refine lv_isub hx hb dX1_addTest_88 ?_
            refine lv_goto (tgt := 104) hx hb dX1_addTest_89 (by decide) ?_
            refine g_iast X h (k := s) (cL_5 hL) hs (by omega) (by decide) dX1_addTest_104 (fun v104 H locs ev104 h => ?_)
            refine lv_aload_n hx hb dX1_addTest_105 rfl (lv_at hl 3 rfl) ?_
            refine g_getr X h (k := 6) (t := (lb + 3)) (cL_0 hL) fr_RX1_18 rfl (by decide) (by decide) (by decide) dX1_addTest_106 ?_
            refine lv_aload_n hx hb dX1_addTest_109 rfl (lv_at hl 3 rfl) ?_
            refine g_geti X h (k := 9) (cL_0 hL) fr_RX1_46 rfl (by decide) dX1_addTest_110 ?_
            refine g_tr (y := (v lb 9)) (by rw [ev104, up2_ne (by omega), ev72, up2_ne (by omega)]) ?_
            refine lv_iload_n hx hb dX1_addTest_113 rfl (lv_at hl 4 rfl) ?_
            refine g_iast X h (k := s) (cL_3 hL) hs (by omega) (by decide) dX1_addTest_114 (fun v114 H locs ev114 h => ?_)
            refine lv_aload_n hx hb dX1_addTest_115 rfl (lv_at hl 3 rfl) ?_
            refine lv_dup hx hb dX1_addTest_116 rfl ?_
            refine g_geti X h (k := 9) (cL_0 hL) fr_RX1_46 rfl (by decide) dX1_addTest_117 ?_
            refine g_tr (y := (v lb 9)) (by rw [ev114, up2_ne (by omega), ev104, up2_ne (by omega), ev72, up2_ne (by omega)]) ?_
            refine lv_iconst (v := 1) hx hb dX1_addTest_120 (by decide) ?_
            refine lv_iadd hx hb dX1_addTest_121 ?_
            refine g_puti X h (k := 9) (cL_0 hL) fp_RX1_46 rfl (by decide) dX1_addTest_122 (fun v122 H locs ev122 h => ?_)
            exact g_vret X h dX1_addTest_125 (by rw [← ht]; refine congrArg (fun z => (z, w)) ?_; rw [atS, ev122, ev114, ev104, ev72, hs, nI_1, (show loT t = 0 from by rw [q7, if_pos hg0]), (show hiT t = (x5_31 - 1) from by rw [q8, if_pos hg0]; rw [h5]), show dT t = x0 from by rw [q5, hlt]])
      · skip
        refine lv_bipush (v := 10) hx hb dX1_addTest_19 (by decide) ?_
        refine lv_goto (tgt := 25) hx hb dX1_addTest_21 (by decide) ?_
        refine lv_istore (lv' := [(4, .int 10), (0, .ref (zg Z lb)), (1, .int x0), (2, .int x1), (3, .int x2)]) hx hb dX1_addTest_25 hl (by decide) rfl (fun ls hl => ?_)
        refine lv_iload_n hx hb dX1_addTest_27 rfl (lv_at hl 4 rfl) ?_
        refine lv_iload hx hb dX1_addTest_28 (lv_at hl 0 rfl) ?_
        refine lv_imul hx hb dX1_addTest_30 ?_
        refine lv_topi (fun x5_31 ex5_31 => ?_)
        refine lv_istore (lv' := [(5, .int x5_31), (4, .int 10), (0, .ref (zg Z lb)), (1, .int x0), (2, .int x1), (3, .int x2)]) hx hb dX1_addTest_31 hl (by decide) rfl (fun ls hl => ?_)
        refine lv_iload hx hb dX1_addTest_33 (lv_at hl 0 rfl) ?_
        refine lv_iload hx hb dX1_addTest_35 (lv_at hl 1 rfl) ?_
        refine lv_iadd hx hb dX1_addTest_37 ?_
        refine lv_iconst (v := 1) hx hb dX1_addTest_38 (by decide) ?_
        refine lv_isub hx hb dX1_addTest_39 ?_
        refine lv_topi (fun x6_40 ex6_40 => ?_)
        refine lv_istore (lv' := [(6, .int x6_40), (5, .int x5_31), (4, .int 10), (0, .ref (zg Z lb)), (1, .int x0), (2, .int x1), (3, .int x2)]) hx hb dX1_addTest_40 hl (by decide) rfl (fun ls hl => ?_)
        have hw : wT t = 10 := by rw [q6, if_pos (by exact Or.inr (nI_eq1 (b := 4) hlt rfl (by omega) (by omega) c_16))]
        have h5 : x5_31 = nI (n * wT t) := by rw [ex5_31, hw, hn]; exact pk_mul n 10
        have h6 : x6_40 = nI (n * wT t + wT t) - 1 := by rw [ex6_40, h5, hw]; exact congrArg (fun z => z - 1) (nI_add _ 10)
        refine lv_aload_n hx hb dX1_addTest_42 rfl (lv_at hl 3 rfl) ?_
        refine g_getr X h (k := 7) (t := (lb + 4)) (cL_0 hL) fr_RX1_21 rfl (by decide) (by decide) (by decide) dX1_addTest_43 ?_
        refine lv_aload_n hx hb dX1_addTest_46 rfl (lv_at hl 3 rfl) ?_
        refine g_geti X h (k := 9) (cL_0 hL) fr_RX1_46 rfl (by decide) dX1_addTest_47 ?_
        refine lv_iload_n hx hb dX1_addTest_50 rfl (lv_at hl 5 rfl) ?_
        refine lv_if_ne (tgt := 58) hx hb dX1_addTest_51 (by decide) (fun c_51 => ?_) (fun c_51 => ?_)
        · skip
          have hg0 : ¬ g = 0 := nI_eq0 (b := 0) hg rfl c_51
          refine lv_iload_n hx hb dX1_addTest_58 rfl (lv_at hl 5 rfl) ?_
          refine lv_iconst (v := 1) hx hb dX1_addTest_59 (by decide) ?_
          refine lv_icmp_ne (tgt := 68) hx hb dX1_addTest_60 (by decide) (fun c_60 => ?_) (fun c_60 => ?_)
          · skip
            have hg1 : ¬ g = 1 := nI_eq0 (b := 1) hg rfl c_60
            refine lv_iload hx hb dX1_addTest_68 (lv_at hl 0 rfl) ?_
            refine lv_iconst (v := 1) hx hb dX1_addTest_70 (by decide) ?_
            refine lv_iadd hx hb dX1_addTest_71 ?_
            refine g_iast X h (k := s) (cL_4 hL) hs (by omega) (by decide) dX1_addTest_72 (fun v72 H locs ev72 h => ?_)
            refine lv_aload_n hx hb dX1_addTest_73 rfl (lv_at hl 3 rfl) ?_
            refine g_getr X h (k := 8) (t := (lb + 5)) (cL_0 hL) fr_RX1_24 rfl (by decide) (by decide) (by decide) dX1_addTest_74 ?_
            refine lv_aload_n hx hb dX1_addTest_77 rfl (lv_at hl 3 rfl) ?_
            refine g_geti X h (k := 9) (cL_0 hL) fr_RX1_46 rfl (by decide) dX1_addTest_78 ?_
            refine g_tr (y := (v lb 9)) (by rw [ev72, up2_ne (by omega)]) ?_
            refine lv_iload_n hx hb dX1_addTest_81 rfl (lv_at hl 5 rfl) ?_
            refine lv_if_ne (tgt := 92) hx hb dX1_addTest_82 (by decide) (fun c_82 => ?_) (fun c_82 => ?_)
            · skip
              refine lv_iload_n hx hb dX1_addTest_92 rfl (lv_at hl 5 rfl) ?_
              refine lv_iconst (v := 1) hx hb dX1_addTest_93 (by decide) ?_
              refine lv_icmp_ne (tgt := 102) hx hb dX1_addTest_94 (by decide) (fun c_94 => ?_) (fun c_94 => ?_)
              · skip
                refine lv_ldc hx hb X.ow (X.ts _ cn_RX1_51) dX1_addTest_102 ?_
                refine g_iast X h (k := s) (cL_5 hL) hs (by omega) (by decide) dX1_addTest_104 (fun v104 H locs ev104 h => ?_)
                refine lv_aload_n hx hb dX1_addTest_105 rfl (lv_at hl 3 rfl) ?_
                refine g_getr X h (k := 6) (t := (lb + 3)) (cL_0 hL) fr_RX1_18 rfl (by decide) (by decide) (by decide) dX1_addTest_106 ?_
                refine lv_aload_n hx hb dX1_addTest_109 rfl (lv_at hl 3 rfl) ?_
                refine g_geti X h (k := 9) (cL_0 hL) fr_RX1_46 rfl (by decide) dX1_addTest_110 ?_
                refine g_tr (y := (v lb 9)) (by rw [ev104, up2_ne (by omega), ev72, up2_ne (by omega)]) ?_
                refine lv_iload_n hx hb dX1_addTest_113 rfl (lv_at hl 4 rfl) ?_
                refine g_iast X h (k := s) (cL_3 hL) hs (by omega) (by decide) dX1_addTest_114 (fun v114 H locs ev114 h => ?_)
                refine lv_aload_n hx hb dX1_addTest_115 rfl (lv_at hl 3 rfl) ?_
                refine lv_dup hx hb dX1_addTest_116 rfl ?_
                refine g_geti X h (k := 9) (cL_0 hL) fr_RX1_46 rfl (by decide) dX1_addTest_117 ?_
                refine g_tr (y := (v lb 9)) (by rw [ev114, up2_ne (by omega), ev104, up2_ne (by omega), ev72, up2_ne (by omega)]) ?_
                refine lv_iconst (v := 1) hx hb dX1_addTest_120 (by decide) ?_
                refine lv_iadd hx hb dX1_addTest_121 ?_
                refine g_puti X h (k := 9) (cL_0 hL) fp_RX1_46 rfl (by decide) dX1_addTest_122 (fun v122 H locs ev122 h => ?_)
                exact g_vret X h dX1_addTest_125 (by rw [← ht]; refine congrArg (fun z => (z, w)) ?_; rw [atS, ev122, ev114, ev104, ev72, hs, nI_1, (show loT t = (x6_40 + 1) from by rw [q7, if_neg hg0, if_neg hg1]; rw [h6]; exact (Int32.sub_add_cancel _ _).symm), (show hiT t = 2147483647 from by rw [q8, if_neg hg0, if_neg hg1]), show dT t = x0 from by rw [q5, hlt]])
              · exact absurd c_94 c_60
            · exact absurd c_82 c_51
          · skip
            have hg1 : g = 1 := nI_eq1 (b := 1) hg rfl (by omega) (by omega) c_60
            refine lv_iload hx hb dX1_addTest_63 (lv_at hl 1 rfl) ?_
            refine lv_goto (tgt := 72) hx hb dX1_addTest_65 (by decide) ?_
            refine g_iast X h (k := s) (cL_4 hL) hs (by omega) (by decide) dX1_addTest_72 (fun v72 H locs ev72 h => ?_)
            refine lv_aload_n hx hb dX1_addTest_73 rfl (lv_at hl 3 rfl) ?_
            refine g_getr X h (k := 8) (t := (lb + 5)) (cL_0 hL) fr_RX1_24 rfl (by decide) (by decide) (by decide) dX1_addTest_74 ?_
            refine lv_aload_n hx hb dX1_addTest_77 rfl (lv_at hl 3 rfl) ?_
            refine g_geti X h (k := 9) (cL_0 hL) fr_RX1_46 rfl (by decide) dX1_addTest_78 ?_
            refine g_tr (y := (v lb 9)) (by rw [ev72, up2_ne (by omega)]) ?_
            refine lv_iload_n hx hb dX1_addTest_81 rfl (lv_at hl 5 rfl) ?_
            refine lv_if_ne (tgt := 92) hx hb dX1_addTest_82 (by decide) (fun c_82 => ?_) (fun c_82 => ?_)
            · skip
              refine lv_iload_n hx hb dX1_addTest_92 rfl (lv_at hl 5 rfl) ?_
              refine lv_iconst (v := 1) hx hb dX1_addTest_93 (by decide) ?_
              refine lv_icmp_ne (tgt := 102) hx hb dX1_addTest_94 (by decide) (fun c_94 => ?_) (fun c_94 => ?_)
              · exact absurd c_60 c_94
              · skip
                refine lv_iload hx hb dX1_addTest_97 (lv_at hl 0 rfl) ?_
                refine lv_goto (tgt := 104) hx hb dX1_addTest_99 (by decide) ?_
                refine g_iast X h (k := s) (cL_5 hL) hs (by omega) (by decide) dX1_addTest_104 (fun v104 H locs ev104 h => ?_)
                refine lv_aload_n hx hb dX1_addTest_105 rfl (lv_at hl 3 rfl) ?_
                refine g_getr X h (k := 6) (t := (lb + 3)) (cL_0 hL) fr_RX1_18 rfl (by decide) (by decide) (by decide) dX1_addTest_106 ?_
                refine lv_aload_n hx hb dX1_addTest_109 rfl (lv_at hl 3 rfl) ?_
                refine g_geti X h (k := 9) (cL_0 hL) fr_RX1_46 rfl (by decide) dX1_addTest_110 ?_
                refine g_tr (y := (v lb 9)) (by rw [ev104, up2_ne (by omega), ev72, up2_ne (by omega)]) ?_
                refine lv_iload_n hx hb dX1_addTest_113 rfl (lv_at hl 4 rfl) ?_
                refine g_iast X h (k := s) (cL_3 hL) hs (by omega) (by decide) dX1_addTest_114 (fun v114 H locs ev114 h => ?_)
                refine lv_aload_n hx hb dX1_addTest_115 rfl (lv_at hl 3 rfl) ?_
                refine lv_dup hx hb dX1_addTest_116 rfl ?_
                refine g_geti X h (k := 9) (cL_0 hL) fr_RX1_46 rfl (by decide) dX1_addTest_117 ?_
                refine g_tr (y := (v lb 9)) (by rw [ev114, up2_ne (by omega), ev104, up2_ne (by omega), ev72, up2_ne (by omega)]) ?_
                refine lv_iconst (v := 1) hx hb dX1_addTest_120 (by decide) ?_
                refine lv_iadd hx hb dX1_addTest_121 ?_
                refine g_puti X h (k := 9) (cL_0 hL) fp_RX1_46 rfl (by decide) dX1_addTest_122 (fun v122 H locs ev122 h => ?_)
                exact g_vret X h dX1_addTest_125 (by rw [← ht]; refine congrArg (fun z => (z, w)) ?_; rw [atS, ev122, ev114, ev104, ev72, hs, nI_1, (show loT t = x5_31 from by rw [q7, if_neg hg0, if_pos hg1]; exact h5.symm), (show hiT t = x6_40 from by rw [q8, if_neg hg0, if_pos hg1]; exact h6.symm), show dT t = x0 from by rw [q5, hlt]])
            · exact absurd c_82 c_51
        · skip
          have hg0 : g = 0 := nI_eq1 (b := 0) hg rfl (by omega) (by omega) c_51
          refine lv_iconst (v := 0) hx hb dX1_addTest_54 (by decide) ?_
          refine lv_goto (tgt := 72) hx hb dX1_addTest_55 (by decide) ?_
          refine g_iast X h (k := s) (cL_4 hL) hs (by omega) (by decide) dX1_addTest_72 (fun v72 H locs ev72 h => ?_)
          refine lv_aload_n hx hb dX1_addTest_73 rfl (lv_at hl 3 rfl) ?_
          refine g_getr X h (k := 8) (t := (lb + 5)) (cL_0 hL) fr_RX1_24 rfl (by decide) (by decide) (by decide) dX1_addTest_74 ?_
          refine lv_aload_n hx hb dX1_addTest_77 rfl (lv_at hl 3 rfl) ?_
          refine g_geti X h (k := 9) (cL_0 hL) fr_RX1_46 rfl (by decide) dX1_addTest_78 ?_
          refine g_tr (y := (v lb 9)) (by rw [ev72, up2_ne (by omega)]) ?_
          refine lv_iload_n hx hb dX1_addTest_81 rfl (lv_at hl 5 rfl) ?_
          refine lv_if_ne (tgt := 92) hx hb dX1_addTest_82 (by decide) (fun c_82 => ?_) (fun c_82 => ?_)
          · exact absurd c_51 c_82
          · skip
            refine lv_iload hx hb dX1_addTest_85 (lv_at hl 1 rfl) ?_
            refine lv_iconst (v := 1) hx hb dX1_addTest_87 (by decide) ?_
            refine lv_isub hx hb dX1_addTest_88 ?_
            refine lv_goto (tgt := 104) hx hb dX1_addTest_89 (by decide) ?_
            refine g_iast X h (k := s) (cL_5 hL) hs (by omega) (by decide) dX1_addTest_104 (fun v104 H locs ev104 h => ?_)
            refine lv_aload_n hx hb dX1_addTest_105 rfl (lv_at hl 3 rfl) ?_
            refine g_getr X h (k := 6) (t := (lb + 3)) (cL_0 hL) fr_RX1_18 rfl (by decide) (by decide) (by decide) dX1_addTest_106 ?_
            refine lv_aload_n hx hb dX1_addTest_109 rfl (lv_at hl 3 rfl) ?_
            refine g_geti X h (k := 9) (cL_0 hL) fr_RX1_46 rfl (by decide) dX1_addTest_110 ?_
            refine g_tr (y := (v lb 9)) (by rw [ev104, up2_ne (by omega), ev72, up2_ne (by omega)]) ?_
            refine lv_iload_n hx hb dX1_addTest_113 rfl (lv_at hl 4 rfl) ?_
            refine g_iast X h (k := s) (cL_3 hL) hs (by omega) (by decide) dX1_addTest_114 (fun v114 H locs ev114 h => ?_)
            refine lv_aload_n hx hb dX1_addTest_115 rfl (lv_at hl 3 rfl) ?_
            refine lv_dup hx hb dX1_addTest_116 rfl ?_
            refine g_geti X h (k := 9) (cL_0 hL) fr_RX1_46 rfl (by decide) dX1_addTest_117 ?_
            refine g_tr (y := (v lb 9)) (by rw [ev114, up2_ne (by omega), ev104, up2_ne (by omega), ev72, up2_ne (by omega)]) ?_
            refine lv_iconst (v := 1) hx hb dX1_addTest_120 (by decide) ?_
            refine lv_iadd hx hb dX1_addTest_121 ?_
            refine g_puti X h (k := 9) (cL_0 hL) fp_RX1_46 rfl (by decide) dX1_addTest_122 (fun v122 H locs ev122 h => ?_)
            exact g_vret X h dX1_addTest_125 (by rw [← ht]; refine congrArg (fun z => (z, w)) ?_; rw [atS, ev122, ev114, ev104, ev72, hs, nI_1, (show loT t = 0 from by rw [q7, if_pos hg0]), (show hiT t = (x5_31 - 1) from by rw [q8, if_pos hg0]; rw [h5]), show dT t = x0 from by rw [q5, hlt]])

set_option maxRecDepth 100000 in
set_option maxHeartbeats 1000000 in
theorem c_X1_addDoor (gl : Launch) (Z : PL) (v : VV) (w : WV) (x0 : Int32) (lb : Nat) (hL : isL lb) (d : Nat) (hd : v lb 3 = nI d) (hd1 : d < 10) : CT gl yX1_addDoor cX1_addDoor 2 none 0 0 Z [.ref (zg Z lb), .int x0] v w (Qv Z (fun u => (drS v lb d x0, w) = u)) := by
  refine g_met (by decide) (Nat.le_of_ble_eq_true rfl) ?_
  intro gp ge gs gm ga gb gh gc X h ls hl
  have hx := X.1
  have hb := X.2.1
  have hl : lv_has ls 2 [(0, .ref (zg Z lb)), (1, .int x0)] := hl
  refine lv_aload_n hx hb dX1_addDoor_0 rfl (lv_at hl 0 rfl) ?_
  refine g_geti X h (k := 3) (cL_0 hL) fr_RX1_43 rfl (by decide) dX1_addDoor_1 ?_
  refine lv_bipush (v := 10) hx hb dX1_addDoor_4 (by decide) ?_
  refine lv_icmp_ge (tgt := 42) hx hb dX1_addDoor_6 (by decide) (fun c_6 => ?_) (fun c_6 => ?_)
  · exact absurd c_6 (by rw [hd]; exact Int32.not_le.mpr (nI_lt (b := 10) hd1 (by omega)))
  · skip
    refine lv_aload_n hx hb dX1_addDoor_9 rfl (lv_at hl 0 rfl) ?_
    refine g_getr X h (k := 4) (t := (lb + 1)) (cL_0 hL) fr_RX1_11 rfl (by decide) (by decide) (by decide) dX1_addDoor_10 ?_
    refine lv_aload_n hx hb dX1_addDoor_13 rfl (lv_at hl 0 rfl) ?_
    refine g_geti X h (k := 3) (cL_0 hL) fr_RX1_43 rfl (by decide) dX1_addDoor_14 ?_
    refine lv_iload_n hx hb dX1_addDoor_17 rfl (lv_at hl 1 rfl) ?_
    refine g_iast X h (k := d) (cL_1 hL) hd (by omega) (by decide) dX1_addDoor_18 (fun v18 H locs ev18 h => ?_)
    refine lv_aload_n hx hb dX1_addDoor_19 rfl (lv_at hl 0 rfl) ?_
    refine g_getr X h (k := 5) (t := (lb + 2)) (cL_0 hL) fr_RX1_15 rfl (by decide) (by decide) (by decide) dX1_addDoor_20 ?_
    refine lv_aload_n hx hb dX1_addDoor_23 rfl (lv_at hl 0 rfl) ?_
    refine g_geti X h (k := 3) (cL_0 hL) fr_RX1_43 rfl (by decide) dX1_addDoor_24 ?_
    refine g_tr (y := (v lb 3)) (by rw [ev18, up2_ne (by omega)]) ?_
    refine lv_aload_n hx hb dX1_addDoor_27 rfl (lv_at hl 0 rfl) ?_
    refine g_geti X h (k := 9) (cL_0 hL) fr_RX1_46 rfl (by decide) dX1_addDoor_28 ?_
    refine g_tr (y := (v lb 9)) (by rw [ev18, up2_ne (by omega)]) ?_
    refine g_iast X h (k := d) (cL_2 hL) hd (by omega) (by decide) dX1_addDoor_31 (fun v31 H locs ev31 h => ?_)
    refine lv_aload_n hx hb dX1_addDoor_32 rfl (lv_at hl 0 rfl) ?_
    refine lv_dup hx hb dX1_addDoor_33 rfl ?_
    refine g_geti X h (k := 3) (cL_0 hL) fr_RX1_43 rfl (by decide) dX1_addDoor_34 ?_
    refine g_tr (y := (v lb 3)) (by rw [ev31, up2_ne (by omega), ev18, up2_ne (by omega)]) ?_
    refine lv_iconst (v := 1) hx hb dX1_addDoor_37 (by decide) ?_
    refine lv_iadd hx hb dX1_addDoor_38 ?_
    refine g_puti X h (k := 3) (cL_0 hL) fp_RX1_43 rfl (by decide) dX1_addDoor_39 (fun v39 H locs ev39 h => ?_)
    exact g_vret X h dX1_addDoor_42 (by rw [ev39, ev31, ev18, hd, nI_1]; rfl)

set_option maxRecDepth 100000 in
set_option maxHeartbeats 1000000 in
theorem c_X5_skip (gl : Launch) (Z : PL) (v : VV) (w : WV) (x0 : Int32) (t : Nat → Int32) (z : Nat) (a : Nat) (hP : PT v t z a) : CT gl yX5_skip cX5_skip 2 (some .boolean) 0 0 Z [.ref (zg Z 108), .int x0] v w (Qi Z (fun r u => r = bI (isAt t z a x0) ∧ (if isAt t z a x0 then up2 v 108 2 (nI (a + 1)) else v, w) = u)) := by
  refine g_met (by decide) (Nat.le_of_ble_eq_true rfl) ?_
  intro gp ge gs gm ga gb gh gc X h ls hl
  have hx := X.1
  have hb := X.2.1
  have hl : lv_has ls 2 [(0, .ref (zg Z 108)), (1, .int x0)] := hl
  obtain ⟨ht, hz, ha, hz1, haz, hch⟩ := id hP
  refine lv_aload_n hx hb dX5_skip_0 rfl (lv_at hl 0 rfl) ?_
  refine g_geti X h (k := 2) (cc_108) fr_RX5_28 rfl (by decide) dX5_skip_1 ?_
  refine lv_aload_n hx hb dX5_skip_4 rfl (lv_at hl 0 rfl) ?_
  refine g_geti X h (k := 1) (cc_108) fr_RX5_15 rfl (by decide) dX5_skip_5 ?_
  refine lv_icmp_ge (tgt := 24) hx hb dX5_skip_8 (by decide) (fun c_8 => ?_) (fun c_8 => ?_)
  · skip
    have hle := nI_le1 (a := z) (b := a) hz ha (by omega) (by omega) c_8
    refine lv_iconst (v := 0) hx hb dX5_skip_24 (by decide) ?_
    exact g_nret X h dX5_skip_25 rfl ⟨by rw [isAt_f1 (by omega)]; rfl, by rw [isAt_f1 (by omega), if_neg (by decide)]⟩
  · skip
    have hle := nI_le0 (a := z) (b := a) hz ha (by omega) (by omega) c_8
    refine lv_aload_n hx hb dX5_skip_11 rfl (lv_at hl 0 rfl) ?_
    refine g_getr X h (k := 0) (t := 109) (cc_108) fr_RX5_11 rfl (by decide) (by decide) (by decide) dX5_skip_12 ?_
    refine lv_aload_n hx hb dX5_skip_15 rfl (lv_at hl 0 rfl) ?_
    refine g_geti X h (k := 2) (cc_108) fr_RX5_28 rfl (by decide) dX5_skip_16 ?_
    refine g_bald X h (k := a) (cc_109) ha (by omega) (by decide) dX5_skip_19 ?_
    refine lv_iload_n hx hb dX5_skip_20 rfl (lv_at hl 1 rfl) ?_
    refine lv_icmp_eq (tgt := 26) hx hb dX5_skip_21 (by decide) (fun c_21 => ?_) (fun c_21 => ?_)
    · skip
      have hq : isAt t z a x0 = true := isAt_t hle (by rw [← ht]; exact c_21)
      refine lv_aload_n hx hb dX5_skip_26 rfl (lv_at hl 0 rfl) ?_
      refine lv_dup hx hb dX5_skip_27 rfl ?_
      refine g_geti X h (k := 2) (cc_108) fr_RX5_28 rfl (by decide) dX5_skip_28 ?_
      refine lv_iconst (v := 1) hx hb dX5_skip_31 (by decide) ?_
      refine lv_iadd hx hb dX5_skip_32 ?_
      refine g_puti X h (k := 2) (cc_108) fp_RX5_28 rfl (by decide) dX5_skip_33 (fun v33 H locs ev33 h => ?_)
      refine lv_iconst (v := 1) hx hb dX5_skip_36 (by decide) ?_
      exact g_nret X h dX5_skip_37 rfl ⟨by rw [hq]; rfl, by rw [hq, if_pos rfl, ev33, ha, nI_1]⟩
    · skip
      have hq : isAt t z a x0 = false := isAt_f2 (by rw [← ht]; exact c_21)
      refine lv_iconst (v := 0) hx hb dX5_skip_24 (by decide) ?_
      exact g_nret X h dX5_skip_25 rfl ⟨by rw [hq]; rfl, by rw [hq, if_neg (by decide)]⟩

set_option maxRecDepth 100000 in
set_option maxHeartbeats 1000000 in
theorem c_X5_number (gl : Launch) (Z : PL) (v : VV) (w : WV) (t : Nat → Int32) (z : Nat) (a : Nat) (hP : PT v t z a) : CT gl yX5_number cX5_number 3 (some .int) 0 0 Z [.ref (zg Z 108)] v w (Qi Z (fun r u => r = numA t a (nmC t z a) ∧ (up2 v 108 2 (nI (a + nmC t z a)), w) = u)) := by
  refine g_met (by decide) (Nat.le_of_ble_eq_true rfl) ?_
  intro gp ge gs gm ga gb gh gc X h ls hl
  have hx := X.1
  have hb := X.2.1
  have hl : lv_has ls 3 [(0, .ref (zg Z 108))] := hl
  obtain ⟨ht, hz, ha, hz1, haz, hch⟩ := id hP
  refine lv_iconst (v := (-1)) hx hb dX5_number_0 (by decide) ?_
  refine lv_istore_n (lv' := [(1, .int (-1)), (0, .ref (zg Z 108))]) hx hb dX5_number_1 rfl hl (by decide) rfl (fun ls hl => ?_)
  refine lv_iconst (v := 0) hx hb dX5_number_2 (by decide) ?_
  refine lv_istore_n (lv' := [(2, .int 0), (1, .int (-1)), (0, .ref (zg Z 108))]) hx hb dX5_number_3 rfl hl (by decide) rfl (fun ls hl => ?_)
  have L4 : ∀ (n4 : Nat) (k : Nat) (x1 x2 : Int32) (va : VV), (x2 = nI k) → (k ≤ 2) → (x1 = numA t a k) → (va = up2 v 108 2 (nI (a + k))) → (∀ j, j < k → dig t z (a + j) = true) → (a + k ≤ z) → 2 - k < n4 → ∀ (H : Heap) (locs : List Loc), HS Z gs va w H locs → ∀ ls : Array Slot, lv_has ls 3 [(0, .ref (zg Z 108)), (1, .int x1), (2, .int x2)] → W gp gl ge (rmm 0 0) gs gm ga gb gh gc H locs 0 0 (MQ gb (Qi Z (fun r u => r = numA t a (nmC t z a) ∧ (up2 v 108 2 (nI (a + nmC t z a)), w) = u)) ga gs 0 0 (zA Z)) (F0 gm 4 ls []) := by
    intro n4
    induction n4 with
    | zero => intro k x1 x2 va hx2 hk hx1 hva hall hak hmu; exact absurd hmu (Nat.not_lt_zero _)
    | succ n4 ih4 =>
      intro k x1 x2 va hx2 hk hx1 hva hall hak hmu4 H locs h ls hl
      have ha3 : va 108 2 = nI (a + k) := by rw [hva, up2_same]
      have hz3 : va 108 1 = nI z := by rw [hva, up2_slot (by decide)]; exact hz
      have ht3 : va 109 = t := by rw [hva, up2_ne (by decide)]; exact ht
      refine lv_iload_n hx hb dX5_number_4 rfl (lv_at hl 2 rfl) ?_
      refine lv_iconst (v := 2) hx hb dX5_number_5 (by decide) ?_
      refine lv_icmp_ge (tgt := 90) hx hb dX5_number_6 (by decide) (fun c_6 => ?_) (fun c_6 => ?_)
      · skip
        have hk2 := nI_le1 (a := 2) (b := k) rfl hx2 (by omega) (by omega) c_6
        refine lv_iload_n hx hb dX5_number_90 rfl (lv_at hl 1 rfl) ?_
        exact g_iret X h dX5_number_91 (by have hn : nmC t z a = k := rd_e hk hall (Or.inl (by omega)); rw [hn]; exact ⟨hx1, by rw [hva]⟩)
      · skip
        have hk2 := nI_le0 (a := 2) (b := k) rfl hx2 (by omega) (by omega) c_6
        refine lv_aload_n hx hb dX5_number_9 rfl (lv_at hl 0 rfl) ?_
        refine g_geti X h (k := 2) (cc_108) fr_RX5_28 rfl (by decide) dX5_number_10 ?_
        refine lv_aload_n hx hb dX5_number_13 rfl (lv_at hl 0 rfl) ?_
        refine g_geti X h (k := 1) (cc_108) fr_RX5_15 rfl (by decide) dX5_number_14 ?_
        refine g_tr (y := (v 108 1)) (by rw [hva, up2_slot (by omega)]) ?_
        refine lv_icmp_ge (tgt := 90) hx hb dX5_number_17 (by decide) (fun c_17 => ?_) (fun c_17 => ?_)
        · skip
          have hle := nI_le1 (a := z) (b := (a + k)) hz ha3 (by omega) (by omega) c_17
          refine lv_iload_n hx hb dX5_number_90 rfl (lv_at hl 1 rfl) ?_
          exact g_iret X h dX5_number_91 (by have hn : nmC t z a = k := rd_e hk hall (Or.inr (dig_f1 hle)); rw [hn]; exact ⟨hx1, by rw [hva]⟩)
        · skip
          have hle := nI_le0 (a := z) (b := (a + k)) hz ha3 (by omega) (by omega) c_17
          refine lv_aload_n hx hb dX5_number_20 rfl (lv_at hl 0 rfl) ?_
          refine g_getr X h (k := 0) (t := 109) (cc_108) fr_RX5_11 rfl (by decide) (by decide) (by decide) dX5_number_21 ?_
          refine lv_aload_n hx hb dX5_number_24 rfl (lv_at hl 0 rfl) ?_
          refine g_geti X h (k := 2) (cc_108) fr_RX5_28 rfl (by decide) dX5_number_25 ?_
          refine g_bald X h (k := (a + k)) (cc_109) ha3 (by omega) (by decide) dX5_number_28 ?_
          refine g_tr (y := (v 109 (a + k))) (by rw [hva, up2_ne (by omega)]) ?_
          refine lv_bipush (v := 48) hx hb dX5_number_29 (by decide) ?_
          refine lv_icmp_lt (tgt := 90) hx hb dX5_number_31 (by decide) (fun c_31 => ?_) (fun c_31 => ?_)
          · skip
            refine lv_iload_n hx hb dX5_number_90 rfl (lv_at hl 1 rfl) ?_
            exact g_iret X h dX5_number_91 (by have hn : nmC t z a = k := rd_e hk hall (Or.inr (dig_f2 (by rw [← ht]; exact c_31))); rw [hn]; exact ⟨hx1, by rw [hva]⟩)
          · skip
            refine lv_aload_n hx hb dX5_number_34 rfl (lv_at hl 0 rfl) ?_
            refine g_getr X h (k := 0) (t := 109) (cc_108) fr_RX5_11 rfl (by decide) (by decide) (by decide) dX5_number_35 ?_
            refine lv_aload_n hx hb dX5_number_38 rfl (lv_at hl 0 rfl) ?_
            refine g_geti X h (k := 2) (cc_108) fr_RX5_28 rfl (by decide) dX5_number_39 ?_
            refine g_bald X h (k := (a + k)) (cc_109) ha3 (by omega) (by decide) dX5_number_42 ?_
            refine g_tr (y := (v 109 (a + k))) (by rw [hva, up2_ne (by omega)]) ?_
            refine lv_bipush (v := 57) hx hb dX5_number_43 (by decide) ?_
            refine lv_icmp_gt (tgt := 90) hx hb dX5_number_45 (by decide) (fun c_45 => ?_) (fun c_45 => ?_)
            · skip
              refine lv_iload_n hx hb dX5_number_90 rfl (lv_at hl 1 rfl) ?_
              exact g_iret X h dX5_number_91 (by have hn : nmC t z a = k := rd_e hk hall (Or.inr (dig_f3 (by rw [← ht]; exact c_45))); rw [hn]; exact ⟨hx1, by rw [hva]⟩)
            · skip
              have hd1 : dig t z (a + k) = true := dig_tt hle (by rw [← ht]; exact c_31) (by rw [← ht]; exact c_45)
              refine lv_iload_n hx hb dX5_number_48 rfl (lv_at hl 2 rfl) ?_
              refine lv_if_ne (tgt := 56) hx hb dX5_number_49 (by decide) (fun c_49 => ?_) (fun c_49 => ?_)
              · skip
                refine lv_iload_n hx hb dX5_number_56 rfl (lv_at hl 1 rfl) ?_
                refine lv_bipush (v := 10) hx hb dX5_number_57 (by decide) ?_
                refine lv_imul hx hb dX5_number_59 ?_
                refine lv_aload_n hx hb dX5_number_60 rfl (lv_at hl 0 rfl) ?_
                refine g_getr X h (k := 0) (t := 109) (cc_108) fr_RX5_11 rfl (by decide) (by decide) (by decide) dX5_number_61 ?_
                refine lv_aload_n hx hb dX5_number_64 rfl (lv_at hl 0 rfl) ?_
                refine g_geti X h (k := 2) (cc_108) fr_RX5_28 rfl (by decide) dX5_number_65 ?_
                refine g_bald X h (k := (a + k)) (cc_109) ha3 (by omega) (by decide) dX5_number_68 ?_
                refine g_tr (y := (v 109 (a + k))) (by rw [hva, up2_ne (by omega)]) ?_
                refine lv_iadd hx hb dX5_number_69 ?_
                refine lv_bipush (v := 48) hx hb dX5_number_70 (by decide) ?_
                refine lv_isub hx hb dX5_number_72 ?_
                refine lv_topi (fun x1_73 ex1_73 => ?_)
                refine lv_istore_n (lv' := [(1, .int x1_73), (0, .ref (zg Z 108)), (2, .int x2)]) hx hb dX5_number_73 rfl hl (by decide) rfl (fun ls hl => ?_)
                refine lv_aload_n hx hb dX5_number_74 rfl (lv_at hl 1 rfl) ?_
                refine lv_dup hx hb dX5_number_75 rfl ?_
                refine g_geti X h (k := 2) (cc_108) fr_RX5_28 rfl (by decide) dX5_number_76 ?_
                refine lv_iconst (v := 1) hx hb dX5_number_79 (by decide) ?_
                refine lv_iadd hx hb dX5_number_80 ?_
                refine g_puti X h (k := 2) (cc_108) fp_RX5_28 rfl (by decide) dX5_number_81 (fun v81 H locs ev81 h => ?_)
                refine lv_iinc (v := (x2 + 1)) (lv' := [(2, .int (x2 + 1)), (1, .int x1_73), (0, .ref (zg Z 108))]) hx hb dX5_number_84 hl (k := 2) rfl rfl (by decide) rfl (fun ls hl => ?_)
                refine lv_goto (tgt := 4) hx hb dX5_number_87 (by decide) ?_
                exact ih4 (k + 1) x1_73 (x2 + 1) v81 (by rw [hx2]; exact nI_1 _) (by omega) (by rw [ex1_73, ht]; exact numA_s (z := z) (by omega) hx1 hd1 (Or.inr ⟨nI_eq0 (b := 0) hx2 rfl c_49, rfl⟩) hall) (by rw [ev81, ha3, hva, up2_up2]; exact congrArg _ (nI_1 _)) (fun j hj => if e : j = k then (by rw [e]; exact hd1) else hall j (by omega)) (by omega) (by omega) _ _ h ls (lv_sub hl [2, 1, 0] rfl)
              · skip
                refine lv_iconst (v := 0) hx hb dX5_number_52 (by decide) ?_
                refine lv_goto (tgt := 60) hx hb dX5_number_53 (by decide) ?_
                refine lv_aload_n hx hb dX5_number_60 rfl (lv_at hl 0 rfl) ?_
                refine g_getr X h (k := 0) (t := 109) (cc_108) fr_RX5_11 rfl (by decide) (by decide) (by decide) dX5_number_61 ?_
                refine lv_aload_n hx hb dX5_number_64 rfl (lv_at hl 0 rfl) ?_
                refine g_geti X h (k := 2) (cc_108) fr_RX5_28 rfl (by decide) dX5_number_65 ?_
                refine g_bald X h (k := (a + k)) (cc_109) ha3 (by omega) (by decide) dX5_number_68 ?_
                refine g_tr (y := (v 109 (a + k))) (by rw [hva, up2_ne (by omega)]) ?_
                refine lv_iadd hx hb dX5_number_69 ?_
                refine lv_bipush (v := 48) hx hb dX5_number_70 (by decide) ?_
                refine lv_isub hx hb dX5_number_72 ?_
                refine lv_topi (fun x1_73 ex1_73 => ?_)
                refine lv_istore_n (lv' := [(1, .int x1_73), (0, .ref (zg Z 108)), (2, .int x2)]) hx hb dX5_number_73 rfl hl (by decide) rfl (fun ls hl => ?_)
                refine lv_aload_n hx hb dX5_number_74 rfl (lv_at hl 1 rfl) ?_
                refine lv_dup hx hb dX5_number_75 rfl ?_
                refine g_geti X h (k := 2) (cc_108) fr_RX5_28 rfl (by decide) dX5_number_76 ?_
                refine lv_iconst (v := 1) hx hb dX5_number_79 (by decide) ?_
                refine lv_iadd hx hb dX5_number_80 ?_
                refine g_puti X h (k := 2) (cc_108) fp_RX5_28 rfl (by decide) dX5_number_81 (fun v81 H locs ev81 h => ?_)
                refine lv_iinc (v := (x2 + 1)) (lv' := [(2, .int (x2 + 1)), (1, .int x1_73), (0, .ref (zg Z 108))]) hx hb dX5_number_84 hl (k := 2) rfl rfl (by decide) rfl (fun ls hl => ?_)
                refine lv_goto (tgt := 4) hx hb dX5_number_87 (by decide) ?_
                exact ih4 (k + 1) x1_73 (x2 + 1) v81 (by rw [hx2]; exact nI_1 _) (by omega) (by rw [ex1_73, ht]; exact numA_s (z := z) (by omega) hx1 hd1 (Or.inl ⟨nI_eq1 (b := 0) hx2 rfl (by omega) (by omega) c_49, rfl⟩) hall) (by rw [ev81, ha3, hva, up2_up2]; exact congrArg _ (nI_1 _)) (fun j hj => if e : j = k then (by rw [e]; exact hd1) else hall j (by omega)) (by omega) (by omega) _ _ h ls (lv_sub hl [2, 1, 0] rfl)
  exact L4 (2 - 0 + 1) 0 (-1) 0 v rfl (by omega) rfl (up2_self ha).symm (fun j hj => absurd hj (Nat.not_lt_zero _)) haz (Nat.lt_succ_self _) _ _ h ls (lv_sub hl [2, 1, 0] rfl)

set_option maxRecDepth 100000 in
set_option maxHeartbeats 1000000 in
theorem c_X5_oneOf (gl : Launch) (Z : PL) (v : VV) (w : WV) (i : Nat) (hi : i < 12) (t : Nat → Int32) (z : Nat) (a : Nat) (hP : PT v t z a) : CT gl yX5_oneOf cX5_oneOf 3 (some .int) 4 91 Z [.ref (zg Z 108), .ref (zK Z i)] v w (Qi Z (fun r u => r = oneS t z a i ∧ (if oneS t z a i < 0 then v else up2 v 108 2 (nI (a + 1)), w) = u)) := by
  refine g_met (by decide) (Nat.le_of_ble_eq_true rfl) ?_
  intro gp ge gs gm ga gb gh gc X h ls hl
  have hx := X.1
  have hb := X.2.1
  have hl : lv_has ls 3 [(0, .ref (zg Z 108)), (1, .ref (zK Z i))] := hl
  obtain ⟨ht, hz, ha, hz1, haz, hch⟩ := id hP
  refine lv_aload_n hx hb dX5_oneOf_0 rfl (lv_at hl 0 rfl) ?_
  refine g_geti X h (k := 2) (cc_108) fr_RX5_28 rfl (by decide) dX5_oneOf_1 ?_
  refine lv_aload_n hx hb dX5_oneOf_4 rfl (lv_at hl 0 rfl) ?_
  refine g_geti X h (k := 1) (cc_108) fr_RX5_15 rfl (by decide) dX5_oneOf_5 ?_
  refine lv_icmp_ge (tgt := 28) hx hb dX5_oneOf_8 (by decide) (fun c_8 => ?_) (fun c_8 => ?_)
  · skip
    have hle := nI_le1 (a := z) (b := a) hz ha (by omega) (by omega) c_8
    refine lv_iconst (v := (-1)) hx hb dX5_oneOf_28 (by decide) ?_
    have hone : (-1) = oneS t z a i := by rw [oneS, if_neg (by omega)]
    refine lv_istore_n (lv' := [(2, .int (-1)), (0, .ref (zg Z 108)), (1, .ref (zK Z i))]) hx hb dX5_oneOf_29 rfl hl (by decide) rfl (fun ls hl => ?_)
    refine lv_iload_n hx hb dX5_oneOf_30 rfl (lv_at hl 0 rfl) ?_
    refine lv_if_lt (tgt := 44) hx hb dX5_oneOf_31 (by decide) (fun c_31 => ?_) (fun c_31 => ?_)
    · skip
      refine lv_iload_n hx hb dX5_oneOf_44 rfl (lv_at hl 0 rfl) ?_
      exact g_iret X h dX5_oneOf_45 ⟨hone, by rw [if_pos (by rw [← hone]; exact c_31)]⟩
    · skip
      refine lv_aload_n hx hb dX5_oneOf_34 rfl (lv_at hl 1 rfl) ?_
      refine lv_dup hx hb dX5_oneOf_35 rfl ?_
      refine g_geti X h (k := 2) (cc_108) fr_RX5_28 rfl (by decide) dX5_oneOf_36 ?_
      refine lv_iconst (v := 1) hx hb dX5_oneOf_39 (by decide) ?_
      refine lv_iadd hx hb dX5_oneOf_40 ?_
      refine g_puti X h (k := 2) (cc_108) fp_RX5_28 rfl (by decide) dX5_oneOf_41 (fun v41 H locs ev41 h => ?_)
      refine lv_iload_n hx hb dX5_oneOf_44 rfl (lv_at hl 0 rfl) ?_
      exact g_iret X h dX5_oneOf_45 ⟨hone, by rw [if_neg (by rw [← hone]; exact c_31), ev41, ha, nI_1]⟩
  · skip
    have hle := nI_le0 (a := z) (b := a) hz ha (by omega) (by omega) c_8
    refine lv_aload_n hx hb dX5_oneOf_11 rfl (lv_at hl 1 rfl) ?_
    refine lv_aload_n hx hb dX5_oneOf_12 rfl (lv_at hl 0 rfl) ?_
    refine g_getr X h (k := 0) (t := 109) (cc_108) fr_RX5_11 rfl (by decide) (by decide) (by decide) dX5_oneOf_13 ?_
    refine lv_aload_n hx hb dX5_oneOf_16 rfl (lv_at hl 0 rfl) ?_
    refine g_geti X h (k := 2) (cc_108) fr_RX5_28 rfl (by decide) dX5_oneOf_17 ?_
    refine g_bald X h (k := a) (cc_109) ha (by omega) (by decide) dX5_oneOf_20 ?_
    refine lv_i2c hx hb dX5_oneOf_21 rfl ?_
    refine g_ki h (g_runVs X h (As := [.int (((v 109 a) : Int32).toUInt32 % 65536).toInt32]) (rest := []) (c_J0_indexOf_0f7a4 gl Z v w i (by first | decide | assumption) ((((v 109 a) : Int32).toUInt32 % 65536).toInt32)) mi_J0_indexOf_0f7a4 ml_RX5_110 hi rfl ⟨Nat.le_of_ble_eq_true rfl, Nat.le_of_ble_eq_true rfl⟩ rfl hl.1 rfl (Nat.le_of_ble_eq_true rfl) dX5_oneOf_22) (fun r22 v22 w22 H locs hp22 h => ?_)
    obtain ⟨hr22, hu22⟩ := hp22; obtain ⟨rfl, rfl⟩ := Prod.mk.inj hu22
    refine lv_goto (tgt := 29) hx hb dX5_oneOf_25 (by decide) ?_
    have hone : r22 = oneS t z a i := by rw [oneS, if_pos hle, hr22, show v 109 a = t a from by rw [ht], c16 (hch a hle)]
    refine lv_istore_n (lv' := [(2, .int r22), (0, .ref (zg Z 108)), (1, .ref (zK Z i))]) hx hb dX5_oneOf_29 rfl hl (by decide) rfl (fun ls hl => ?_)
    refine lv_iload_n hx hb dX5_oneOf_30 rfl (lv_at hl 0 rfl) ?_
    refine lv_if_lt (tgt := 44) hx hb dX5_oneOf_31 (by decide) (fun c_31 => ?_) (fun c_31 => ?_)
    · skip
      refine lv_iload_n hx hb dX5_oneOf_44 rfl (lv_at hl 0 rfl) ?_
      exact g_iret X h dX5_oneOf_45 ⟨hone, by rw [if_pos (by rw [← hone]; exact c_31)]⟩
    · skip
      refine lv_aload_n hx hb dX5_oneOf_34 rfl (lv_at hl 1 rfl) ?_
      refine lv_dup hx hb dX5_oneOf_35 rfl ?_
      refine g_geti X h (k := 2) (cc_108) fr_RX5_28 rfl (by decide) dX5_oneOf_36 ?_
      refine lv_iconst (v := 1) hx hb dX5_oneOf_39 (by decide) ?_
      refine lv_iadd hx hb dX5_oneOf_40 ?_
      refine g_puti X h (k := 2) (cc_108) fp_RX5_28 rfl (by decide) dX5_oneOf_41 (fun v41 H locs ev41 h => ?_)
      refine lv_iload_n hx hb dX5_oneOf_44 rfl (lv_at hl 0 rfl) ?_
      exact g_iret X h dX5_oneOf_45 ⟨hone, by rw [if_neg (by rw [← hone]; exact c_31), ev41, ha, nI_1]⟩
