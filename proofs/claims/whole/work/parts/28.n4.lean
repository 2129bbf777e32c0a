/-! the class: a land's cells hold a land -/
def dT (t : Nat) : Int32 := if 3 ≤ t then nI ((t - 3) / 300) else if t = 0 then -1 else if t = 1 then -2 else -3
def wT (t : Nat) : Nat := if (t - 3) / 300 = 3 ∨ (t - 3) / 300 = 4 then 10 else 1
def loT (t : Nat) : Int32 := if (t - 3) / 100 % 3 = 0 then 0 else if (t - 3) / 100 % 3 = 1 then nI ((t - 3) % 100 * wT t) else nI ((t - 3) % 100 * wT t + wT t)
def hiT (t : Nat) : Int32 := if (t - 3) / 100 % 3 = 0 then nI ((t - 3) % 100 * wT t) - 1 else if (t - 3) / 100 % 3 = 1 then nI ((t - 3) % 100 * wT t + wT t) - 1 else 2147483647
def stR (v : VV) (lb s t : Nat) : Prop := v (lb + 3) s = dT t ∧ (3 ≤ t → v (lb + 4) s = loT t ∧ v (lb + 5) s = hiT t)
def DLs (L : LND) : List CLA := L.filter (fun c => decide (c.1 < 2))
def cumL (D : List CLA) : Nat → Nat
  | 0 => 0
  | i + 1 => cumL D i + (D.getD i dC).2.2.length
def wtC (c : CLA) : Int32 := if c.1 = 0 then nI c.2.1 else -nI c.2.1
def repC (v : VV) (lb : Nat) (L : LND) : Prop :=
  (v lb 0 = lastS 2 5 L ∧ v lb 1 = lastS 3 10 L ∧ v lb 2 = lastS 4 1 L) ∧ v lb 3 = nI (DLs L).length ∧ (∀ i, i ≤ (DLs L).length → cumL (DLs L) i ≤ 100) ∧
  ∀ i, i < (DLs L).length → v (lb + 1) i = wtC ((DLs L).getD i dC) ∧ v (lb + 2) i = nI (cumL (DLs L) (i + 1)) ∧ ∀ k, k < ((DLs L).getD i dC).2.2.length → stR v lb (cumL (DLs L) i + k) (((DLs L).getD i dC).2.2.getD k 0)
theorem repC_cong {v v' : VV} {lb : Nat} {L : LND} (h : ∀ i, lb ≤ i → i ≤ lb + 5 → v' i = v i) (hr : repC v lb L) : repC v' lb L := by
  unfold repC stR at hr ⊢
  rw [h lb (by omega) (by omega), h (lb + 1) (by omega) (by omega), h (lb + 2) (by omega) (by omega), h (lb + 3) (by omega) (by omega), h (lb + 4) (by omega) (by omega), h (lb + 5) (by omega) (by omega)]
  exact hr
/-- the doors' clauses of a land that is well -/
theorem DLs_wf {L : LND} (h : wfL L) : (DLs L).length ≤ 10 ∧ ∀ i, i < (DLs L).length → ((DLs L).getD i dC).1 < 2 ∧ ((DLs L).getD i dC).2.1 ≤ 99 ∧ wft ((DLs L).getD i dC).2.2 := by
  refine ⟨Nat.le_trans (List.length_filter_le _ _) h.1, fun i hi => ?_⟩
  have hm : (DLs L).getD i dC ∈ DLs L := by
    have e : (DLs L).getD i dC = (DLs L)[i] := by simp [List.getD, List.getElem?_eq_getElem hi]
    rw [e]; exact List.getElem_mem hi
  obtain ⟨h1, h2⟩ := List.mem_filter.mp hm
  have h2 : ((DLs L).getD i dC).1 < 2 := by simpa using h2
  obtain ⟨j, hj, ej⟩ := List.getElem_of_mem h1
  have e2 : L.getD j dC = (DLs L).getD i dC := by rw [← ej]; simp [List.getD, List.getElem?_eq_getElem hj]
  have := h.2 j hj
  rw [e2] at this
  exact ⟨h2, this.2.1, this.2.2 h2⟩
/-! the class's view of a world at b -/
def dB (D : Int32) (k : Nat) : Int32 := bI (bt D k)
def xC (v : VV) (b n : Nat) : VV := fun i k => match i with
  | 0 => (match k with
    | 0 => v (b + 1) 0
    | 1 => v b 1
    | 2 => v b 2
    | 3 => v b 3
    | 4 => v b 5
    | 5 => v b 7
    | 6 => v b 8
    | 7 => v b 9
    | _ => 0)
  | 1 => if k < n then v (b + 3) k else 0
  | 2 => if k < 6 then v (b + 4) k else 0
  | 3 => if k < 6 then v (b + 5) k else 0
  | 4 => if k < 6 then v (b + 6) k else 0
  | 5 => if k < 6 then dB (v (b + 1) 7) k else 0
  | 6 => if k < 24 then v (b + 7) k else 0
  | 7 => if k < 6 then v (b + 8) k else 0
  | _ => 0
section XC
variable {v : VV} {b n k : Nat}
theorem xC_kd (h : k < n) : xC v b n 1 k = v (b + 3) k := if_pos h
theorem xC_v (h : k < 6) : xC v b n 2 k = v (b + 4) k := if_pos h
theorem xC_th (h : k < 6) : xC v b n 3 k = v (b + 5) k := if_pos h
theorem xC_got (h : k < 6) : xC v b n 4 k = v (b + 6) k := if_pos h
theorem xC_dead (h : k < 6) : xC v b n 5 k = dB (v (b + 1) 7) k := if_pos h
theorem xC_row (h : k < 24) : xC v b n 6 k = v (b + 7) k := if_pos h
theorem xC_rnd (h : k < 6) : xC v b n 7 k = v (b + 8) k := if_pos h
end XC
theorem xC_cong {v v' : VV} {b n : Nat} (h0 : ∀ k, k ≠ 6 → v' b k = v b k) (h : ∀ i, b + 1 ≤ i → i ≤ b + 8 → i ≠ b + 2 → v' i = v i) : xC v' b n = xC v b n := by
  funext i k
  unfold xC
  rw [h (b + 1) (by omega) (by omega) (by omega), h (b + 3) (by omega) (by omega) (by omega), h (b + 4) (by omega) (by omega) (by omega), h (b + 5) (by omega) (by omega) (by omega), h (b + 6) (by omega) (by omega) (by omega), h (b + 7) (by omega) (by omega) (by omega), h (b + 8) (by omega) (by omega) (by omega), h0 1 (by omega), h0 2 (by omega), h0 3 (by omega), h0 5 (by omega), h0 7 (by omega), h0 8 (by omega), h0 9 (by omega)]
/-- a world of the class is well: n people, land j that is L -/
def CW (v : VV) (b n B j : Nat) (L : LND) : Prop := (v (b + 1) 0 = nI n ∧ n ≤ 6) ∧ wfL L ∧ (j < 7 ∧ v b 6 = nI j ∧ repC v (2 + 7 * j) L) ∧ (∀ p, p < 6 → v (b + 2) p = nI p) ∧ RX n B (xC v b n) ∧ B < 1000000
/-! a test by bounds -/
theorem bs_no {x : Int32} {i : Nat} {P : Nat → Bool} (h : ∀ p, p < 32 → bt x p = (decide (p < i) && P p)) (hf : P i = false) : ∀ p, p < 32 → bt x p = (decide (p < i + 1) && P p) := by
  intro p hp
  rw [h p hp]
  by_cases e : p = i
  · subst e; simp [hf]
  · rw [show decide (p < i + 1) = decide (p < i) by simp only [decide_eq_decide]; omega]
theorem bs_yes {x : Int32} {i : Nat} {P : Nat → Bool} (hi : i < 32) (h : ∀ p, p < 32 → bt x p = (decide (p < i) && P p)) (ht : P i = true) : ∀ p, p < 32 → bt (x ||| ((1 : Int32) <<< (nI i &&& 31))) p = (decide (p < i + 1) && P p) := by
  intro p hp
  rw [b_set hi hp, h p hp]
  by_cases e : p = i
  · subst e; simp [ht]
  · rw [show decide (p < i + 1) = decide (p < i) by simp only [decide_eq_decide]; omega, decide_eq_false e]
    simp
theorem bs_0 {P : Nat → Bool} : ∀ p, p < 32 → bt 0 p = (decide (p < 0) && P p) := by
  intro p _; rw [b_0]; simp
theorem b_63 : ∀ p, p < 6 → bt 63 p = true := by decide +kernel
theorem tlt {t : Nat} (h : t < 1803) : (t - 3) / 300 ≤ 5 := by omega
theorem nI_sub1 {a : Nat} (h : a < 10000) : (nI a - 1).toInt = (a : Int) - 1 := by
  have := nI_toInt (n := a) (by omega)
  rw [i_sub (by simp [this]; omega) (by simp [this]; omega), this]
  rfl
/-- a number a within the bounds of t, when its letter goes by a itself (f 1) or its tenth (f 10) -/
theorem tst_bd {t a : Nat} {q : Int32} (ht : t < 1803) (ha : a < 100000) (hq : q = nI (a / wT t)) : (decide (loT t ≤ nI a) && decide (nI a ≤ hiT t)) = (if (t - 3) / 100 % 3 = 0 then decide (q < nI ((t - 3) % 100)) else if (t - 3) / 100 % 3 = 1 then decide (q = nI ((t - 3) % 100)) else decide (nI ((t - 3) % 100) < q)) := by
  have hw : wT t = 1 ∨ wT t = 10 := by unfold wT; split <;> simp
  have hm : (t - 3) % 100 < 100 := Nat.mod_lt _ (by decide)
  have eA : (nI a).toInt = (a : Int) := nI_toInt (by omega)
  have hdv : a / wT t ≤ a := Nat.div_le_self _ _
  have eq : q.toInt = ((a / wT t : Nat) : Int) := by rw [hq, nI_toInt (by omega)]
  have em : (nI ((t - 3) % 100)).toInt = ((t - 3) % 100 : Nat) := nI_toInt (by omega)
  have hmul : (t - 3) % 100 * wT t < 1000 := by rcases hw with e | e <;> rw [e] <;> omega
  unfold loT hiT
  generalize (t - 3) % 100 = m at *
  split
  · have e1 := nI_sub1 (a := m * wT t) (by omega)
    have e0 : (0 : Int32).toInt = 0 := rfl
    rw [← Bool.decide_and, decide_eq_decide, i_le, i_le, i_lt, e1, eA, eq, em, e0]
    rcases hw with e | e <;> rw [e] <;> omega
  · split
    · have e1 := nI_sub1 (a := m * wT t + wT t) (by omega)
      have e2 := nI_toInt (n := m * wT t) (by omega)
      rw [← Bool.decide_and, decide_eq_decide, i_le, i_le, i_eq, e1, e2, eA, eq, em]
      rcases hw with e | e <;> rw [e] <;> omega
    · have e2 := nI_toInt (n := m * wT t + wT t) (by omega)
      have e3 : (2147483647 : Int32).toInt = 2147483647 := rfl
      rw [← Bool.decide_and, decide_eq_decide, i_le, i_le, i_lt, e2, e3, eA, eq, em]
      rcases hw with e | e <;> rw [e] <;> omega
theorem wT_1 {t : Nat} (h3 : ¬ (t - 3) / 300 = 3) (h4 : ¬ (t - 3) / 300 = 4) : wT t = 1 := by unfold wT; rw [if_neg (by omega)]
theorem wT_10 {t : Nat} (h : (t - 3) / 300 = 3 ∨ (t - 3) / 300 = 4) : wT t = 10 := if_pos h
theorem tstS_bd {X : VV} {p t a : Nat} {y : Int32} (ht : t < 1803) (ha : a < 100000) (hy : y = nI a) (hq : lettS X p ((t - 3) / 300) = nI (a / wT t)) : tstS X p (t - 3) = (decide (loT t ≤ y) && decide (y ≤ hiT t)) := by
  subst hy
  rw [tst_bd ht ha rfl, tstS, hq]
theorem RX_nat {x : Int32} {hi : Nat} (h : 0 ≤ x.toInt ∧ x.toInt ≤ hi) (hh : hi < 2000000000) : ∃ a : Nat, x = nI a ∧ a ≤ hi := by
  obtain ⟨k, e, hk, -⟩ := i_nat h.1
  exact ⟨k, e, by omega⟩
theorem nI_div {a d : Nat} (ha : a < 2 ^ 31) (hd : 0 < d) (hd2 : d < 2 ^ 31) : nI a / nI d = nI (a / d) := pk_div ha hd hd2
/-- by letter: what the class compares -/
theorem tstS_0 {X : VV} {p t : Nat} (ht : t < 1803) (hp : p < 6) (hl : (t - 3) / 300 = 0) : tstS X p (t - 3) = (decide (loT t ≤ nI p) && decide (nI p ≤ hiT t)) := tstS_bd (a := p) ht (by omega) rfl (by rw [wT_1 (by omega) (by omega), Nat.div_one, hl]; rfl)
theorem tstS_1 {X : VV} {n B p t : Nat} (ht : t < 1803) (hX : RX n B X) (hp : p < n) (hl : (t - 3) / 300 = 1) : tstS X p (t - 3) = (decide (loT t ≤ X 1 p) && decide (X 1 p ≤ hiT t)) := by
  obtain ⟨a, e, ha⟩ := RX_nat (hi := 6) (hX.1 p hp).1 (by decide)
  exact tstS_bd (a := a) ht (by omega) e (by rw [wT_1 (by omega) (by omega), Nat.div_one, hl]; exact e)
theorem tstS_2 {X : VV} {n B p t : Nat} (ht : t < 1803) (hX : RX n B X) (hp : p < n) (hl : (t - 3) / 300 = 2) : tstS X p (t - 3) = (decide (loT t ≤ X 2 p) && decide (X 2 p ≤ hiT t)) := by
  obtain ⟨a, e, ha⟩ := RX_nat (hi := 9) (hX.1 p hp).2.1 (by decide)
  exact tstS_bd (a := a) ht (by omega) e (by rw [wT_1 (by omega) (by omega), Nat.div_one, hl]; exact e)
theorem tstS_3 {X : VV} {n B p t : Nat} (ht : t < 1803) (hX : RX n B X) (hp : p < n) (hl : (t - 3) / 300 = 3) : tstS X p (t - 3) = (decide (loT t ≤ X 3 p) && decide (X 3 p ≤ hiT t)) := by
  obtain ⟨a, e, ha⟩ := RX_nat (hi := 999) (hX.1 p hp).2.2.1 (by decide)
  exact tstS_bd (a := a) ht (by omega) e (by rw [wT_10 (by omega), hl]; show X 3 p / 10 = _; rw [e]; exact nI_div (d := 10) (by omega) (by decide) (by decide))
theorem tstS_4 {X : VV} {n B p t : Nat} (ht : t < 1803) (hX : RX n B X) (hl : (t - 3) / 300 = 4) : tstS X p (t - 3) = (decide (loT t ≤ X 0 2) && decide (X 0 2 ≤ hiT t)) := by
  obtain ⟨a, e, ha⟩ := RX_nat (hi := 999) hX.2.2.1 (by decide)
  exact tstS_bd (a := a) ht (by omega) e (by rw [wT_10 (by omega), hl]; show X 0 2 / 10 = _; rw [e]; exact nI_div (d := 10) (by omega) (by decide) (by decide))
theorem tstS_5 {X : VV} {n B p t : Nat} (ht : t < 1803) (hX : RX n B X) (hB : B < 1000000) (hl : (t - 3) / 300 = 5) : tstS X p (t - 3) = (decide (loT t ≤ imod (X 0 3) 10) && decide (imod (X 0 3) 10 ≤ hiT t)) := by
  obtain ⟨a, e, ha⟩ := RX_nat (hi := B) hX.2.2.2.1 (by omega)
  have em : imod (X 0 3) 10 = nI (a % 10) := by rw [e]; exact pk_rem (d := 10) (by omega) (by decide) (by decide)
  exact tstS_bd (a := a % 10) ht (by omega) em (by rw [wT_1 (by omega) (by omega), Nat.div_one, hl]; exact em)
def PW (v : VV) (b n B : Nat) : Prop := (v (b + 1) 0 = nI n ∧ n ≤ 6) ∧ (∀ p, p < 6 → v (b + 2) p = nI p) ∧ RX n B (xC v b n) ∧ B < 1000000
theorem CW.pw {v : VV} {b n B j : Nat} {L : LND} (h : CW v b n B j L) : PW v b n B := ⟨h.1, h.2.2.2.1, h.2.2.2.2.1, h.2.2.2.2.2⟩
theorem isW_r {b : Nat} (h : isW b) : 51 ≤ b ∧ b ≤ 89 := by rcases h with rfl | rfl | rfl <;> decide
theorem isP_lt {n k : Nat} (h : k < n) (hn : n < 1000) : isP (nI n) (nI k) = true := isP_t.mpr ⟨by rw [i_le, nI_toInt (by omega)]; show (0 : Int) ≤ k; omega, nI_lt h (by omega)⟩
theorem in_no1 {lo y hi : Int32} (h : y < lo) : (decide (lo ≤ y) && decide (y ≤ hi)) = false := by rw [decide_eq_false (Int32.not_le.mpr h)]; rfl
theorem in_no2 {lo y hi : Int32} (h : hi < y) : (decide (lo ≤ y) && decide (y ≤ hi)) = false := by rw [decide_eq_false (Int32.not_le.mpr h), Bool.and_false]
theorem in_yes {lo y hi : Int32} (h1 : ¬ y < lo) (h2 : ¬ hi < y) : (decide (lo ≤ y) && decide (y ≤ hi)) = true := by rw [decide_eq_true (Int32.not_lt.mp h1), decide_eq_true (Int32.not_lt.mp h2)]; rfl
/-! the stack of sets -/
theorem bI_inj {a b : Bool} (h : bI a = bI b) : a = b := by revert h; cases a <;> cases b <;> decide
section BST
variable {n h t : Nat} {b : Nat → Nat → Bool} {s : Nat → Nat × (Nat → Bool)} {g : Nat → Int32} {x : Int32}
theorem bst_u {p k q : Nat} : upd (fun q => bI (bt (g q) p)) k (bI (bt x p)) q = bI (bt (upd g k x q) p) := by
  unfold upd
  split <;> rfl
theorem bst_push (hst : ∀ q, q < h → ∀ p, p < n → bt (g q) p = (s p).2 q) (hs : ∀ p, (s p).1 = h) (ht : 3 ≤ t) (hx : ∀ p, p < n → bt x p = b p (t - 3)) : ∀ q, q < hstep t h → ∀ p, p < n → bt (upd g h x q) p = (mstep (b p) t (s p)).2 q := by
  intro q hq p hp
  have k := st_push (h := h) (b := b p) (s := s p) (g := fun q => bI (bt (g q) p)) (x := bI (bt x p)) (fun j hj => congrArg bI (hst j hj p hp)) (hs p) ht (congrArg bI (hx p hp)) q hq
  rw [bst_u] at k
  exact bI_inj k
theorem bst_not (hst : ∀ q, q < h → ∀ p, p < n → bt (g q) p = (s p).2 q) (hs : ∀ p, (s p).1 = h) (ht : t = 2) (h1 : 1 ≤ h) (hn : n ≤ 6) (hx : x = g (h - 1) ^^^ 63) : ∀ q, q < hstep t h → ∀ p, p < n → bt (upd g (h - 1) x q) p = (mstep (b p) t (s p)).2 q := by
  intro q hq p hp
  have e : bt x p = !(s p).2 (h - 1) := by rw [hx, b_xor, b_63 p (by omega), hst (h - 1) (by omega) p hp]; simp
  have k := st_not (h := h) (b := b p) (s := s p) (g := fun q => bI (bt (g q) p)) (x := bI (bt x p)) (fun j hj => congrArg bI (hst j hj p hp)) (hs p) ht h1 (congrArg bI e) q hq
  rw [bst_u] at k
  exact bI_inj k
theorem bst_bin (hst : ∀ q, q < h → ∀ p, p < n → bt (g q) p = (s p).2 q) (hs : ∀ p, (s p).1 = h) (ht : t < 2) (h1 : 2 ≤ h) (hx : x = if t = 0 then g (h - 2) &&& g (h - 1) else g (h - 2) ||| g (h - 1)) : ∀ q, q < hstep t h → ∀ p, p < n → bt (upd g (h - 2) x q) p = (mstep (b p) t (s p)).2 q := by
  intro q hq p hp
  have e : bt x p = if t = 0 then (s p).2 (h - 2) && (s p).2 (h - 1) else (s p).2 (h - 2) || (s p).2 (h - 1) := by
    rw [hx, ← hst (h - 2) (by omega) p hp, ← hst (h - 1) (by omega) p hp]
    split
    · rw [b_and]
    · rw [b_or]
  have k := st_bin (h := h) (b := b p) (s := s p) (g := fun q => bI (bt (g q) p)) (x := bI (bt x p)) (fun j hj => congrArg bI (hst j hj p hp)) (hs p) ht h1 (congrArg bI e) q hq
  rw [bst_u] at k
  exact bI_inj k
end BST
theorem xC_stk {v va : VV} {b n j : Nat} {f : Nat → Int32} (hb : 51 ≤ b) (hj : j < 7) (e : va = upc v (2 + 7 * j + 6) f) : xC va b n = xC v b n := by
  subst e
  exact xC_cong (fun k _ => by rw [upc_ne (by omega)]) (fun i _ _ _ => upc_ne (by omega))
theorem CW_stk {v va : VV} {b n B j q : Nat} {L : LND} {f : Nat → Int32} (hb : 51 ≤ b) (hq : q < 7) (e : va = upc v (2 + 7 * q + 6) f) (h : CW v b n B j L) : CW va b n B j L := by
  obtain ⟨⟨h1, h2⟩, h3, ⟨h4, h5, h6⟩, h7, h8, h9⟩ := h
  have e2 : ∀ i, i ≠ 2 + 7 * q + 6 → va i = v i := fun i hi => by rw [e, upc_ne hi]
  exact ⟨⟨by rw [e2 _ (by omega)]; exact h1, h2⟩, h3, ⟨h4, by rw [e2 _ (by omega)]; exact h5, repC_cong (fun i _ _ => e2 i (by omega)) h6⟩, (fun p hp => by rw [e2 _ (by omega)]; exact h7 p hp), by rw [xC_stk hb hq e]; exact h8, h9⟩
theorem dT_lt {t : Nat} (ht : t < 1803) (h : dT t < 0) : ¬ 3 ≤ t := by
  intro h3
  rw [dT, if_pos h3] at h
  exact absurd h (nI_pos (by omega))
theorem dT_ge {t : Nat} (h : ¬ dT t < 0) : 3 ≤ t := by
  rcases Nat.lt_or_ge t 3 with q | q
  · rcases (show t = 0 ∨ t = 1 ∨ t = 2 by omega) with rfl | rfl | rfl <;> exact absurd (by decide) h
  · exact q
theorem dT_2 {t : Nat} (h3 : ¬ 3 ≤ t) : dT t = -3 ↔ t = 2 := by
  rcases (show t = 0 ∨ t = 1 ∨ t = 2 by omega) with rfl | rfl | rfl <;> decide
theorem dT_0 {t : Nat} (h3 : ¬ 3 ≤ t) : dT t = -1 ↔ t = 0 := by
  rcases (show t = 0 ∨ t = 1 ∨ t = 2 by omega) with rfl | rfl | rfl <;> decide
set_option maxRecDepth 100000 in
set_option maxHeartbeats 1000000 in
theorem c_X1_passTest (gl : Launch) (Z : PL) (v : VV) (w : WV) (x0 : Int32) (s : Nat) (hs : x0 = nI s) (x1 : Int32) (x2 : Int32) (lb : Nat) (hL : isL lb) (b : Nat) (hW : isW b) (n : Nat) (B : Nat) (t : Nat) (hcw : PW v b n B) (hs1 : s < 100) (hstr : stR v lb s t) (ht3 : 3 ≤ t) (ht : t < 1803) (h2 : x1 = v b 2) (h3 : x2 = v b 3) : CT gl yX1_passTest cX1_passTest 10 (some .int) 0 0 Z [.ref (zg Z lb), .int x0, .ref (zg Z (b + 1)), .int x1, .int x2] v w (Qi Z (fun r u => (∀ p, p < n → bt r p = tstS (xC v b n) p (t - 3)) ∧ (v, w) = u)) := by
  refine g_met (by decide) (Nat.le_of_ble_eq_true rfl) ?_
  intro gp ge gs gm ga gb gh gc X h ls hl
  have hx := X.1
  have hb := X.2.1
  have hl : lv_has ls 10 [(0, .ref (zg Z lb)), (1, .int x0), (2, .ref (zg Z (b + 1))), (3, .int x1), (4, .int x2)] := hl
  obtain ⟨⟨hn, h6⟩, hnum, hrx, hB⟩ := id hcw
  obtain ⟨hd0, hd12⟩ := id hstr
  obtain ⟨hlo, hhi⟩ := hd12 ht3
  have hd1 : v (lb + 3) s = nI ((t - 3) / 300) := by rw [hd0, dT, if_pos ht3]
  have h5 := tlt ht
  refine lv_aload_n hx hb dX1_passTest_0 rfl (lv_at hl 0 rfl) ?_
  refine g_getr X h (k := 7) (t := (lb + 4)) (cL_0 hL) fr_RX1_21 rfl (by decide) (by decide) (by decide) dX1_passTest_1 ?_
  refine lv_iload_n hx hb dX1_passTest_4 rfl (lv_at hl 1 rfl) ?_
  refine g_iald X h (k := s) (cL_4 hL) hs (by omega) (by decide) dX1_passTest_5 ?_
  refine lv_topi (fun x5_6 ex5_6 => ?_)
  refine lv_istore (lv' := [(5, .int x5_6), (0, .ref (zg Z lb)), (1, .int x0), (2, .ref (zg Z (b + 1))), (3, .int x1), (4, .int x2)]) hx hb dX1_passTest_6 hl (by decide) rfl (fun ls hl => ?_)
  refine lv_aload_n hx hb dX1_passTest_8 rfl (lv_at hl 1 rfl) ?_
  refine g_getr X h (k := 8) (t := (lb + 5)) (cL_0 hL) fr_RX1_24 rfl (by decide) (by decide) (by decide) dX1_passTest_9 ?_
  refine lv_iload_n hx hb dX1_passTest_12 rfl (lv_at hl 2 rfl) ?_
  refine g_iald X h (k := s) (cL_5 hL) hs (by omega) (by decide) dX1_passTest_13 ?_
  refine lv_topi (fun x6_14 ex6_14 => ?_)
  refine lv_istore (lv' := [(6, .int x6_14), (5, .int x5_6), (0, .ref (zg Z lb)), (1, .int x0), (2, .ref (zg Z (b + 1))), (3, .int x1), (4, .int x2)]) hx hb dX1_passTest_14 hl (by decide) rfl (fun ls hl => ?_)
  refine lv_aload_n hx hb dX1_passTest_16 rfl (lv_at hl 2 rfl) ?_
  refine g_getr X h (k := 6) (t := (lb + 3)) (cL_0 hL) fr_RX1_18 rfl (by decide) (by decide) (by decide) dX1_passTest_17 ?_
  refine lv_iload_n hx hb dX1_passTest_20 rfl (lv_at hl 3 rfl) ?_
  refine g_iald X h (k := s) (cL_3 hL) hs (by omega) (by decide) dX1_passTest_21 ?_
  by_cases t22_0 : (v (lb + 3) s) = 0
  · refine lv_tableIn (off := 34) (tgt := 56) hx hb dX1_passTest_22 (by rw [t22_0]; decide) (by rw [t22_0]; decide) (by rw [t22_0]; rfl) (by decide) ?_
    have hlt : (t - 3) / 300 = 0 := nI_eq1 (b := 0) hd1 rfl (by omega) (by omega) t22_0
    have hP : ∀ p, p < n → tstS (xC v b n) p (t - 3) = (decide (x5_6 ≤ v (b + 2) p) && decide (v (b + 2) p ≤ x6_14)) := fun p hp => by rw [ex5_6, ex6_14, hlo, hhi]; exact (by rw [hnum p (by omega)]; exact tstS_0 ht (by omega) hlt)
    refine lv_aload_n hx hb dX1_passTest_56 rfl (lv_at hl 4 rfl) ?_
    refine g_getr X h (k := 1) (t := (b + 2)) (cW_1 hW) fr_RX1_60 rfl (by decide) (by decide) (by decide) dX1_passTest_57 ?_
    refine lv_astore (lv' := [(7, .ref (zg Z (b + 2))), (6, .int x6_14), (5, .int x5_6), (0, .ref (zg Z lb)), (1, .int x0), (2, .ref (zg Z (b + 1))), (3, .int x1), (4, .int x2)]) hx hb dX1_passTest_60 hl (by decide) rfl (fun ls hl => ?_)
    refine lv_goto (tgt := 138) hx hb dX1_passTest_62 (by decide) ?_
    refine lv_iconst (v := 0) hx hb dX1_passTest_138 (by decide) ?_
    refine lv_istore (lv' := [(8, .int 0), (7, .ref (zg Z (b + 2))), (6, .int x6_14), (5, .int x5_6), (0, .ref (zg Z lb)), (1, .int x0), (2, .ref (zg Z (b + 1))), (3, .int x1), (4, .int x2)]) hx hb dX1_passTest_139 hl (by decide) rfl (fun ls hl => ?_)
    refine lv_iconst (v := 0) hx hb dX1_passTest_141 (by decide) ?_
    refine lv_istore (lv' := [(9, .int 0), (8, .int 0), (7, .ref (zg Z (b + 2))), (6, .int x6_14), (5, .int x5_6), (0, .ref (zg Z lb)), (1, .int x0), (2, .ref (zg Z (b + 1))), (3, .int x1), (4, .int x2)]) hx hb dX1_passTest_142 hl (by decide) rfl (fun ls hl => ?_)
    have L144 : ∀ (n144 : Nat) (i : Nat) (x8 x9 : Int32), (x9 = nI i) → (i ≤ n) → (∀ p, p < 32 → bt x8 p = (decide (p < i) && tstS (xC v b n) p (t - 3))) → n - i < n144 → ∀ (H : Heap) (locs : List Loc), HS Z gs v w H locs → ∀ ls : Array Slot, lv_has ls 10 [(0, .ref (zg Z lb)), (1, .int x0), (2, .ref (zg Z (b + 1))), (3, .int x1), (4, .int x2), (5, .int x5_6), (6, .int x6_14), (7, .ref (zg Z (b + 2))), (8, .int x8), (9, .int x9)] → W gp gl ge (rmm 0 0) gs gm ga gb gh gc H locs 0 0 (MQ gb (Qi Z (fun r u => (∀ p, p < n → bt r p = tstS (xC v b n) p (t - 3)) ∧ (v, w) = u)) ga gs 0 0 (zA Z)) (F0 gm 144 ls []) := by
      intro n144
      induction n144 with
      | zero => intro i x8 x9 hx9 hi hbt hmu; exact absurd hmu (Nat.not_lt_zero _)
      | succ n144 ih144 =>
        intro i x8 x9 hx9 hi hbt hmu144 H locs h ls hl
        refine lv_iload hx hb dX1_passTest_144 (lv_at hl 9 rfl) ?_
        refine lv_aload_n hx hb dX1_passTest_146 rfl (lv_at hl 2 rfl) ?_
        refine g_geti X h (k := 0) (cW_1 hW) fr_RX1_74 rfl (by decide) dX1_passTest_147 ?_
        refine lv_icmp_ge (tgt := 188) hx hb dX1_passTest_150 (by decide) (fun c_150 => ?_) (fun c_150 => ?_)
        · skip
          have hin := nI_le1 (a := n) (b := i) hn hx9 (by omega) (by omega) c_150
          refine lv_iload hx hb dX1_passTest_188 (lv_at hl 8 rfl) ?_
          exact g_iret X h dX1_passTest_190 ⟨fun p hp => by rw [hbt p (by omega), decide_eq_true (by omega), Bool.true_and], rfl⟩
        · skip
          have hin := nI_le0 (a := n) (b := i) hn hx9 (by omega) (by omega) c_150
          refine lv_aload hx hb dX1_passTest_153 (lv_at hl 7 rfl) ?_
          refine lv_iload hx hb dX1_passTest_155 (lv_at hl 9 rfl) ?_
          refine g_iald X h (k := i) (cW_2 hW) hx9 (by omega) (by decide) dX1_passTest_157 ?_
          refine lv_iload hx hb dX1_passTest_158 (lv_at hl 5 rfl) ?_
          refine lv_icmp_lt (tgt := 182) hx hb dX1_passTest_160 (by decide) (fun c_160 => ?_) (fun c_160 => ?_)
          · skip
            refine lv_iinc (v := (x9 + 1)) (lv' := [(9, .int (x9 + 1)), (0, .ref (zg Z lb)), (1, .int x0), (2, .ref (zg Z (b + 1))), (3, .int x1), (4, .int x2), (5, .int x5_6), (6, .int x6_14), (7, .ref (zg Z (b + 2))), (8, .int x8)]) hx hb dX1_passTest_182 hl (k := 9) rfl rfl (by decide) rfl (fun ls hl => ?_)
            refine lv_goto (tgt := 144) hx hb dX1_passTest_185 (by decide) ?_
            exact ih144 (i + 1) x8 (x9 + 1) (by rw [hx9]; exact nI_1 _) (by omega) (bs_no hbt (by rw [hP i hin]; exact in_no1 c_160)) (by omega) _ _ h ls (lv_sub hl [1, 2, 3, 4, 5, 6, 7, 8, 9, 0] rfl)
          · skip
            refine lv_aload hx hb dX1_passTest_163 (lv_at hl 7 rfl) ?_
            refine lv_iload hx hb dX1_passTest_165 (lv_at hl 9 rfl) ?_
            refine g_iald X h (k := i) (cW_2 hW) hx9 (by omega) (by decide) dX1_passTest_167 ?_
            refine lv_iload hx hb dX1_passTest_168 (lv_at hl 6 rfl) ?_
            refine lv_icmp_gt (tgt := 182) hx hb dX1_passTest_170 (by decide) (fun c_170 => ?_) (fun c_170 => ?_)
            · skip
              refine lv_iinc (v := (x9 + 1)) (lv' := [(9, .int (x9 + 1)), (0, .ref (zg Z lb)), (1, .int x0), (2, .ref (zg Z (b + 1))), (3, .int x1), (4, .int x2), (5, .int x5_6), (6, .int x6_14), (7, .ref (zg Z (b + 2))), (8, .int x8)]) hx hb dX1_passTest_182 hl (k := 9) rfl rfl (by decide) rfl (fun ls hl => ?_)
              refine lv_goto (tgt := 144) hx hb dX1_passTest_185 (by decide) ?_
              exact ih144 (i + 1) x8 (x9 + 1) (by rw [hx9]; exact nI_1 _) (by omega) (bs_no hbt (by rw [hP i hin]; exact in_no2 c_170)) (by omega) _ _ h ls (lv_sub hl [1, 2, 3, 4, 5, 6, 7, 8, 9, 0] rfl)
            · skip
              refine lv_iload hx hb dX1_passTest_173 (lv_at hl 8 rfl) ?_
              refine lv_iconst (v := 1) hx hb dX1_passTest_175 (by decide) ?_
              refine lv_iload hx hb dX1_passTest_176 (lv_at hl 9 rfl) ?_
              refine lv_ishl hx hb dX1_passTest_178 ?_
              refine lv_ior hx hb dX1_passTest_179 ?_
              refine lv_topi (fun x8_180 ex8_180 => ?_)
              refine lv_istore (lv' := [(8, .int x8_180), (0, .ref (zg Z lb)), (1, .int x0), (2, .ref (zg Z (b + 1))), (3, .int x1), (4, .int x2), (5, .int x5_6), (6, .int x6_14), (7, .ref (zg Z (b + 2))), (9, .int x9)]) hx hb dX1_passTest_180 hl (by decide) rfl (fun ls hl => ?_)
              refine lv_iinc (v := (x9 + 1)) (lv' := [(9, .int (x9 + 1)), (8, .int x8_180), (0, .ref (zg Z lb)), (1, .int x0), (2, .ref (zg Z (b + 1))), (3, .int x1), (4, .int x2), (5, .int x5_6), (6, .int x6_14), (7, .ref (zg Z (b + 2)))]) hx hb dX1_passTest_182 hl (k := 9) rfl rfl (by decide) rfl (fun ls hl => ?_)
              refine lv_goto (tgt := 144) hx hb dX1_passTest_185 (by decide) ?_
              exact ih144 (i + 1) x8_180 (x9 + 1) (by rw [hx9]; exact nI_1 _) (by omega) (by rw [ex8_180, hx9]; exact bs_yes (by omega) hbt (by rw [hP i hin]; exact in_yes c_160 c_170)) (by omega) _ _ h ls (lv_sub hl [2, 3, 4, 5, 6, 7, 8, 9, 1, 0] rfl)
    exact L144 (n - 0 + 1) 0 0 0 rfl (Nat.zero_le _) bs_0 (Nat.lt_succ_self _) _ _ h ls (lv_sub hl [5, 6, 7, 8, 9, 4, 3, 2, 1, 0] rfl)
  · skip
    by_cases t22_1 : (v (lb + 3) s) = 1
    · refine lv_tableIn (off := 43) (tgt := 65) hx hb dX1_passTest_22 (by rw [t22_1]; decide) (by rw [t22_1]; decide) (by rw [t22_1]; rfl) (by decide) ?_
      have hlt : (t - 3) / 300 = 1 := nI_eq1 (b := 1) hd1 rfl (by omega) (by omega) t22_1
      have hP : ∀ p, p < n → tstS (xC v b n) p (t - 3) = (decide (x5_6 ≤ v (b + 3) p) && decide (v (b + 3) p ≤ x6_14)) := fun p hp => by rw [ex5_6, ex6_14, hlo, hhi]; exact (by have z := tstS_1 ht hrx hp hlt; rw [xC_kd hp] at z; exact z)
      refine lv_aload_n hx hb dX1_passTest_65 rfl (lv_at hl 4 rfl) ?_
      refine g_getr X h (k := 2) (t := (b + 3)) (cW_1 hW) fr_RX1_65 rfl (by decide) (by decide) (by decide) dX1_passTest_66 ?_
      refine lv_astore (lv' := [(7, .ref (zg Z (b + 3))), (6, .int x6_14), (5, .int x5_6), (0, .ref (zg Z lb)), (1, .int x0), (2, .ref (zg Z (b + 1))), (3, .int x1), (4, .int x2)]) hx hb dX1_passTest_69 hl (by decide) rfl (fun ls hl => ?_)
      refine lv_goto (tgt := 138) hx hb dX1_passTest_71 (by decide) ?_
      refine lv_iconst (v := 0) hx hb dX1_passTest_138 (by decide) ?_
      refine lv_istore (lv' := [(8, .int 0), (7, .ref (zg Z (b + 3))), (6, .int x6_14), (5, .int x5_6), (0, .ref (zg Z lb)), (1, .int x0), (2, .ref (zg Z (b + 1))), (3, .int x1), (4, .int x2)]) hx hb dX1_passTest_139 hl (by decide) rfl (fun ls hl => ?_)
      refine lv_iconst (v := 0) hx hb dX1_passTest_141 (by decide) ?_
      refine lv_istore (lv' := [(9, .int 0), (8, .int 0), (7, .ref (zg Z (b + 3))), (6, .int x6_14), (5, .int x5_6), (0, .ref (zg Z lb)), (1, .int x0), (2, .ref (zg Z (b + 1))), (3, .int x1), (4, .int x2)]) hx hb dX1_passTest_142 hl (by decide) rfl (fun ls hl => ?_)
      have L144 : ∀ (n144 : Nat) (i : Nat) (x8 x9 : Int32), (x9 = nI i) → (i ≤ n) → (∀ p, p < 32 → bt x8 p = (decide (p < i) && tstS (xC v b n) p (t - 3))) → n - i < n144 → ∀ (H : Heap) (locs : List Loc), HS Z gs v w H locs → ∀ ls : Array Slot, lv_has ls 10 [(0, .ref (zg Z lb)), (1, .int x0), (2, .ref (zg Z (b + 1))), (3, .int x1), (4, .int x2), (5, .int x5_6), (6, .int x6_14), (7, .ref (zg Z (b + 3))), (8, .int x8), (9, .int x9)] → W gp gl ge (rmm 0 0) gs gm ga gb gh gc H locs 0 0 (MQ gb (Qi Z (fun r u => (∀ p, p < n → bt r p = tstS (xC v b n) p (t - 3)) ∧ (v, w) = u)) ga gs 0 0 (zA Z)) (F0 gm 144 ls []) := by
        intro n144
        induction n144 with
        | zero => intro i x8 x9 hx9 hi hbt hmu; exact absurd hmu (Nat.not_lt_zero _)
        | succ n144 ih144 =>
          intro i x8 x9 hx9 hi hbt hmu144 H locs h ls hl
          refine lv_iload hx hb dX1_passTest_144 (lv_at hl 9 rfl) ?_
          refine lv_aload_n hx hb dX1_passTest_146 rfl (lv_at hl 2 rfl) ?_
          refine g_geti X h (k := 0) (cW_1 hW) fr_RX1_74 rfl (by decide) dX1_passTest_147 ?_
          refine lv_icmp_ge (tgt := 188) hx hb dX1_passTest_150 (by decide) (fun c_150 => ?_) (fun c_150 => ?_)
          · skip
            have hin := nI_le1 (a := n) (b := i) hn hx9 (by omega) (by omega) c_150
            refine lv_iload hx hb dX1_passTest_188 (lv_at hl 8 rfl) ?_
            exact g_iret X h dX1_passTest_190 ⟨fun p hp => by rw [hbt p (by omega), decide_eq_true (by omega), Bool.true_and], rfl⟩
          · skip
            have hin := nI_le0 (a := n) (b := i) hn hx9 (by omega) (by omega) c_150
            refine lv_aload hx hb dX1_passTest_153 (lv_at hl 7 rfl) ?_
            refine lv_iload hx hb dX1_passTest_155 (lv_at hl 9 rfl) ?_
            refine g_iald X h (k := i) (cW_3 hW) hx9 (by omega) (by decide) dX1_passTest_157 ?_
            refine lv_iload hx hb dX1_passTest_158 (lv_at hl 5 rfl) ?_
            refine lv_icmp_lt (tgt := 182) hx hb dX1_passTest_160 (by decide) (fun c_160 => ?_) (fun c_160 => ?_)
            · skip
              refine lv_iinc (v := (x9 + 1)) (lv' := [(9, .int (x9 + 1)), (0, .ref (zg Z lb)), (1, .int x0), (2, .ref (zg Z (b + 1))), (3, .int x1), (4, .int x2), (5, .int x5_6), (6, .int x6_14), (7, .ref (zg Z (b + 3))), (8, .int x8)]) hx hb dX1_passTest_182 hl (k := 9) rfl rfl (by decide) rfl (fun ls hl => ?_)
              refine lv_goto (tgt := 144) hx hb dX1_passTest_185 (by decide) ?_
              exact ih144 (i + 1) x8 (x9 + 1) (by rw [hx9]; exact nI_1 _) (by omega) (bs_no hbt (by rw [hP i hin]; exact in_no1 c_160)) (by omega) _ _ h ls (lv_sub hl [1, 2, 3, 4, 5, 6, 7, 8, 9, 0] rfl)
            · skip
              refine lv_aload hx hb dX1_passTest_163 (lv_at hl 7 rfl) ?_
              refine lv_iload hx hb dX1_passTest_165 (lv_at hl 9 rfl) ?_
              refine g_iald X h (k := i) (cW_3 hW) hx9 (by omega) (by decide) dX1_passTest_167 ?_
              refine lv_iload hx hb dX1_passTest_168 (lv_at hl 6 rfl) ?_
              refine lv_icmp_gt (tgt := 182) hx hb dX1_passTest_170 (by decide) (fun c_170 => ?_) (fun c_170 => ?_)
              · skip
                refine lv_iinc (v := (x9 + 1)) (lv' := [(9, .int (x9 + 1)), (0, .ref (zg Z lb)), (1, .int x0), (2, .ref (zg Z (b + 1))), (3, .int x1), (4, .int x2), (5, .int x5_6), (6, .int x6_14), (7, .ref (zg Z (b + 3))), (8, .int x8)]) hx hb dX1_passTest_182 hl (k := 9) rfl rfl (by decide) rfl (fun ls hl => ?_)
                refine lv_goto (tgt := 144) hx hb dX1_passTest_185 (by decide) ?_
                exact ih144 (i + 1) x8 (x9 + 1) (by rw [hx9]; exact nI_1 _) (by omega) (bs_no hbt (by rw [hP i hin]; exact in_no2 c_170)) (by omega) _ _ h ls (lv_sub hl [1, 2, 3, 4, 5, 6, 7, 8, 9, 0] rfl)
              · skip
                refine lv_iload hx hb dX1_passTest_173 (lv_at hl 8 rfl) ?_
                refine lv_iconst (v := 1) hx hb dX1_passTest_175 (by decide) ?_
                refine lv_iload hx hb dX1_passTest_176 (lv_at hl 9 rfl) ?_
                refine lv_ishl hx hb dX1_passTest_178 ?_
                refine lv_ior hx hb dX1_passTest_179 ?_
                refine lv_topi (fun x8_180 ex8_180 => ?_)
                refine lv_istore (lv' := [(8, .int x8_180), (0, .ref (zg Z lb)), (1, .int x0), (2, .ref (zg Z (b + 1))), (3, .int x1), (4, .int x2), (5, .int x5_6), (6, .int x6_14), (7, .ref (zg Z (b + 3))), (9, .int x9)]) hx hb dX1_passTest_180 hl (by decide) rfl (fun ls hl => ?_)
                refine lv_iinc (v := (x9 + 1)) (lv' := [(9, .int (x9 + 1)), (8, .int x8_180), (0, .ref (zg Z lb)), (1, .int x0), (2, .ref (zg Z (b + 1))), (3, .int x1), (4, .int x2), (5, .int x5_6), (6, .int x6_14), (7, .ref (zg Z (b + 3)))]) hx hb dX1_passTest_182 hl (k := 9) rfl rfl (by decide) rfl (fun ls hl => ?_)
                refine lv_goto (tgt := 144) hx hb dX1_passTest_185 (by decide) ?_
                exact ih144 (i + 1) x8_180 (x9 + 1) (by rw [hx9]; exact nI_1 _) (by omega) (by rw [ex8_180, hx9]; exact bs_yes (by omega) hbt (by rw [hP i hin]; exact in_yes c_160 c_170)) (by omega) _ _ h ls (lv_sub hl [2, 3, 4, 5, 6, 7, 8, 9, 1, 0] rfl)
      exact L144 (n - 0 + 1) 0 0 0 rfl (Nat.zero_le _) bs_0 (Nat.lt_succ_self _) _ _ h ls (lv_sub hl [5, 6, 7, 8, 9, 4, 3, 2, 1, 0] rfl)
    · skip
      by_cases t22_2 : (v (lb + 3) s) = 2
      · refine lv_tableIn (off := 52) (tgt := 74) hx hb dX1_passTest_22 (by rw [t22_2]; decide) (by rw [t22_2]; decide) (by rw [t22_2]; rfl) (by decide) ?_
        have hlt : (t - 3) / 300 = 2 := nI_eq1 (b := 2) hd1 rfl (by omega) (by omega) t22_2
        have hP : ∀ p, p < n → tstS (xC v b n) p (t - 3) = (decide (x5_6 ≤ v (b + 4) p) && decide (v (b + 4) p ≤ x6_14)) := fun p hp => by rw [ex5_6, ex6_14, hlo, hhi]; exact (by have z := tstS_2 ht hrx hp hlt; rw [xC_v (by omega)] at z; exact z)
        refine lv_aload_n hx hb dX1_passTest_74 rfl (lv_at hl 4 rfl) ?_
        refine g_getr X h (k := 3) (t := (b + 4)) (cW_1 hW) fr_RX1_68 rfl (by decide) (by decide) (by decide) dX1_passTest_75 ?_
        refine lv_astore (lv' := [(7, .ref (zg Z (b + 4))), (6, .int x6_14), (5, .int x5_6), (0, .ref (zg Z lb)), (1, .int x0), (2, .ref (zg Z (b + 1))), (3, .int x1), (4, .int x2)]) hx hb dX1_passTest_78 hl (by decide) rfl (fun ls hl => ?_)
        refine lv_goto (tgt := 138) hx hb dX1_passTest_80 (by decide) ?_
        refine lv_iconst (v := 0) hx hb dX1_passTest_138 (by decide) ?_
        refine lv_istore (lv' := [(8, .int 0), (7, .ref (zg Z (b + 4))), (6, .int x6_14), (5, .int x5_6), (0, .ref (zg Z lb)), (1, .int x0), (2, .ref (zg Z (b + 1))), (3, .int x1), (4, .int x2)]) hx hb dX1_passTest_139 hl (by decide) rfl (fun ls hl => ?_)
        refine lv_iconst (v := 0) hx hb dX1_passTest_141 (by decide) ?_
        refine lv_istore (lv' := [(9, .int 0), (8, .int 0), (7, .ref (zg Z (b + 4))), (6, .int x6_14), (5, .int x5_6), (0, .ref (zg Z lb)), (1, .int x0), (2, .ref (zg Z (b + 1))), (3, .int x1), (4, .int x2)]) hx hb dX1_passTest_142 hl (by decide) rfl (fun ls hl => ?_)
        have L144 : ∀ (n144 : Nat) (i : Nat) (x8 x9 : Int32), (x9 = nI i) → (i ≤ n) → (∀ p, p < 32 → bt x8 p = (decide (p < i) && tstS (xC v b n) p (t - 3))) → n - i < n144 → ∀ (H : Heap) (locs : List Loc), HS Z gs v w H locs → ∀ ls : Array Slot, lv_has ls 10 [(0, .ref (zg Z lb)), (1, .int x0), (2, .ref (zg Z (b + 1))), (3, .int x1), (4, .int x2), (5, .int x5_6), (6, .int x6_14), (7, .ref (zg Z (b + 4))), (8, .int x8), (9, .int x9)] → W gp gl ge (rmm 0 0) gs gm ga gb gh gc H locs 0 0 (MQ gb (Qi Z (fun r u => (∀ p, p < n → bt r p = tstS (xC v b n) p (t - 3)) ∧ (v, w) = u)) ga gs 0 0 (zA Z)) (F0 gm 144 ls []) := by
          intro n144
          induction n144 with
          | zero => intro i x8 x9 hx9 hi hbt hmu; exact absurd hmu (Nat.not_lt_zero _)
          | succ n144 ih144 =>
            intro i x8 x9 hx9 hi hbt hmu144 H locs h ls hl
            refine lv_iload hx hb dX1_passTest_144 (lv_at hl 9 rfl) ?_
            refine lv_aload_n hx hb dX1_passTest_146 rfl (lv_at hl 2 rfl) ?_
            refine g_geti X h (k := 0) (cW_1 hW) fr_RX1_74 rfl (by decide) dX1_passTest_147 ?_
            refine lv_icmp_ge (tgt := 188) hx hb dX1_passTest_150 (by decide) (fun c_150 => ?_) (fun c_150 => ?_)
            · skip
              have hin := nI_le1 (a := n) (b := i) hn hx9 (by omega) (by omega) c_150
              refine lv_iload hx hb dX1_passTest_188 (lv_at hl 8 rfl) ?_
              exact g_iret X h dX1_passTest_190 ⟨fun p hp => by rw [hbt p (by omega), decide_eq_true (by omega), Bool.true_and], rfl⟩
            · skip
              have hin := nI_le0 (a := n) (b := i) hn hx9 (by omega) (by omega) c_150
              refine lv_aload hx hb dX1_passTest_153 (lv_at hl 7 rfl) ?_
              refine lv_iload hx hb dX1_passTest_155 (lv_at hl 9 rfl) ?_
              refine g_iald X h (k := i) (cW_4 hW) hx9 (by omega) (by decide) dX1_passTest_157 ?_
              refine lv_iload hx hb dX1_passTest_158 (lv_at hl 5 rfl) ?_
              refine lv_icmp_lt (tgt := 182) hx hb dX1_passTest_160 (by decide) (fun c_160 => ?_) (fun c_160 => ?_)
              · skip
                refine lv_iinc (v := (x9 + 1)) (lv' := [(9, .int (x9 + 1)), (0, .ref (zg Z lb)), (1, .int x0), (2, .ref (zg Z (b + 1))), (3, .int x1), (4, .int x2), (5, .int x5_6), (6, .int x6_14), (7, .ref (zg Z (b + 4))), (8, .int x8)]) hx hb dX1_passTest_182 hl (k := 9) rfl rfl (by decide) rfl (fun ls hl => ?_)
                refine lv_goto (tgt := 144) hx hb dX1_passTest_185 (by decide) ?_
                exact ih144 (i + 1) x8 (x9 + 1) (by rw [hx9]; exact nI_1 _) (by omega) (bs_no hbt (by rw [hP i hin]; exact in_no1 c_160)) (by omega) _ _ h ls (lv_sub hl [1, 2, 3, 4, 5, 6, 7, 8, 9, 0] rfl)
              · skip
                refine lv_aload hx hb dX1_passTest_163 (lv_at hl 7 rfl) ?_
                refine lv_iload hx hb dX1_passTest_165 (lv_at hl 9 rfl) ?_
                refine g_iald X h (k := i) (cW_4 hW) hx9 (by omega) (by decide) dX1_passTest_167 ?_
                refine lv_iload hx hb dX1_passTest_168 (lv_at hl 6 rfl) ?_
                refine lv_icmp_gt (tgt := 182) hx hb dX1_passTest_170 (by decide) (fun c_170 => ?_) (fun c_170 => ?_)
                · skip
                  refine lv_iinc (v := (x9 + 1)) (lv' := [(9, .int (x9 + 1)), (0, .ref (zg Z lb)), (1, .int x0), (2, .ref (zg Z (b + 1))), (3, .int x1), (4, .int x2), (5, .int x5_6), (6, .int x6_14), (7, .ref (zg Z (b + 4))), (8, .int x8)]) hx hb dX1_passTest_182 hl (k := 9) rfl rfl (by decide) rfl (fun ls hl => ?_)
                  refine lv_goto (tgt := 144) hx hb dX1_passTest_185 (by decide) ?_
                  exact ih144 (i + 1) x8 (x9 + 1) (by rw [hx9]; exact nI_1 _) (by omega) (bs_no hbt (by rw [hP i hin]; exact in_no2 c_170)) (by omega) _ _ h ls (lv_sub hl [1, 2, 3, 4, 5, 6, 7, 8, 9, 0] rfl)
                · skip
                  refine lv_iload hx hb dX1_passTest_173 (lv_at hl 8 rfl) ?_
                  refine lv_iconst (v := 1) hx hb dX1_passTest_175 (by decide) ?_
                  refine lv_iload hx hb dX1_passTest_176 (lv_at hl 9 rfl) ?_
                  refine lv_ishl hx hb dX1_passTest_178 ?_
                  refine lv_ior hx hb dX1_passTest_179 ?_
                  refine lv_topi (fun x8_180 ex8_180 => ?_)
                  refine lv_istore (lv' := [(8, .int x8_180), (0, .ref (zg Z lb)), (1, .int x0), (2, .ref (zg Z (b + 1))), (3, .int x1), (4, .int x2), (5, .int x5_6), (6, .int x6_14), (7, .ref (zg Z (b + 4))), (9, .int x9)]) hx hb dX1_passTest_180 hl (by decide) rfl (fun ls hl => ?_)
                  refine lv_iinc (v := (x9 + 1)) (lv' := [(9, .int (x9 + 1)), (8, .int x8_180), (0, .ref (zg Z lb)), (1, .int x0), (2, .ref (zg Z (b + 1))), (3, .int x1), (4, .int x2), (5, .int x5_6), (6, .int x6_14), (7, .ref (zg Z (b + 4)))]) hx hb dX1_passTest_182 hl (k := 9) rfl rfl (by decide) rfl (fun ls hl => ?_)
                  refine lv_goto (tgt := 144) hx hb dX1_passTest_185 (by decide) ?_
                  exact ih144 (i + 1) x8_180 (x9 + 1) (by rw [hx9]; exact nI_1 _) (by omega) (by rw [ex8_180, hx9]; exact bs_yes (by omega) hbt (by rw [hP i hin]; exact in_yes c_160 c_170)) (by omega) _ _ h ls (lv_sub hl [2, 3, 4, 5, 6, 7, 8, 9, 1, 0] rfl)
        exact L144 (n - 0 + 1) 0 0 0 rfl (Nat.zero_le _) bs_0 (Nat.lt_succ_self _) _ _ h ls (lv_sub hl [5, 6, 7, 8, 9, 4, 3, 2, 1, 0] rfl)
      · skip
        by_cases t22_3 : (v (lb + 3) s) = 3
        · refine lv_tableIn (off := 61) (tgt := 83) hx hb dX1_passTest_22 (by rw [t22_3]; decide) (by rw [t22_3]; decide) (by rw [t22_3]; rfl) (by decide) ?_
          have hlt : (t - 3) / 300 = 3 := nI_eq1 (b := 3) hd1 rfl (by omega) (by omega) t22_3
          have hP : ∀ p, p < n → tstS (xC v b n) p (t - 3) = (decide (x5_6 ≤ v (b + 5) p) && decide (v (b + 5) p ≤ x6_14)) := fun p hp => by rw [ex5_6, ex6_14, hlo, hhi]; exact (by have z := tstS_3 ht hrx hp hlt; rw [xC_th (by omega)] at z; exact z)
          refine lv_aload_n hx hb dX1_passTest_83 rfl (lv_at hl 4 rfl) ?_
          refine g_getr X h (k := 4) (t := (b + 5)) (cW_1 hW) fr_RX1_71 rfl (by decide) (by decide) (by decide) dX1_passTest_84 ?_
          refine lv_astore (lv' := [(7, .ref (zg Z (b + 5))), (6, .int x6_14), (5, .int x5_6), (0, .ref (zg Z lb)), (1, .int x0), (2, .ref (zg Z (b + 1))), (3, .int x1), (4, .int x2)]) hx hb dX1_passTest_87 hl (by decide) rfl (fun ls hl => ?_)
          refine lv_goto (tgt := 138) hx hb dX1_passTest_89 (by decide) ?_
          refine lv_iconst (v := 0) hx hb dX1_passTest_138 (by decide) ?_
          refine lv_istore (lv' := [(8, .int 0), (7, .ref (zg Z (b + 5))), (6, .int x6_14), (5, .int x5_6), (0, .ref (zg Z lb)), (1, .int x0), (2, .ref (zg Z (b + 1))), (3, .int x1), (4, .int x2)]) hx hb dX1_passTest_139 hl (by decide) rfl (fun ls hl => ?_)
          refine lv_iconst (v := 0) hx hb dX1_passTest_141 (by decide) ?_
          refine lv_istore (lv' := [(9, .int 0), (8, .int 0), (7, .ref (zg Z (b + 5))), (6, .int x6_14), (5, .int x5_6), (0, .ref (zg Z lb)), (1, .int x0), (2, .ref (zg Z (b + 1))), (3, .int x1), (4, .int x2)]) hx hb dX1_passTest_142 hl (by decide) rfl (fun ls hl => ?_)
          have L144 : ∀ (n144 : Nat) (i : Nat) (x8 x9 : Int32), (x9 = nI i) → (i ≤ n) → (∀ p, p < 32 → bt x8 p = (decide (p < i) && tstS (xC v b n) p (t - 3))) → n - i < n144 → ∀ (H : Heap) (locs : List Loc), HS Z gs v w H locs → ∀ ls : Array Slot, lv_has ls 10 [(0, .ref (zg Z lb)), (1, .int x0), (2, .ref (zg Z (b + 1))), (3, .int x1), (4, .int x2), (5, .int x5_6), (6, .int x6_14), (7, .ref (zg Z (b + 5))), (8, .int x8), (9, .int x9)] → W gp gl ge (rmm 0 0) gs gm ga gb gh gc H locs 0 0 (MQ gb (Qi Z (fun r u => (∀ p, p < n → bt r p = tstS (xC v b n) p (t - 3)) ∧ (v, w) = u)) ga gs 0 0 (zA Z)) (F0 gm 144 ls []) := by
            intro n144
            induction n144 with
            | zero => intro i x8 x9 hx9 hi hbt hmu; exact absurd hmu (Nat.not_lt_zero _)
            | succ n144 ih144 =>
              intro i x8 x9 hx9 hi hbt hmu144 H locs h ls hl
              refine lv_iload hx hb dX1_passTest_144 (lv_at hl 9 rfl) ?_
              refine lv_aload_n hx hb dX1_passTest_146 rfl (lv_at hl 2 rfl) ?_
              refine g_geti X h (k := 0) (cW_1 hW) fr_RX1_74 rfl (by decide) dX1_passTest_147 ?_
              refine lv_icmp_ge (tgt := 188) hx hb dX1_passTest_150 (by decide) (fun c_150 => ?_) (fun c_150 => ?_)
              · skip
                have hin := nI_le1 (a := n) (b := i) hn hx9 (by omega) (by omega) c_150
                refine lv_iload hx hb dX1_passTest_188 (lv_at hl 8 rfl) ?_
                exact g_iret X h dX1_passTest_190 ⟨fun p hp => by rw [hbt p (by omega), decide_eq_true (by omega), Bool.true_and], rfl⟩
              · skip
                have hin := nI_le0 (a := n) (b := i) hn hx9 (by omega) (by omega) c_150
                refine lv_aload hx hb dX1_passTest_153 (lv_at hl 7 rfl) ?_
                refine lv_iload hx hb dX1_passTest_155 (lv_at hl 9 rfl) ?_
                refine g_iald X h (k := i) (cW_5 hW) hx9 (by omega) (by decide) dX1_passTest_157 ?_
                refine lv_iload hx hb dX1_passTest_158 (lv_at hl 5 rfl) ?_
                refine lv_icmp_lt (tgt := 182) hx hb dX1_passTest_160 (by decide) (fun c_160 => ?_) (fun c_160 => ?_)
                · skip
                  refine lv_iinc (v := (x9 + 1)) (lv' := [(9, .int (x9 + 1)), (0, .ref (zg Z lb)), (1, .int x0), (2, .ref (zg Z (b + 1))), (3, .int x1), (4, .int x2), (5, .int x5_6), (6, .int x6_14), (7, .ref (zg Z (b + 5))), (8, .int x8)]) hx hb dX1_passTest_182 hl (k := 9) rfl rfl (by decide) rfl (fun ls hl => ?_)
                  refine lv_goto (tgt := 144) hx hb dX1_passTest_185 (by decide) ?_
                  exact ih144 (i + 1) x8 (x9 + 1) (by rw [hx9]; exact nI_1 _) (by omega) (bs_no hbt (by rw [hP i hin]; exact in_no1 c_160)) (by omega) _ _ h ls (lv_sub hl [1, 2, 3, 4, 5, 6, 7, 8, 9, 0] rfl)
                · skip
                  refine lv_aload hx hb dX1_passTest_163 (lv_at hl 7 rfl) ?_
                  refine lv_iload hx hb dX1_passTest_165 (lv_at hl 9 rfl) ?_
                  refine g_iald X h (k := i) (cW_5 hW) hx9 (by omega) (by decide) dX1_passTest_167 ?_
                  refine lv_iload hx hb dX1_passTest_168 (lv_at hl 6 rfl) ?_
                  refine lv_icmp_gt (tgt := 182) hx hb dX1_passTest_170 (by decide) (fun c_170 => ?_) (fun c_170 => ?_)
                  · skip
                    refine lv_iinc (v := (x9 + 1)) (lv' := [(9, .int (x9 + 1)), (0, .ref (zg Z lb)), (1, .int x0), (2, .ref (zg Z (b + 1))), (3, .int x1), (4, .int x2), (5, .int x5_6), (6, .int x6_14), (7, .ref (zg Z (b + 5))), (8, .int x8)]) hx hb dX1_passTest_182 hl (k := 9) rfl rfl (by decide) rfl (fun ls hl => ?_)
                    refine lv_goto (tgt := 144) hx hb dX1_passTest_185 (by decide) ?_
                    exact ih144 (i + 1) x8 (x9 + 1) (by rw [hx9]; exact nI_1 _) (by omega) (bs_no hbt (by rw [hP i hin]; exact in_no2 c_170)) (by omega) _ _ h ls (lv_sub hl [1, 2, 3, 4, 5, 6, 7, 8, 9, 0] rfl)
                  · skip
                    refine lv_iload hx hb dX1_passTest_173 (lv_at hl 8 rfl) ?_
                    refine lv_iconst (v := 1) hx hb dX1_passTest_175 (by decide) ?_
                    refine lv_iload hx hb dX1_passTest_176 (lv_at hl 9 rfl) ?_
                    refine lv_ishl hx hb dX1_passTest_178 ?_
                    refine lv_ior hx hb dX1_passTest_179 ?_
                    refine lv_topi (fun x8_180 ex8_180 => ?_)
                    refine lv_istore (lv' := [(8, .int x8_180), (0, .ref (zg Z lb)), (1, .int x0), (2, .ref (zg Z (b + 1))), (3, .int x1), (4, .int x2), (5, .int x5_6), (6, .int x6_14), (7, .ref (zg Z (b + 5))), (9, .int x9)]) hx hb dX1_passTest_180 hl (by decide) rfl (fun ls hl => ?_)
                    refine lv_iinc (v := (x9 + 1)) (lv' := [(9, .int (x9 + 1)), (8, .int x8_180), (0, .ref (zg Z lb)), (1, .int x0), (2, .ref (zg Z (b + 1))), (3, .int x1), (4, .int x2), (5, .int x5_6), (6, .int x6_14), (7, .ref (zg Z (b + 5)))]) hx hb dX1_passTest_182 hl (k := 9) rfl rfl (by decide) rfl (fun ls hl => ?_)
                    refine lv_goto (tgt := 144) hx hb dX1_passTest_185 (by decide) ?_
                    exact ih144 (i + 1) x8_180 (x9 + 1) (by rw [hx9]; exact nI_1 _) (by omega) (by rw [ex8_180, hx9]; exact bs_yes (by omega) hbt (by rw [hP i hin]; exact in_yes c_160 c_170)) (by omega) _ _ h ls (lv_sub hl [2, 3, 4, 5, 6, 7, 8, 9, 1, 0] rfl)
          exact L144 (n - 0 + 1) 0 0 0 rfl (Nat.zero_le _) bs_0 (Nat.lt_succ_self _) _ _ h ls (lv_sub hl [5, 6, 7, 8, 9, 4, 3, 2, 1, 0] rfl)
        · skip
          by_cases t22_4 : (v (lb + 3) s) = 4
          · refine lv_tableIn (off := 70) (tgt := 92) hx hb dX1_passTest_22 (by rw [t22_4]; decide) (by rw [t22_4]; decide) (by rw [t22_4]; rfl) (by decide) ?_
            have hlt : (t - 3) / 300 = 4 := nI_eq1 (b := 4) hd1 rfl (by omega) (by omega) t22_4
            have hP : ∀ p, p < n → tstS (xC v b n) p (t - 3) = (decide (x5_6 ≤ x1) && decide (x1 ≤ x6_14)) := fun p hp => by rw [ex5_6, ex6_14, hlo, hhi, h2]; exact tstS_4 ht hrx hlt
            refine lv_iload_n hx hb dX1_passTest_92 rfl (lv_at hl 5 rfl) ?_
            refine lv_iload hx hb dX1_passTest_93 (lv_at hl 1 rfl) ?_
            refine lv_icmp_lt (tgt := 109) hx hb dX1_passTest_95 (by decide) (fun c_95 => ?_) (fun c_95 => ?_)
            · skip
              refine lv_iconst (v := 0) hx hb dX1_passTest_109 (by decide) ?_
              exact g_iret X h dX1_passTest_110 ⟨fun p hp => by rw [hP p hp, in_no1 c_95]; exact b_0 p, rfl⟩
            · skip
              refine lv_iload_n hx hb dX1_passTest_98 rfl (lv_at hl 5 rfl) ?_
              refine lv_iload hx hb dX1_passTest_99 (lv_at hl 0 rfl) ?_
              refine lv_icmp_gt (tgt := 109) hx hb dX1_passTest_101 (by decide) (fun c_101 => ?_) (fun c_101 => ?_)
              · skip
                refine lv_iconst (v := 0) hx hb dX1_passTest_109 (by decide) ?_
                exact g_iret X h dX1_passTest_110 ⟨fun p hp => by rw [hP p hp, in_no2 c_101]; exact b_0 p, rfl⟩
              · skip
                refine lv_bipush (v := 63) hx hb dX1_passTest_104 (by decide) ?_
                refine lv_goto (tgt := 110) hx hb dX1_passTest_106 (by decide) ?_
                exact g_iret X h dX1_passTest_110 ⟨fun p hp => by rw [hP p hp, in_yes c_95 c_101]; exact b_63 p (by omega), rfl⟩
          · skip
            have q0 := lv_neT t22_0 (a := 0) (by decide)
            have q1 := lv_neT t22_1 (a := 1) (by decide)
            have q2 := lv_neT t22_2 (a := 2) (by decide)
            have q3 := lv_neT t22_3 (a := 3) (by decide)
            have q4 := lv_neT t22_4 (a := 4) (by decide)
            refine lv_tableOut (tgt := 111) hx hb dX1_passTest_22 (by omega) (by decide) ?_
            have hlt : (t - 3) / 300 = 5 := by
              have e0 := nI_eq0 (b := 0) hd1 rfl t22_0
              have e1 := nI_eq0 (b := 1) hd1 rfl t22_1
              have e2 := nI_eq0 (b := 2) hd1 rfl t22_2
              have e3 := nI_eq0 (b := 3) hd1 rfl t22_3
              have e4 := nI_eq0 (b := 4) hd1 rfl t22_4
              omega
            have hP : ∀ p, p < n → tstS (xC v b n) p (t - 3) = (decide (x5_6 ≤ x2 - x2 / 10 * 10) && decide (x2 - x2 / 10 * 10 ≤ x6_14)) := fun p hp => by rw [ex5_6, ex6_14, hlo, hhi, h3]; exact tstS_5 ht hrx hB hlt
            refine lv_iload hx hb dX1_passTest_111 (lv_at hl 6 rfl) ?_
            refine lv_bipush (v := 10) hx hb dX1_passTest_113 (by decide) ?_
            refine lv_irem hx hb dX1_passTest_115 (by decide) ?_
            refine lv_iload hx hb dX1_passTest_116 (lv_at hl 1 rfl) ?_
            refine lv_icmp_lt (tgt := 136) hx hb dX1_passTest_118 (by decide) (fun c_118 => ?_) (fun c_118 => ?_)
            · skip
              refine lv_iconst (v := 0) hx hb dX1_passTest_136 (by decide) ?_
              exact g_iret X h dX1_passTest_137 ⟨fun p hp => by rw [hP p hp, in_no1 c_118]; exact b_0 p, rfl⟩
            · skip
              refine lv_iload hx hb dX1_passTest_121 (lv_at hl 6 rfl) ?_
              refine lv_bipush (v := 10) hx hb dX1_passTest_123 (by decide) ?_
              refine lv_irem hx hb dX1_passTest_125 (by decide) ?_
              refine lv_iload hx hb dX1_passTest_126 (lv_at hl 0 rfl) ?_
              refine lv_icmp_gt (tgt := 136) hx hb dX1_passTest_128 (by decide) (fun c_128 => ?_) (fun c_128 => ?_)
              · skip
                refine lv_iconst (v := 0) hx hb dX1_passTest_136 (by decide) ?_
                exact g_iret X h dX1_passTest_137 ⟨fun p hp => by rw [hP p hp, in_no2 c_128]; exact b_0 p, rfl⟩
              · skip
                refine lv_bipush (v := 63) hx hb dX1_passTest_131 (by decide) ?_
                refine lv_goto (tgt := 137) hx hb dX1_passTest_133 (by decide) ?_
                exact g_iret X h dX1_passTest_137 ⟨fun p hp => by rw [hP p hp, in_yes c_118 c_128]; exact b_63 p (by omega), rfl⟩

set_option maxRecDepth 100000 in
set_option maxHeartbeats 1000000 in
theorem c_X1_holdsFor (gl : Launch) (Z : PL) (v : VV) (w : WV) (x0 : Int32) (ci : Nat) (hci : x0 = nI ci) (x1 : Int32) (x2 : Int32) (b : Nat) (hW : isW b) (n : Nat) (B : Nat) (j : Nat) (L : LND) (hcw : CW v b n B j L) (hcl : ci < (DLs L).length) (h2 : x1 = v b 2) (h3 : x2 = v b 3) : CT gl yX1_holdsFor cX1_holdsFor 8 (some .int) 1 29 Z [.ref (zg Z (2 + 7 * j)), .int x0, .ref (zg Z (b + 1)), .int x1, .int x2] v w (Qi Z (fun r u => (∀ p, p < n → bt r p = hldS (xC v b n) p ((DLs L).getD ci dC).2.2) ∧ ∃ f, (upc v ((2 + 7 * j) + 6) f, w) = u)) := by
  refine g_met (by decide) (Nat.le_of_ble_eq_true rfl) ?_
  intro gp ge gs gm ga gb gh gc X h ls hl
  have hx := X.1
  have hb := X.2.1
  have hl : lv_has ls 8 [(0, .ref (zg Z (2 + 7 * j))), (1, .int x0), (2, .ref (zg Z (b + 1))), (3, .int x1), (4, .int x2)] := hl
  obtain ⟨⟨hn, h6⟩, hwf, ⟨hj7, hland, hrep⟩, hnum, hrx, hB⟩ := id hcw
  have hbr := isW_r hW
  have hL : isL (2 + 7 * j) := isLj hj7
  obtain ⟨-, hd3, hcum, hcls⟩ := id hrep
  obtain ⟨hwt, hend, hstr⟩ := hcls ci hcl
  have hD10 := (DLs_wf hwf).1
  obtain ⟨-, -, hw1, hw2⟩ := (DLs_wf hwf).2 ci hcl
  have hc1 := hcum (ci + 1) (by omega)
  replace hc1 : cumL (DLs L) ci + ((DLs L).getD ci dC).2.2.length ≤ 100 := hc1
  replace hend : v ((2 + 7 * j) + 2) ci = nI (cumL (DLs L) ci + ((DLs L).getD ci dC).2.2.length) := hend
  obtain ⟨tk, htk⟩ : ∃ Y : List Nat, Y = ((DLs L).getD ci dC).2.2 := ⟨_, rfl⟩
  rw [← htk] at hstr hw1 hw2 hc1 hend
  obtain ⟨cs, hcs⟩ : ∃ Y : Nat, Y = cumL (DLs L) ci := ⟨_, rfl⟩
  rw [← hcs] at hstr hc1 hend
  obtain ⟨XX, hX⟩ : ∃ Y : VV, Y = xC v b n := ⟨_, rfl⟩
  obtain ⟨T, hT⟩ : ∃ Y : Nat → Nat, Y = fun k => tk.getD k 0 := ⟨_, rfl⟩
  refine lv_iload_n hx hb dX1_holdsFor_0 rfl (lv_at hl 1 rfl) ?_
  refine lv_iconst (v := 0) hx hb dX1_holdsFor_1 (by decide) ?_
  refine lv_aload_n hx hb dX1_holdsFor_2 rfl (lv_at hl 0 rfl) ?_
  refine g_geti X h (k := 3) (cL_0 hL) fr_RX1_43 rfl (by decide) dX1_holdsFor_3 ?_
  refine lv_iconst (v := 1) hx hb dX1_holdsFor_6 (by decide) ?_
  refine lv_isub hx hb dX1_holdsFor_7 ?_
  refine g_ki h (g_runSN X h (As := [.int x0, .int 0, .int ((v (2 + 7 * j) 3) - 1)]) (rest := []) (c_X7_isWithin gl Z v w x0 0 ((v (2 + 7 * j) 3) - 1)) ms_X7_isWithin (List.mem_of_getElem? (i := 0) rfl) ⟨Nat.le_of_ble_eq_true rfl, Nat.le_of_ble_eq_true rfl⟩ rfl hl.1 rfl (Nat.le_of_ble_eq_true rfl) dX1_holdsFor_8) (fun r8 v8 w8 H locs hp8 h => ?_)
  obtain ⟨hr8, hu8⟩ := hp8; obtain ⟨rfl, rfl⟩ := Prod.mk.inj hu8
  refine lv_if_ne (tgt := 16) hx hb dX1_holdsFor_11 (by decide) (fun c_11 => ?_) (fun c_11 => ?_)
  · skip
    rw [hr8, bI_n] at c_11
    have L37 : ∀ (n37 : Nat) (k : Nat) (x5 x6 : Int32) (f : Nat → Int32) (va : VV), (x6 = nI (cs + k)) → (x5 = nI (hrun T k)) → (k ≤ tk.length) → (va = upc v ((2 + 7 * j) + 6) f) → (∀ q, q < hrun T k → ∀ p, p < n → bt (va ((2 + 7 * j) + 6) q) p = (mrun (tstS XX p) T k).2 q) → tk.length - k < n37 → ∀ (H : Heap) (locs : List Loc), HS Z gs va w H locs → ∀ ls : Array Slot, lv_has ls 8 [(0, .ref (zg Z (2 + 7 * j))), (1, .int x0), (2, .ref (zg Z (b + 1))), (3, .int x1), (4, .int x2), (5, .int x5), (6, .int x6)] → W gp gl ge (rmm 1 29) gs gm ga gb gh gc H locs 0 0 (MQ gb (Qi Z (fun r u => (∀ p, p < n → bt r p = hldS (xC v b n) p ((DLs L).getD ci dC).2.2) ∧ ∃ f, (upc v ((2 + 7 * j) + 6) f, w) = u)) ga gs 0 0 (zA Z)) (F0 gm 37 ls []) := by
      intro n37
      induction n37 with
      | zero => intro k x5 x6 f va hx6 hx5 hk hva hst hmu; exact absurd hmu (Nat.not_lt_zero _)
      | succ n37 ih37 =>
        intro k x5 x6 f va hx6 hx5 hk hva hst hmu37 H locs h ls hl
        refine lv_iload hx hb dX1_holdsFor_37 (lv_at hl 6 rfl) ?_
        refine lv_aload_n hx hb dX1_holdsFor_39 rfl (lv_at hl 0 rfl) ?_
        refine g_getr X h (k := 5) (t := ((2 + 7 * j) + 2)) (cL_0 hL) fr_RX1_15 rfl (by decide) (by decide) (by decide) dX1_holdsFor_40 ?_
        refine lv_iload_n hx hb dX1_holdsFor_43 rfl (lv_at hl 1 rfl) ?_
        refine g_iald X h (k := ci) (cL_2 hL) hci (by omega) (by decide) dX1_holdsFor_44 ?_
        refine g_tr (y := (v ((2 + 7 * j) + 2) ci)) (by rw [hva, upc_ne (by omega)]) ?_
        refine lv_icmp_ge (tgt := 194) hx hb dX1_holdsFor_45 (by decide) (fun c_45 => ?_) (fun c_45 => ?_)
        · skip
          have hkl : k = tk.length := by
            have z := nI_le1 (a := (cs + tk.length)) (b := (cs + k)) hend hx6 (by omega) (by omega) c_45
            omega
          refine lv_iload hx hb dX1_holdsFor_194 (lv_at hl 5 rfl) ?_
          refine lv_if_le (tgt := 208) hx hb dX1_holdsFor_196 (by decide) (fun c_196 => ?_) (fun c_196 => ?_)
          · exact absurd c_196 (by rw [hx5]; exact fun z => absurd (nI_le1 (a := hrun T k) (b := 0) rfl rfl (by rw [hkl, hT, hw1]; omega) (by omega) z) (by rw [hkl, hT, hw1]; omega))
          · skip
            refine lv_aload_n hx hb dX1_holdsFor_199 rfl (lv_at hl 0 rfl) ?_
            refine g_getr X h (k := 10) (t := ((2 + 7 * j) + 6)) (cL_0 hL) fr_RX1_27 rfl (by decide) (by decide) (by decide) dX1_holdsFor_200 ?_
            refine lv_iconst (v := 0) hx hb dX1_holdsFor_203 (by decide) ?_
            refine g_iald X h (k := 0) (cL_6 hL) rfl (by omega) (by decide) dX1_holdsFor_204 ?_
            refine lv_goto (tgt := 209) hx hb dX1_holdsFor_205 (by decide) ?_
            exact g_iret X h dX1_holdsFor_209 ⟨(by intro p hp; subst hkl; rw [hst 0 (by rw [hT, hw1]; omega) p hp, hX, hT, ← htk]; rfl), f, by rw [hva]⟩
        · skip
          have hkl0 := nI_le0 (a := (cs + tk.length)) (b := (cs + k)) hend hx6 (by omega) (by omega) c_45
          have hkl : k < tk.length := by omega
          obtain ⟨hq1, hq2, hq3, hq4⟩ := hw2 k hkl
          have hTk : T k = tk.getD k 0 := by rw [hT]
          rw [← hT] at hq2 hq3 hq4
          rw [← hTk] at hq1 hq2 hq3 hq4
          have hsk := hstr k hkl
          rw [← hTk] at hsk
          have hdk := hsk.1
          refine lv_aload_n hx hb dX1_holdsFor_48 rfl (lv_at hl 0 rfl) ?_
          refine g_getr X h (k := 6) (t := ((2 + 7 * j) + 3)) (cL_0 hL) fr_RX1_18 rfl (by decide) (by decide) (by decide) dX1_holdsFor_49 ?_
          refine lv_iload hx hb dX1_holdsFor_52 (lv_at hl 6 rfl) ?_
          refine g_iald X h (k := (cs + k)) (cL_3 hL) hx6 (by omega) (by decide) dX1_holdsFor_54 ?_
          refine g_tr (y := (v ((2 + 7 * j) + 3) (cs + k))) (by rw [hva, upc_ne (by omega)]) ?_
          refine lv_if_lt (tgt := 91) hx hb dX1_holdsFor_55 (by decide) (fun c_55 => ?_) (fun c_55 => ?_)
          · skip
            rw [hdk] at c_55
            have ht3 := dT_lt hq1 c_55
            have hh12 : hrun T k < 12 := hrun_le hw2 hT (Nat.le_of_lt hkl)
            refine lv_aload_n hx hb dX1_holdsFor_91 rfl (lv_at hl 0 rfl) ?_
            refine g_getr X h (k := 6) (t := ((2 + 7 * j) + 3)) (cL_0 hL) fr_RX1_18 rfl (by decide) (by decide) (by decide) dX1_holdsFor_92 ?_
            refine lv_iload hx hb dX1_holdsFor_95 (lv_at hl 6 rfl) ?_
            refine g_iald X h (k := (cs + k)) (cL_3 hL) hx6 (by omega) (by decide) dX1_holdsFor_97 ?_
            refine g_tr (y := (v ((2 + 7 * j) + 3) (cs + k))) (by rw [hva, upc_ne (by omega)]) ?_
            refine lv_bipush (v := (-3)) hx hb dX1_holdsFor_98 (by decide) ?_
            refine lv_icmp_ne (tgt := 125) hx hb dX1_holdsFor_100 (by decide) (fun c_100 => ?_) (fun c_100 => ?_)
            · skip
              have ht2 : ¬ T k = 2 := fun z => c_100 (by rw [hdk]; exact (dT_2 ht3).mpr z)
              have ht1 : T k < 2 := by omega
              have hh2 := hq4 ht1
              refine lv_iload hx hb dX1_holdsFor_125 (lv_at hl 5 rfl) ?_
              refine lv_iconst (v := 1) hx hb dX1_holdsFor_127 (by decide) ?_
              refine lv_icmp_le (tgt := 188) hx hb dX1_holdsFor_128 (by decide) (fun c_128 => ?_) (fun c_128 => ?_)
              · exact absurd c_128 (by rw [hx5]; exact fun z => absurd (nI_le1 (a := hrun T k) (b := 1) rfl rfl (by omega) (by omega) z) (by omega))
              · skip
                refine lv_iinc (v := (x5 + (-1))) (lv' := [(5, .int (x5 + (-1))), (0, .ref (zg Z (2 + 7 * j))), (1, .int x0), (2, .ref (zg Z (b + 1))), (3, .int x1), (4, .int x2), (6, .int x6)]) hx hb dX1_holdsFor_131 hl (k := 5) rfl rfl (by decide) rfl (fun ls hl => ?_)
                refine lv_aload_n hx hb dX1_holdsFor_134 rfl (lv_at hl 1 rfl) ?_
                refine g_getr X h (k := 10) (t := ((2 + 7 * j) + 6)) (cL_0 hL) fr_RX1_27 rfl (by decide) (by decide) (by decide) dX1_holdsFor_135 ?_
                refine lv_iload hx hb dX1_holdsFor_138 (lv_at hl 0 rfl) ?_
                refine lv_iconst (v := 1) hx hb dX1_holdsFor_140 (by decide) ?_
                refine lv_isub hx hb dX1_holdsFor_141 ?_
                refine g_iald X h (k := (hrun T k - 2)) (cL_6 hL) (by rw [hx5]; exact binx hh2) (by omega) (by decide) dX1_holdsFor_142 ?_
                refine lv_topi (fun x7_143 ex7_143 => ?_)
                refine lv_istore (lv' := [(7, .int x7_143), (5, .int (x5 + (-1))), (0, .ref (zg Z (2 + 7 * j))), (1, .int x0), (2, .ref (zg Z (b + 1))), (3, .int x1), (4, .int x2), (6, .int x6)]) hx hb dX1_holdsFor_143 hl (by decide) rfl (fun ls hl => ?_)
                refine lv_aload_n hx hb dX1_holdsFor_145 rfl (lv_at hl 2 rfl) ?_
                refine g_getr X h (k := 10) (t := ((2 + 7 * j) + 6)) (cL_0 hL) fr_RX1_27 rfl (by decide) (by decide) (by decide) dX1_holdsFor_146 ?_
                refine lv_iload hx hb dX1_holdsFor_149 (lv_at hl 1 rfl) ?_
                refine lv_iconst (v := 1) hx hb dX1_holdsFor_151 (by decide) ?_
                refine lv_isub hx hb dX1_holdsFor_152 ?_
                refine lv_aload_n hx hb dX1_holdsFor_153 rfl (lv_at hl 2 rfl) ?_
                refine g_getr X h (k := 6) (t := ((2 + 7 * j) + 3)) (cL_0 hL) fr_RX1_18 rfl (by decide) (by decide) (by decide) dX1_holdsFor_154 ?_
                refine lv_iload hx hb dX1_holdsFor_157 (lv_at hl 7 rfl) ?_
                refine g_iald X h (k := (cs + k)) (cL_3 hL) hx6 (by omega) (by decide) dX1_holdsFor_159 ?_
                refine g_tr (y := (v ((2 + 7 * j) + 3) (cs + k))) (by rw [hva, upc_ne (by omega)]) ?_
                refine lv_iconst (v := (-1)) hx hb dX1_holdsFor_160 (by decide) ?_
                refine lv_icmp_ne (tgt := 177) hx hb dX1_holdsFor_161 (by decide) (fun c_161 => ?_) (fun c_161 => ?_)
                · skip
                  have ht0 : ¬ T k = 0 := fun z => c_161 (by rw [hdk]; exact (dT_0 ht3).mpr z)
                  refine lv_iload hx hb dX1_holdsFor_177 (lv_at hl 0 rfl) ?_
                  refine lv_aload_n hx hb dX1_holdsFor_179 rfl (lv_at hl 2 rfl) ?_
                  refine g_getr X h (k := 10) (t := ((2 + 7 * j) + 6)) (cL_0 hL) fr_RX1_27 rfl (by decide) (by decide) (by decide) dX1_holdsFor_180 ?_
                  refine lv_iload hx hb dX1_holdsFor_183 (lv_at hl 1 rfl) ?_
                  refine g_iald X h (k := (hrun T k - 1)) (cL_6 hL) (by rw [hx5]; exact sb_m1 (by omega)) (by omega) (by decide) dX1_holdsFor_185 ?_
                  refine lv_ior hx hb dX1_holdsFor_186 ?_
                  refine g_iast X h (k := (hrun T k - 2)) (cL_6 hL) (by rw [hx5]; exact binx hh2) (by omega) (by decide) dX1_holdsFor_187 (fun v187 H locs ev187 h => ?_)
                  refine lv_iinc (v := (x6 + 1)) (lv' := [(6, .int (x6 + 1)), (7, .int x7_143), (5, .int (x5 + (-1))), (0, .ref (zg Z (2 + 7 * j))), (1, .int x0), (2, .ref (zg Z (b + 1))), (3, .int x1), (4, .int x2)]) hx hb dX1_holdsFor_188 hl (k := 7) rfl rfl (by decide) rfl (fun ls hl => ?_)
                  refine lv_goto (tgt := 37) hx hb dX1_holdsFor_191 (by decide) ?_
                  exact ih37 (k + 1) (x5 + (-1)) (x6 + 1) (upd f (hrun T k - 2) (x7_143 ||| va ((2 + 7 * j) + 6) (hrun T k - 1))) v187 (by rw [hx6]; exact nI_1 _) (by rw [hx5]; show nI _ + (-1) = nI (hstep _ _); rw [hstep, if_neg (by omega), if_neg (by omega)]; exact sb_m1 (by omega)) (by omega) (by rw [ev187, hva, up2_upc]) (by rw [ev187, up2_row]; exact bst_bin hst (fun p => mrun_h _ _ _) ht1 hh2 (by rw [if_neg ht0, ex7_143])) (by omega) _ _ h ls (lv_sub hl [3, 4, 5, 6, 7, 2, 0] rfl)
                · skip
                  have ht0 : T k = 0 := (dT_0 ht3).mp (hdk.symm.trans c_161)
                  refine lv_iload hx hb dX1_holdsFor_164 (lv_at hl 0 rfl) ?_
                  refine lv_aload_n hx hb dX1_holdsFor_166 rfl (lv_at hl 2 rfl) ?_
                  refine g_getr X h (k := 10) (t := ((2 + 7 * j) + 6)) (cL_0 hL) fr_RX1_27 rfl (by decide) (by decide) (by decide) dX1_holdsFor_167 ?_
                  refine lv_iload hx hb dX1_holdsFor_170 (lv_at hl 1 rfl) ?_
                  refine g_iald X h (k := (hrun T k - 1)) (cL_6 hL) (by rw [hx5]; exact sb_m1 (by omega)) (by omega) (by decide) dX1_holdsFor_172 ?_
                  refine lv_iand hx hb dX1_holdsFor_173 ?_
                  refine lv_goto (tgt := 187) hx hb dX1_holdsFor_174 (by decide) ?_
                  refine g_iast X h (k := (hrun T k - 2)) (cL_6 hL) (by rw [hx5]; exact binx hh2) (by omega) (by decide) dX1_holdsFor_187 (fun v187 H locs ev187 h => ?_)
                  refine lv_iinc (v := (x6 + 1)) (lv' := [(6, .int (x6 + 1)), (7, .int x7_143), (5, .int (x5 + (-1))), (0, .ref (zg Z (2 + 7 * j))), (1, .int x0), (2, .ref (zg Z (b + 1))), (3, .int x1), (4, .int x2)]) hx hb dX1_holdsFor_188 hl (k := 7) rfl rfl (by decide) rfl (fun ls hl => ?_)
                  refine lv_goto (tgt := 37) hx hb dX1_holdsFor_191 (by decide) ?_
                  exact ih37 (k + 1) (x5 + (-1)) (x6 + 1) (upd f (hrun T k - 2) (x7_143 &&& va ((2 + 7 * j) + 6) (hrun T k - 1))) v187 (by rw [hx6]; exact nI_1 _) (by rw [hx5]; show nI _ + (-1) = nI (hstep _ _); rw [hstep, if_neg (by omega), if_neg (by omega)]; exact sb_m1 (by omega)) (by omega) (by rw [ev187, hva, up2_upc]) (by rw [ev187, up2_row]; exact bst_bin hst (fun p => mrun_h _ _ _) ht1 hh2 (by rw [if_pos ht0, ex7_143])) (by omega) _ _ h ls (lv_sub hl [3, 4, 5, 6, 7, 2, 0] rfl)
            · skip
              have ht2 : T k = 2 := (dT_2 ht3).mp (hdk.symm.trans c_100)
              have hh1 := hq3 ht2
              refine lv_iload hx hb dX1_holdsFor_103 (lv_at hl 5 rfl) ?_
              refine lv_if_le (tgt := 188) hx hb dX1_holdsFor_105 (by decide) (fun c_105 => ?_) (fun c_105 => ?_)
              · exact absurd c_105 (by rw [hx5]; exact fun z => absurd (nI_le1 (a := hrun T k) (b := 0) rfl rfl (by omega) (by omega) z) (by omega))
              · skip
                refine lv_aload_n hx hb dX1_holdsFor_108 rfl (lv_at hl 0 rfl) ?_
                refine g_getr X h (k := 10) (t := ((2 + 7 * j) + 6)) (cL_0 hL) fr_RX1_27 rfl (by decide) (by decide) (by decide) dX1_holdsFor_109 ?_
                refine lv_iload hx hb dX1_holdsFor_112 (lv_at hl 5 rfl) ?_
                refine lv_iconst (v := 1) hx hb dX1_holdsFor_114 (by decide) ?_
                refine lv_isub hx hb dX1_holdsFor_115 ?_
                refine lv_dup2_11 hx hb dX1_holdsFor_116 rfl rfl ?_
                refine g_iald X h (k := (hrun T k - 1)) (cL_6 hL) (by rw [hx5]; exact pk_sub hh1) (by omega) (by decide) dX1_holdsFor_117 ?_
                refine lv_bipush (v := 63) hx hb dX1_holdsFor_118 (by decide) ?_
                refine lv_ixor hx hb dX1_holdsFor_120 ?_
                refine g_iast X h (k := (hrun T k - 1)) (cL_6 hL) (by rw [hx5]; exact pk_sub hh1) (by omega) (by decide) dX1_holdsFor_121 (fun v121 H locs ev121 h => ?_)
                refine lv_goto (tgt := 188) hx hb dX1_holdsFor_122 (by decide) ?_
                refine lv_iinc (v := (x6 + 1)) (lv' := [(6, .int (x6 + 1)), (0, .ref (zg Z (2 + 7 * j))), (1, .int x0), (2, .ref (zg Z (b + 1))), (3, .int x1), (4, .int x2), (5, .int x5)]) hx hb dX1_holdsFor_188 hl (k := 6) rfl rfl (by decide) rfl (fun ls hl => ?_)
                refine lv_goto (tgt := 37) hx hb dX1_holdsFor_191 (by decide) ?_
                exact ih37 (k + 1) x5 (x6 + 1) (upd f (hrun T k - 1) (va ((2 + 7 * j) + 6) (hrun T k - 1) ^^^ 63)) v121 (by rw [hx6]; exact nI_1 _) (by rw [hx5]; show _ = nI (hstep _ _); rw [hstep, if_neg (by omega), if_pos ht2]) (by omega) (by rw [ev121, hva, up2_upc]) (by rw [ev121, up2_row]; exact bst_not hst (fun p => mrun_h _ _ _) ht2 hh1 h6 rfl) (by omega) _ _ h ls (lv_sub hl [1, 2, 3, 4, 5, 6, 0] rfl)
          · skip
            rw [hdk] at c_55
            have ht3 := dT_ge c_55
            have hh11 := hq2 ht3
            refine lv_iload hx hb dX1_holdsFor_58 (lv_at hl 5 rfl) ?_
            refine lv_aload_n hx hb dX1_holdsFor_60 rfl (lv_at hl 0 rfl) ?_
            refine g_getr X h (k := 10) (t := ((2 + 7 * j) + 6)) (cL_0 hL) fr_RX1_27 rfl (by decide) (by decide) (by decide) dX1_holdsFor_61 ?_
            refine g_alen X h (cL_6 hL) (by decide) (by decide) dX1_holdsFor_64 ?_
            refine lv_icmp_ge (tgt := 188) hx hb dX1_holdsFor_65 (by decide) (fun c_65 => ?_) (fun c_65 => ?_)
            · exact absurd c_65 (by rw [hx5]; exact fun z => absurd (nI_le1 (a := 16) (b := hrun T k) rfl rfl (by omega) (by omega) z) (by omega))
            · skip
              refine lv_aload_n hx hb dX1_holdsFor_68 rfl (lv_at hl 0 rfl) ?_
              refine g_getr X h (k := 10) (t := ((2 + 7 * j) + 6)) (cL_0 hL) fr_RX1_27 rfl (by decide) (by decide) (by decide) dX1_holdsFor_69 ?_
              refine lv_iload hx hb dX1_holdsFor_72 (lv_at hl 5 rfl) ?_
              refine lv_aload_n hx hb dX1_holdsFor_74 rfl (lv_at hl 0 rfl) ?_
              refine lv_iload hx hb dX1_holdsFor_75 (lv_at hl 6 rfl) ?_
              refine lv_aload_n hx hb dX1_holdsFor_77 rfl (lv_at hl 2 rfl) ?_
              refine lv_iload_n hx hb dX1_holdsFor_78 rfl (lv_at hl 3 rfl) ?_
              refine lv_iload hx hb dX1_holdsFor_79 (lv_at hl 4 rfl) ?_
              refine g_ki h (g_runV X h (As := [.int x6, .ref (zg Z (b + 1)), .int x1, .int x2]) (rest := [.int x5, .ref (zg Z ((2 + 7 * j) + 6))]) (c_X1_passTest gl Z va w x6 (cs + k) hx6 x1 x2 (2 + 7 * j) hL b hW n B (T k) (CW.pw (CW_stk hbr.1 hj7 hva hcw)) (by first | assumption | omega) (by rw [stR, hva, upc_ne (by omega), upc_ne (by omega), upc_ne (by omega)]; exact hsk) (by first | assumption | omega) (by first | assumption | omega) (by rw [hva, upc_ne (by omega)]; exact h2) (by rw [hva, upc_ne (by omega)]; exact h3)) mi_X1_passTest ml_RX1_56 (cL_0 hL) (by decide) kl1 rfl ⟨Nat.le_of_ble_eq_true rfl, Nat.le_of_ble_eq_true rfl⟩ rfl hl.1 rfl (Nat.le_of_ble_eq_true rfl) dX1_holdsFor_81) (fun r81 v81 w81 H locs hp81 h => ?_)
              obtain ⟨hr81, hu81⟩ := hp81; obtain ⟨rfl, rfl⟩ := Prod.mk.inj hu81
              rw [xC_stk hbr.1 hj7 hva, ← hX] at hr81
              refine g_iast X h (k := (hrun T k)) (cL_6 hL) hx5 (by omega) (by decide) dX1_holdsFor_84 (fun v84 H locs ev84 h => ?_)
              refine lv_iinc (v := (x5 + 1)) (lv' := [(5, .int (x5 + 1)), (0, .ref (zg Z (2 + 7 * j))), (1, .int x0), (2, .ref (zg Z (b + 1))), (3, .int x1), (4, .int x2), (6, .int x6)]) hx hb dX1_holdsFor_85 hl (k := 5) rfl rfl (by decide) rfl (fun ls hl => ?_)
              refine lv_goto (tgt := 188) hx hb dX1_holdsFor_88 (by decide) ?_
              refine lv_iinc (v := (x6 + 1)) (lv' := [(6, .int (x6 + 1)), (5, .int (x5 + 1)), (0, .ref (zg Z (2 + 7 * j))), (1, .int x0), (2, .ref (zg Z (b + 1))), (3, .int x1), (4, .int x2)]) hx hb dX1_holdsFor_188 hl (k := 6) rfl rfl (by decide) rfl (fun ls hl => ?_)
              refine lv_goto (tgt := 37) hx hb dX1_holdsFor_191 (by decide) ?_
              exact ih37 (k + 1) (x5 + 1) (x6 + 1) (upd f (hrun T k) r81) v84 (by rw [hx6]; exact nI_1 _) (by rw [hx5]; show nI _ + 1 = nI (hstep _ _); rw [hstep, if_pos ht3]; exact nI_1 _) (by omega) (by rw [ev84, hva, up2_upc]) (by rw [ev84, up2_row]; exact bst_push hst (fun p => mrun_h _ _ _) ht3 hr81) (by omega) _ _ h ls (lv_sub hl [2, 3, 4, 5, 6, 1, 0] rfl)
    refine lv_iconst (v := 0) hx hb dX1_holdsFor_16 (by decide) ?_
    refine lv_istore (lv' := [(5, .int 0), (0, .ref (zg Z (2 + 7 * j))), (1, .int x0), (2, .ref (zg Z (b + 1))), (3, .int x1), (4, .int x2)]) hx hb dX1_holdsFor_17 hl (by decide) rfl (fun ls hl => ?_)
    refine lv_iload_n hx hb dX1_holdsFor_19 rfl (lv_at hl 2 rfl) ?_
    refine lv_if_ne (tgt := 27) hx hb dX1_holdsFor_20 (by decide) (fun c_20 => ?_) (fun c_20 => ?_)
    · skip
      have hc0 : 1 ≤ ci := by
        rcases Nat.eq_zero_or_pos ci with z | z
        · exact absurd (by rw [hci, z]; rfl) c_20
        · exact z
      obtain ⟨-, hend0, -⟩ := hcls (ci - 1) (by omega)
      rw [show ci - 1 + 1 = ci by omega, ← hcs] at hend0
      refine lv_aload_n hx hb dX1_holdsFor_27 rfl (lv_at hl 1 rfl) ?_
      refine g_getr X h (k := 5) (t := ((2 + 7 * j) + 2)) (cL_0 hL) fr_RX1_15 rfl (by decide) (by decide) (by decide) dX1_holdsFor_28 ?_
      refine lv_iload_n hx hb dX1_holdsFor_31 rfl (lv_at hl 2 rfl) ?_
      refine lv_iconst (v := 1) hx hb dX1_holdsFor_32 (by decide) ?_
      refine lv_isub hx hb dX1_holdsFor_33 ?_
      refine g_iald X h (k := (ci - 1)) (cL_2 hL) (by rw [hci]; exact pk_sub hc0) (by omega) (by decide) dX1_holdsFor_34 ?_
      refine lv_topi (fun x6_35 ex6_35 => ?_)
      refine lv_istore (lv' := [(6, .int x6_35), (5, .int 0), (0, .ref (zg Z (2 + 7 * j))), (1, .int x0), (2, .ref (zg Z (b + 1))), (3, .int x1), (4, .int x2)]) hx hb dX1_holdsFor_35 hl (by decide) rfl (fun ls hl => ?_)
      exact L37 (tk.length - 0 + 1) 0 0 x6_35 (v ((2 + 7 * j) + 6)) v (by rw [ex6_35, hend0]; rfl) rfl (Nat.zero_le _) (upc_self v _).symm (fun q hq => absurd hq (Nat.not_lt_zero _)) (Nat.lt_succ_self _) _ _ h ls (lv_sub hl [2, 3, 4, 5, 6, 1, 0] rfl)
    · skip
      have hc0 : ci = 0 := nI_eq1 (b := 0) hci rfl (by omega) (by omega) c_20
      have hcs0 : cs = 0 := by rw [hcs, hc0]; rfl
      refine lv_iconst (v := 0) hx hb dX1_holdsFor_23 (by decide) ?_
      refine lv_goto (tgt := 35) hx hb dX1_holdsFor_24 (by decide) ?_
      refine lv_istore (lv' := [(6, .int 0), (5, .int 0), (0, .ref (zg Z (2 + 7 * j))), (1, .int x0), (2, .ref (zg Z (b + 1))), (3, .int x1), (4, .int x2)]) hx hb dX1_holdsFor_35 hl (by decide) rfl (fun ls hl => ?_)
      exact L37 (tk.length - 0 + 1) 0 0 0 (v ((2 + 7 * j) + 6)) v (by rw [hcs0]; rfl) rfl (Nat.zero_le _) (upc_self v _).symm (fun q hq => absurd hq (Nat.not_lt_zero _)) (Nat.lt_succ_self _) _ _ h ls (lv_sub hl [2, 3, 4, 5, 6, 1, 0] rfl)
  · rw [hr8, hci, hd3, inR_isP' (by omega), isP_lt hcl (by omega)] at c_11
    exact absurd c_11 (by decide)
