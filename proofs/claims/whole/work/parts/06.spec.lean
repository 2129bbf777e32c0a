/-! what both sides are held against: a day, over X (rows: 0 numbers (people, health, smell, day, places, cold, pocket, stink), 1 kinds, 2 v, 3 thanks, 4 got, 5 dead, 6 rows, 7 round) and the land that holds: clauses (word, number, tokens) -/
abbrev CLA : Type := Nat × Nat × List Nat
abbrev LND : Type := List CLA
def imax (a b : Int32) : Int32 := if a < b then b else a
def imin (a b : Int32) : Int32 := if b < a then b else a
def imod (a b : Int32) : Int32 := a - a / b * b
def lettS (X : VV) (p lt : Nat) : Int32 := if lt = 0 then nI p else if lt = 1 then X 1 p else if lt = 2 then X 2 p else if lt = 3 then X 3 p / 10 else if lt = 4 then X 0 2 / 10 else imod (X 0 3) 10
/-- a test's token, less 3 -/
def tstS (X : VV) (p t : Nat) : Bool := if t / 100 % 3 = 0 then decide (lettS X p (t / 300) < nI (t % 100)) else if t / 100 % 3 = 1 then decide (lettS X p (t / 300) = nI (t % 100)) else decide (nI (t % 100) < lettS X p (t / 300))
def updB (f : Nat → Bool) (k : Nat) (b : Bool) : Nat → Bool := fun j => if j = k then b else f j
def mstep (b : Nat → Bool) (t : Nat) (s : Nat × (Nat → Bool)) : Nat × (Nat → Bool) :=
  if 3 ≤ t then (s.1 + 1, updB s.2 s.1 (b (t - 3))) else if t = 2 then (s.1, updB s.2 (s.1 - 1) (!s.2 (s.1 - 1))) else (s.1 - 1, updB s.2 (s.1 - 2) (if t = 0 then s.2 (s.1 - 2) && s.2 (s.1 - 1) else s.2 (s.1 - 2) || s.2 (s.1 - 1)))
def mrun (b : Nat → Bool) (tk : Nat → Nat) : Nat → Nat × (Nat → Bool)
  | 0 => (0, fun _ => false)
  | n + 1 => mstep b (tk n) (mrun b tk n)
/-- the height alone -/
def hstep (t h : Nat) : Nat := if 3 ≤ t then h + 1 else if t = 2 then h else h - 1
def hrun (tk : Nat → Nat) : Nat → Nat
  | 0 => 0
  | n + 1 => hstep (tk n) (hrun tk n)
theorem mrun_h (b : Nat → Bool) (tk : Nat → Nat) : ∀ n, (mrun b tk n).1 = hrun tk n
  | 0 => rfl
  | n + 1 => by
    have ih := mrun_h b tk n
    simp only [mrun, hrun, mstep, hstep, ← ih]
    split
    · rfl
    · split <;> rfl
/-- tokens that can be run: never too few on the stack, eleven at most, one at the end -/
def wft (tk : List Nat) : Prop := hrun (fun k => tk.getD k 0) tk.length = 1 ∧ ∀ k, k < tk.length → tk.getD k 0 < 1803 ∧ (3 ≤ tk.getD k 0 → hrun (fun k => tk.getD k 0) k < 11) ∧ (tk.getD k 0 = 2 → 1 ≤ hrun (fun k => tk.getD k 0) k) ∧ (tk.getD k 0 < 2 → 2 ≤ hrun (fun k => tk.getD k 0) k)
def hldS (X : VV) (p : Nat) (tk : List Nat) : Bool := (mrun (tstS X p) (fun k => tk.getD k 0) tk.length).2 0
def ctr (X : VV) (p : Nat) (c : CLA) : Int32 := if c.1 < 2 ∧ hldS X p c.2.2 = true then (if c.1 = 0 then nI c.2.1 else -nI c.2.1) else 0
def lsum (f : Nat → Int32) : Nat → Int32
  | 0 => 0
  | n + 1 => lsum f n + f n
def dC : CLA := (0, 0, [])
def doorS (X : VV) (L : LND) (p : Nat) : Int32 := lsum (fun i => ctr X p (L.getD i dC)) L.length
def lastN (wd : Nat) (d : Int32) (L : LND) : Nat → Int32
  | 0 => d
  | n + 1 => if (L.getD n dC).1 = wd then nI (L.getD n dC).2.1 else lastN wd d L n
def lastS (wd : Nat) (d : Int32) (L : LND) : Int32 := lastN wd d L L.length
def welS (X : VV) (L : LND) (p : Nat) : Int32 := doorS X L p + X 3 p - X 0 2 / 10
def letS (X : VV) (L : LND) (p : Nat) : Bool := decide (X 5 p = 0) && decide (0 ≤ welS X L p) && (decide (X 1 p ≠ 2) || decide (X 0 2 ≤ 100))
def prayS (X : VV) (L : LND) (p : Nat) : Int32 :=
  if X 5 p = 1 then 0 else if X 1 p = 1 then X 3 p / 5 else if X 1 p = 2 then X 3 p / 10 + (if letS X L p then X 2 p else 0) else if X 1 p = 4 then (if imod (X 0 3) (X 2 p + 2) = 0 then 0 else X 3 p / 5) else if X 1 p = 5 then (if 0 < X 3 p then 3 else 0) else if X 1 p = 6 then X 3 p / 10 + X 6 (4 * p + (imod (X 0 3) 4).toNatClampNeg) else X 3 p / 10
def tforS (X : VV) (p : Nat) (g : Int32) : Int32 := if X 1 p = 2 ∨ X 1 p = 5 then g / 2 else if X 1 p = 3 ∨ X 1 p = 6 then g + X 2 p else g
def bitsS (X : VV) (L : LND) : Nat → Int32
  | 0 => 0
  | n + 1 => if letS X L n then bitsS X L n ||| ((1 : Int32) <<< (nI n &&& 31)) else bitsS X L n
def bcS (x : Int32) : Int32 :=
  let u := fun (a k : Int32) => (a.toUInt32 >>> (k.toUInt32 &&& Int32.toUInt32 31)).toInt32
  let a := x - (u x 1 &&& 1431655765)
  let b := (a &&& 858993459) + (u a 2 &&& 858993459)
  let c := (b + u b 4) &&& 252645135
  let d := c + u c 8
  (d + u d 16) &&& 63
/-- the change of HEALTH: prayers less harm -/
def chgS (X : VV) (L : LND) (n : Nat) : Int32 := lsum (prayS X L) n - imax 0 (X 0 5 - bcS (bitsS X L n))
def giveS (X : VV) : VV :=
  if 0 < X 0 4 then
    (let p := (X 7 (imod (X 0 3) (X 0 4)).toNatClampNeg).toNatClampNeg
     if X 5 p = 0 then up2 (up2 X 4 p (imin 99999 (X 4 p + X 0 6))) 3 p (imin 999 (X 3 p + tforS X p (X 0 6))) else X)
  else X
def fgS (X : VV) : Nat → VV
  | 0 => X
  | n + 1 => up2 (fgS X n) 3 n (imax 0 (fgS X n 3 n - 1))
def dayS (X : VV) (L : LND) (n : Nat) : VV :=
  if X 0 1 = 0 then X else up2 (up2 (up2 (fgS (giveS X) n) 0 1 (imax 0 (imin 999 (X 0 1 + chgS X L n)))) 0 2 (imin 999 (X 0 2 + X 0 7))) 0 3 (X 0 3 + 1)
def daysS (X : VV) (L : LND) (n : Nat) : Nat → VV
  | 0 => X
  | k + 1 => dayS (daysS X L n k) L n
/-- what stands within -/
def RX (n B : Nat) (X : VV) : Prop :=
  (∀ p, p < n → (0 ≤ (X 1 p).toInt ∧ (X 1 p).toInt ≤ 6) ∧ (0 ≤ (X 2 p).toInt ∧ (X 2 p).toInt ≤ 9) ∧ (0 ≤ (X 3 p).toInt ∧ (X 3 p).toInt ≤ 999) ∧ (X 5 p = 0 ∨ X 5 p = 1)) ∧
  (0 ≤ (X 0 1).toInt ∧ (X 0 1).toInt ≤ 999) ∧ (0 ≤ (X 0 2).toInt ∧ (X 0 2).toInt ≤ 999) ∧ (0 ≤ (X 0 3).toInt ∧ (X 0 3).toInt ≤ B) ∧
  (∃ q, q ≤ 6 ∧ X 0 4 = nI q ∧ ∀ i, i < q → ∃ p, p < n ∧ X 7 i = nI p) ∧ (0 ≤ (X 0 6).toInt ∧ (X 0 6).toInt ≤ 99) ∧ (0 ≤ (X 0 7).toInt ∧ (X 0 7).toInt ≤ 99)
/-! the reference's view -/
def xM (v : VV) (n : Nat) (L : LND) : VV := fun i k => match i with
  | 0 => (match k with
    | 0 => v 116 0
    | 1 => v 116 7
    | 2 => v 116 8
    | 3 => v 116 11
    | 4 => v 116 9
    | 5 => if v 116 37 = -1 then lastS 2 5 L else v 116 37
    | 6 => if v 116 38 = -1 then lastS 3 10 L else v 116 38
    | 7 => lastS 4 1 L
    | _ => 0)
  | 1 => if k < n then v 117 k else 0
  | 2 => if k < 6 then v 118 k else 0
  | 3 => if k < 6 then v 119 k else 0
  | 4 => if k < 6 then v 120 k else 0
  | 5 => if k < 6 then v 121 k else 0
  | 6 => if k < 24 then v 122 k else 0
  | 7 => if k < 6 then v 123 k else 0
  | _ => 0
/-- land j of the reference is L -/
def repM (v : VV) (j : Nat) (L : LND) : Prop := v 125 j = nI L.length ∧ ∀ i, i < L.length → v 126 (10 * j + i) = nI (L.getD i dC).1 ∧ v 127 (10 * j + i) = nI (L.getD i dC).2.1 ∧ v 129 (10 * j + i) = nI (L.getD i dC).2.2.length ∧ ∃ o : Nat, v 128 (10 * j + i) = nI o ∧ o + (L.getD i dC).2.2.length ≤ 1000 ∧ ∀ k, k < (L.getD i dC).2.2.length → v 130 (o + k) = nI ((L.getD i dC).2.2.getD k 0)
def wfL (L : LND) : Prop := L.length ≤ 10 ∧ ∀ i, i < L.length → (L.getD i dC).1 < 5 ∧ (L.getD i dC).2.1 ≤ 99 ∧ ((L.getD i dC).1 < 2 → wft (L.getD i dC).2.2)
def curM (v : VV) (L : LND) : Prop := (v 116 15 = -1 ∧ L = []) ∨ ∃ j, j < 6 ∧ v 116 15 = nI j ∧ repM v j L
def DM (v : VV) (n B : Nat) (L : LND) : Prop := v 116 0 = nI n ∧ n ≤ 6 ∧ wfL L ∧ curM v L ∧ RX n B (xM v n L) ∧ B < 1000000
section XM
variable {v : VV} {n k : Nat} {L : LND}
theorem xM_kd (h : k < n) : xM v n L 1 k = v 117 k := if_pos h
theorem xM_v (h : k < 6) : xM v n L 2 k = v 118 k := if_pos h
theorem xM_th (h : k < 6) : xM v n L 3 k = v 119 k := if_pos h
theorem xM_got (h : k < 6) : xM v n L 4 k = v 120 k := if_pos h
theorem xM_dead (h : k < 6) : xM v n L 5 k = v 121 k := if_pos h
theorem xM_row (h : k < 24) : xM v n L 6 k = v 122 k := if_pos h
theorem xM_rnd (h : k < 6) : xM v n L 7 k = v 123 k := if_pos h
theorem xM_01 : xM v n L 0 1 = v 116 7 := rfl
theorem xM_02 : xM v n L 0 2 = v 116 8 := rfl
theorem xM_03 : xM v n L 0 3 = v 116 11 := rfl
theorem xM_04 : xM v n L 0 4 = v 116 9 := rfl
theorem xM_07 : xM v n L 0 7 = lastS 4 1 L := rfl
end XM
/-- what the reference's days don't touch stays: all but the stack -/
theorem xM_cong {v v' : VV} {n : Nat} {L : LND} (h : ∀ i, 116 ≤ i → i ≤ 123 → v' i = v i) : xM v' n L = xM v n L := by
  funext i k
  unfold xM
  rw [h 116 (by omega) (by omega), h 117 (by omega) (by omega), h 118 (by omega) (by omega), h 119 (by omega) (by omega), h 120 (by omega) (by omega), h 121 (by omega) (by omega), h 122 (by omega) (by omega), h 123 (by omega) (by omega)]
theorem repM_cong {v v' : VV} {j : Nat} {L : LND} (h : ∀ i, 125 ≤ i → i ≤ 130 → v' i = v i) (hr : repM v j L) : repM v' j L := by
  unfold repM at hr ⊢
  rw [h 125 (by omega) (by omega), h 126 (by omega) (by omega), h 127 (by omega) (by omega), h 128 (by omega) (by omega), h 129 (by omega) (by omega), h 130 (by omega) (by omega)]
  exact hr
theorem DM_stack {v : VV} {n B : Nat} {L : LND} (h : DM v n B L) (f : Nat → Int32) : DM (upc v 131 f) n B L := by
  obtain ⟨h1, h2, h3, h4, h5, h6⟩ := h
  have e : ∀ i, i ≠ 131 → upc v 131 f i = v i := fun i hi => upc_ne hi
  refine ⟨by rw [e 116 (by omega)]; exact h1, h2, h3, ?_, by rw [xM_cong (fun i _ _ => e i (by omega))]; exact h5, h6⟩
  unfold curM at h4 ⊢
  rw [e 116 (by omega)]
  rcases h4 with h4 | ⟨j, hj, a, b⟩
  · exact Or.inl h4
  · exact Or.inr ⟨j, hj, a, repM_cong (fun i _ _ => e i (by omega)) b⟩
theorem xM_stack {v : VV} {n : Nat} {L : LND} (f : Nat → Int32) : xM (upc v 131 f) n L = xM v n L := xM_cong (fun i _ _ => upc_ne (by omega))
theorem DM.stk {v v1 : VV} {n B : Nat} {L : LND} (h : DM v n B L) {f : Nat → Int32} (e : v1 = upc v 131 f) : DM v1 n B L := e ▸ DM_stack h f
theorem xM.stk {v v1 : VV} {n : Nat} {L : LND} {f : Nat → Int32} (e : v1 = upc v 131 f) : xM v1 n L = xM v n L := by rw [e, xM_stack]
