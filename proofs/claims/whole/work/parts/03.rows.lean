/-! the world: cells 0 .. NC-1 at addresses that are variables; what they hold is two functions -/
def skL : List Nat := [7, 13, 1, 9, 9, 9, 9, 9, 9, 1, 9, 9, 9, 9, 9, 9, 1, 9, 9, 9, 9, 9, 9, 1, 9, 9, 9, 9, 9, 9, 1, 9, 9, 9, 9, 9, 9, 1, 9, 9, 9, 9, 9, 9, 1, 9, 9, 9, 9, 9, 9, 6, 3, 9, 9, 9, 9, 9, 9, 9, 9, 2, 9, 9, 2, 9, 9, 2, 9, 9, 6, 3, 9, 9, 9, 9, 9, 9, 9, 9, 2, 9, 9, 2, 9, 9, 2, 9, 9, 6, 3, 9, 9, 9, 9, 9, 9, 9, 9, 2, 9, 9, 2, 9, 9, 2, 9, 9, 5, 10, 0, 9, 4, 9, 9, 12, 8, 9, 9, 9, 9, 9, 9, 9, 9, 9, 9, 9, 9, 9, 9, 11, 9, 9, 9, 9, 9, 9, 9, 9, 9, 9, 9, 9, 12]
def alL : List Nat := [0, 6, 0, 10, 10, 100, 100, 100, 16, 0, 10, 10, 100, 100, 100, 16, 0, 10, 10, 100, 100, 100, 16, 0, 10, 10, 100, 100, 100, 16, 0, 10, 10, 100, 100, 100, 16, 0, 10, 10, 100, 100, 100, 16, 0, 10, 10, 100, 100, 100, 16, 0, 0, 6, 6, 6, 6, 6, 24, 6, 6, 0, 5, 5, 0, 10, 10, 0, 8, 8, 0, 0, 6, 6, 6, 6, 6, 24, 6, 6, 0, 5, 5, 0, 10, 10, 0, 8, 8, 0, 0, 6, 6, 6, 6, 6, 24, 6, 6, 0, 5, 5, 0, 10, 10, 0, 8, 8, 0, 100, 0, 20, 0, 6, 6, 360, 0, 6, 6, 6, 6, 6, 24, 6, 100, 6, 60, 60, 60, 60, 1000, 100, 5, 5, 10, 10, 8, 8, 64, 64, 50, 20, 6, 6, 360]
def rqL : List (List Nat) := [[1, 0, 0, 0, 0], [0, 0, 0, 0, 1, 2, 3, 4, 5, 0, 6], [1, 2, 0], [0, 1, 2, 3, 4, 5, 6, 0], [1, 2, 3], [1, 0, 0], [1, 0, 0, 0, 8, 0, 200, 0, 0, 0, 9, 10, 13, 16], [2, 51, 70, 89, 0, 1, 0, 108, 110, 112], [0, 1, 2, 3, 4, 5, 6, 0, 0, 0, 7, 0, 0, 8, 0, 0, 9, 10, 11, 12, 13, 14, 0, 0, 0, 0, 0, 15, 0, 16, 17, 0, 18, 19, 0, 20, 21, 0, 0, 22, 0, 23, 24, 0, 25, 26, 27, 28]]
abbrev NC : Nat := 145
def sk (i : Nat) : Nat := skL.getD i 0
def al (i : Nat) : Nat := alL.getD i 0
def rq (K k : Nat) : Nat := (rqL.getD K []).getD k 0
def fn (K : Nat) : Nat := ([5, 11, 3, 8, 3, 3, 14, 10, 48] : List Nat).getD K 0
abbrev VV : Type := Nat → Nat → Int32
abbrev WV : Type := Nat → Nat → Int64
def up2 (v : VV) (i k : Nat) (x : Int32) : VV := fun i' k' => if i' = i ∧ k' = k then x else v i' k'
def up2L (v : WV) (i k : Nat) (x : Int64) : WV := fun i' k' => if i' = i ∧ k' = k then x else v i' k'
def upc (v : VV) (i : Nat) (f : Nat → Int32) : VV := fun i' => if i' = i then f else v i'
def upcL (v : WV) (i : Nat) (f : Nat → Int64) : WV := fun i' => if i' = i then f else v i'
theorem up2_ne {v : VV} {i k j : Nat} {x : Int32} (h : j ≠ i) : up2 v i k x j = v j := by funext a; simp [up2, h]
theorem up2_at (v : VV) (i k : Nat) (x : Int32) (j : Nat) : up2 v i k x i j = if j = k then x else v i j := by simp [up2]
theorem up2_row (v : VV) (i k : Nat) (x : Int32) : up2 v i k x i = upd (v i) k x := by funext a; simp [up2, upd]
theorem up2L_ne {v : WV} {i k j : Nat} {x : Int64} (h : j ≠ i) : up2L v i k x j = v j := by funext a; simp [up2L, h]
theorem up2L_row (v : WV) (i k : Nat) (x : Int64) : up2L v i k x i = vp_updL (v i) k x := by funext a; simp [up2L, vp_updL]
theorem upc_ne {v : VV} {i j : Nat} {f : Nat → Int32} (h : j ≠ i) : upc v i f j = v j := by simp [upc, h]
theorem upc_at (v : VV) (i : Nat) (f : Nat → Int32) : upc v i f i = f := by simp [upc]
theorem upcL_ne {v : WV} {i j : Nat} {f : Nat → Int64} (h : j ≠ i) : upcL v i f j = v j := by simp [upcL, h]
theorem upcL_at (v : WV) (i : Nat) (f : Nat → Int64) : upcL v i f i = f := by simp [upcL]
/-- where all lies: the classes' numbers, the cells' addresses, the array classes by kind, what may be written, the static arrays, the literals and their bytes -/
abbrev PL : Type := va_G × (Nat → Nat) × (Nat → ClassId) × (Nat → Prop) × (Nat → Nat) × (Nat → Nat) × (Nat → Nat)
abbrev zD (Z : PL) : va_G := Z.1
abbrev zg (Z : PL) : Nat → Nat := Z.2.1
abbrev zc (Z : PL) : Nat → ClassId := Z.2.2.1
abbrev zA (Z : PL) : Nat → Prop := Z.2.2.2.1
abbrev zt (Z : PL) : Nat → Nat := Z.2.2.2.2.1
abbrev zK (Z : PL) : Nat → Nat := Z.2.2.2.2.2.1
abbrev zV (Z : PL) : Nat → Nat := Z.2.2.2.2.2.2
def fv (g : Nat → Nat) (v : VV) (i k : Nat) : Value := if rq (sk i) k = 0 then .int (v i k) else if rq (sk i) k = 200 then .ref (g (2 + 7 * (v i k).toNatClampNeg)) else .ref (g (i + rq (sk i) k))
def ce (Z : PL) (v : VV) (w : WV) (i : Nat) : va_E :=
  if sk i < 9 then .inr (sk i, (List.range (fn (sk i))).map (fv (zg Z) v i))
  else if sk i = 12 then .inl (zc Z 12, al i, .inr (.inl (w i)))
  else if sk i = 13 then .inl (zc Z 13, al i, .inr (.inr (.inr (.inr (fun k => some (zg Z (9 + 7 * k)))))))
  else .inl (zc Z (sk i), al i, .inl (v i))
def wd (Z : PL) (v : VV) (w : WV) : va_W := (List.range NC).map (fun i => (zg Z i, ce Z v w i))
def cel (i K n : Nat) : Prop := i < NC ∧ sk i = K ∧ al i = n
theorem wd_at {Z : PL} {v : VV} {w : WV} {i : Nat} (h : i < NC) : (wd Z v w)[i]? = some (zg Z i, ce Z v w i) := by
  unfold wd
  rw [List.getElem?_map, List.getElem?_range h]
  rfl
theorem fv_congr {g : Nat → Nat} {v v' : VV} {i : Nat} (h : v' i = v i) : fv g v' i = fv g v i := by
  funext k
  unfold fv
  rw [h]
theorem ce_congr {Z : PL} {v v' : VV} {w w' : WV} {i : Nat} (h : v' i = v i) (hw : w' i = w i) : ce Z v' w' i = ce Z v w i := by
  unfold ce
  rw [fv_congr h, h, hw]
theorem wd_set {Z : PL} {v v' : VV} {w w' : WV} {i : Nat} {e : va_E} (he : ce Z v' w' i = e) (ho : ∀ j, j ≠ i → v' j = v j) (hw : ∀ j, j ≠ i → w' j = w j) : (wd Z v w).set i (zg Z i, e) = wd Z v' w' := by
  unfold wd
  apply List.ext_getElem?
  intro j
  rw [List.getElem?_set]
  by_cases hj : i = j
  · subst hj
    rw [if_pos rfl]
    by_cases h : i < NC
    · rw [List.getElem?_map, List.getElem?_range h]
      simp [he, h]
    · simp [h]
  · rw [if_neg hj]
    rw [List.getElem?_map, List.getElem?_map]
    by_cases h : j < NC
    · rw [List.getElem?_range h]
      simp [ce_congr (ho j (Ne.symm hj)) (hw j (Ne.symm hj))]
    · rw [List.getElem?_eq_none (by simp; omega)]
      rfl
theorem ce_obj {Z : PL} {v : VV} {w : WV} {i K : Nat} (hs : sk i = K) (hK : K < 9) : ce Z v w i = .inr (K, (List.range (fn K)).map (fv (zg Z) v i)) := by
  unfold ce
  rw [hs, if_pos hK]
theorem ce_arr {Z : PL} {v : VV} {w : WV} {i K n : Nat} (hs : sk i = K) (ha : al i = n) (h9 : 9 ≤ K) (h12 : K ≤ 11) : ce Z v w i = .inl (zc Z K, n, .inl (v i)) := by
  unfold ce
  rw [hs, if_neg (by omega), if_neg (by omega), if_neg (by omega), ha]
theorem ce_long {Z : PL} {v : VV} {w : WV} {i n : Nat} (hs : sk i = 12) (ha : al i = n) : ce Z v w i = .inl (zc Z 12, n, .inr (.inl (w i))) := by
  unfold ce
  rw [hs, if_neg (by omega), if_pos rfl, ha]
theorem ce_refs {Z : PL} {v : VV} {w : WV} {i n : Nat} (hs : sk i = 13) (ha : al i = n) : ce Z v w i = .inl (zc Z 13, n, .inr (.inr (.inr (.inr (fun k => some (zg Z (9 + 7 * k))))))) := by
  unfold ce
  rw [hs, if_neg (by omega), if_neg (by omega), if_pos rfl, ha]
theorem fs_at {g : Nat → Nat} {v : VV} {i N k : Nat} (hk : k < N) : ((List.range N).map (fv g v i))[k]? = some (fv g v i k) := by
  rw [List.getElem?_map, List.getElem?_range hk]
  rfl
theorem map_set {α : Type} {f f' : Nat → α} {N k : Nat} {y : α} (hy : f' k = y) (ho : ∀ j, j ≠ k → f' j = f j) : ((List.range N).map f).set k y = (List.range N).map f' := by
  apply List.ext_getElem?
  intro j
  rw [List.getElem?_set]
  by_cases hj : k = j
  · subst hj
    rw [if_pos rfl]
    by_cases h : k < N
    · rw [List.getElem?_map, List.getElem?_range h]
      simp [hy, h]
    · simp [h]
  · rw [if_neg hj, List.getElem?_map, List.getElem?_map]
    by_cases h : j < N
    · rw [List.getElem?_range h]
      simp [ho j (Ne.symm hj)]
    · rw [List.getElem?_eq_none (by simp; omega)]
      rfl
theorem fv_up2 {g : Nat → Nat} {v : VV} {i k : Nat} {x : Int32} : ∀ j, j ≠ k → fv g (up2 v i k x) i j = fv g v i j := by
  intro j hj
  unfold fv
  rw [up2_at, if_neg hj]
theorem fs_set {g : Nat → Nat} {v : VV} {i N k : Nat} {x : Int32} {y : Value} (hy : fv g (up2 v i k x) i k = y) : ((List.range N).map (fv g v i)).set k y = (List.range N).map (fv g (up2 v i k x) i) := map_set hy fv_up2
/-! classes and their words -/
def kl (K : Nat) (C : String) (T : u_T) (N : Nat) (ty : Nat → FieldType) : Prop := vwCl[K]? = some (C, T, N) ∧ N = fn K ∧ (∀ w ∈ u_ws C T N, w ∈ T0) ∧ (∀ k, k < N → parseFieldDescriptor (T k).2.2.1 = some (ty k)) ∧ (∀ a, a < N → ∀ b, b < N → a ≠ b → (T a).2.1 ≠ (T b).2.1)
theorem kl0 : kl 0 RX0 TX0 5 tyX0 := ⟨rfl, rfl, inX0, tyX0_ok, nmX0⟩
theorem kl1 : kl 1 RX1 TX1 11 tyX1 := ⟨rfl, rfl, inX1, tyX1_ok, nmX1⟩
theorem kl2 : kl 2 RX2 TX2 3 tyX2 := ⟨rfl, rfl, inX2, tyX2_ok, nmX2⟩
theorem kl3 : kl 3 RX3 TX3 8 tyX3 := ⟨rfl, rfl, inX3, tyX3_ok, nmX3⟩
theorem kl4 : kl 4 RX4 TX4 3 tyX4 := ⟨rfl, rfl, inX4, tyX4_ok, nmX4⟩
theorem kl5 : kl 5 RX5 TX5 3 tyX5 := ⟨rfl, rfl, inX5, tyX5_ok, nmX5⟩
theorem kl6 : kl 6 RX6 TX6 14 tyX6 := ⟨rfl, rfl, inX6, tyX6_ok, nmX6⟩
theorem kl7 : kl 7 RX7 TX7 10 tyX7 := ⟨rfl, rfl, inX7, tyX7_ok, nmX7⟩
theorem kl8 : kl 8 RX8 TX8 48 tyX8 := ⟨rfl, rfl, inX8, tyX8_ok, nmX8⟩

/-- a field link: read -/
def fld (own : String) (idx K k : Nat) : Prop := ∃ (C : String) (T : u_T) (N : Nat) (ty : Nat → FieldType), kl K C T N ty ∧ k < N ∧ Cond.fieldLink own idx (T k).1 (T k).2.1 (T k).2.2.1 ∈ T0
/-- a field link: written, of a type -/
def fldw (own : String) (idx K k : Nat) (ft : FieldType) : Prop := ∃ (C : String) (T : u_T) (N : Nat) (ty : Nat → FieldType), kl K C T N ty ∧ k < N ∧ Cond.fieldLink own idx (T k).1 (T k).2.1 (T k).2.2.1 ∈ T0 ∧ (T k).2.2.2 = false ∧ parseFieldDescriptor (T k).2.2.1 = some ft
/-! what stands beside the world: nest links, statics, literals -/
def nestM : List (String × Nat × MethodName) := [(RX1, 52, yX7_isWithin), (RX6, 150, yX7_isWithin), (RX6, 137, yX7_between), (RX4, 20, yX7_between), (RX7, 39, yX5_init), (RX7, 46, yX0_init)]
def strT : List String := ["open", "shut", "cold", "pocket", "stink", "pkvtsd", "<=>", "open ", "shut ", "cold ", "pocket ", "stink "]
def strE : List (String × Nat × Nat) := [(RX5, 82, 0), (RX5, 84, 1), (RX5, 86, 2), (RX5, 87, 3), (RX5, 88, 4), (RX5, 98, 5), (RX5, 104, 6), (RX8, 204, 7), (RX8, 210, 8), (RX8, 212, 9), (RX8, 214, 10), (RX8, 216, 11), (RX8, 173, 5), (RX8, 178, 6)]
def strL : List Nat := [4, 4, 4, 6, 5, 6, 3, 5, 5, 5, 7, 6]
def strB : List (List Int32) := [[111, 112, 101, 110], [115, 104, 117, 116], [99, 111, 108, 100], [112, 111, 99, 107, 101, 116], [115, 116, 105, 110, 107], [112, 107, 118, 116, 115, 100], [60, 61, 62], [111, 112, 101, 110, 32], [115, 104, 117, 116, 32], [99, 111, 108, 100, 32], [112, 111, 99, 107, 101, 116, 32], [115, 116, 105, 110, 107, 32]]
def abvL : List Int32 := [-1, 0, 0, 0, 1, 2, 3]
def bodL : List Int32 := [10, 11, 12, 0, 20, 0, 30, 0, 0, 0, 0, 40, 50, 51, 0, 0, 0, 60, 71, 70, 0]
def SB (Z : PL) (U : State) (H : Heap) : Prop := va_Z RX7 "ABOVE" "[I" (.ref (zt Z 0)) (zA Z) U H ∧ va_T .int (zt Z 0) 7 (fun j => .int (abvL.getD j 0)) (zA Z) U H ∧ va_Z RX0 "BODY" "[I" (.ref (zt Z 1)) (zA Z) U H ∧ va_T .int (zt Z 1) 21 (fun j => .int (bodL.getD j 0)) (zA Z) U H ∧ va_Z RJ0 "COMPACT_STRINGS" "Z" (.int 1) (zA Z) U H ∧ va_Zq RJ3 "SIOOBE_FORMATTER" "Ljava/util/function/BiFunction;" (zA Z) U H ∧ vk_S 12 strL strB (zK Z) (zV Z) (zA Z) U H
theorem SB.moved {Z : PL} {u U : State} {H : Heap} (hvm : u.vm.Alike U.vm) (h : SB Z u H) : SB Z U H := ⟨va_Z.moved hvm h.1, va_T.moved hvm h.2.1, va_Z.moved hvm h.2.2.1, va_T.moved hvm h.2.2.2.1, va_Z.moved hvm h.2.2.2.2.1, va_Zq.moved hvm h.2.2.2.2.2.1, vk_S.moved hvm h.2.2.2.2.2.2⟩
theorem SB.kept {Z : PL} {U : State} {H H1 : Heap} (h : SB Z U H) (hq : ∀ a : Nat, a < H.size → ¬ zA Z a → H1[a]? = H[a]?) : SB Z U H1 := ⟨h.1.kept hq, h.2.1.kept hq, h.2.2.1.kept hq, h.2.2.2.1.kept hq, h.2.2.2.2.1.kept hq, h.2.2.2.2.2.1.kept hq, h.2.2.2.2.2.2.kept hq⟩
def tys (Z : PL) : List (ClassId × FieldType) := [(zc Z 9, .int), (zc Z 10, .byte), (zc Z 11, .boolean), (zc Z 12, .long), (zc Z 13, .object RX1)]
def NS (Z : PL) (U : State) : Prop := (∀ q ∈ nestM, va_Nw (.methodLinkNest q.1 q.2.1 q.2.2 RX7) U) ∧ va_Nw (.fieldLinkNest RX0 48 RX7 "ABOVE" "[I" RX7) U ∧ ∀ q ∈ strE, vk_R q.1 q.2.1 (strT.getD q.2.2 "") (zK Z q.2.2) U
def Zo (Z : PL) : Prop := (∀ i j, i < NC → j < NC → zg Z i = zg Z j → i = j) ∧ ∀ i, i < NC → zA Z (zg Z i)
def TB (Z : PL) (U : State) : Prop := Zo Z ∧ va_K (zD Z) vwCl (tys Z) U ∧ NS Z U ∧ SB Z U U.heap
theorem NS.warm {Z : PL} {s U : State} (hW : s.WarmedH U.vm) (h : NS Z s) : NS Z U := ⟨fun q hq => va_Nw.warmM hW (h.1 q hq), va_Nw.warmF hW h.2.1, fun q hq => vk_R.warm hW (h.2.2 q hq)⟩
theorem NS.same {Z : PL} {u U : State} (hv : u.vm = U.vm) (h : NS Z u) : NS Z U := ⟨fun q hq => va_Nw.same rfl hv (h.1 q hq), va_Nw.same rfl hv h.2.1, fun q hq => vk_R.same hv.symm (h.2.2 q hq)⟩
theorem TB.calling {Z : PL} {U : State} {g : JFrame} {mk : MethodId} {a : Array Value} (h : TB Z U) : TB Z (U.calling g mk a) := ⟨h.1, va_K.moved (u := U) (U := U.calling g mk a) (Vm.Alike.refl U.vm) h.2.1, NS.same (u := U) (U := U.calling g mk a) rfl h.2.2.1, SB.moved (u := U) (U := U.calling g mk a) (Vm.Alike.refl U.vm) h.2.2.2⟩
theorem wdD {Z : PL} {v : VV} {w : WV} (h : Zo Z) : va_D (zA Z) (wd Z v w) := by
  have key : ∀ (k : Nat) (q : Nat × va_E), (wd Z v w)[k]? = some q → k < NC ∧ q.1 = zg Z k := by
    intro k q hk
    by_cases hc : k < NC
    · rw [wd_at hc] at hk
      cases hk
      exact ⟨hc, rfl⟩
    · unfold wd at hk
      rw [List.getElem?_eq_none (by simp; omega)] at hk
      cases hk
  refine ⟨fun i j p q hp hq e => ?_, fun k q hk => ?_⟩
  · obtain ⟨h1, h2⟩ := key i p hp
    obtain ⟨h3, h4⟩ := key j q hq
    exact h.1 i j h1 h3 (by rw [← h2, ← h4]; exact e)
  · obtain ⟨h1, h2⟩ := key k q hk
    rw [h2]
    exact h.2 k h1
/-! the walk's standing facts, and the moving one -/
def Cx (Z : PL) (p : Program) (s : State) (m : MethodId) (args : Array Value) (meth : Method) (c : Code) (cc : ByteArray) (nL : Nat) (own : String) (ret : Option FieldType) : Prop := p.tables.exec = Jvm.exec ∧ c.code = cc ∧ c.maxLocals = nL ∧ s.vm.findClass own = some m.cls ∧ (∀ w ∈ T0, w.before args s = true) ∧ TB Z s ∧ meth.sig.returnType = ret ∧ meth.locks = false
def HS (Z : PL) (s : State) (v : VV) (w : WV) (H : Heap) (locs : List Loc) : Prop := va_P (zD Z) vwCl (wd Z v w) H ∧ va_S (zA Z) s.heap H locs
def IN (Z : PL) (v : VV) (w : WV) (U : State) : Prop := va_P (zD Z) vwCl (wd Z v w) U.heap ∧ TB Z U
abbrev VW : Type := VV × WV
def OUT (Z : PL) : VW → State → Prop := fun u t => va_P (zD Z) vwCl (wd Z u.1 u.2) t.heap
abbrev Qi (Z : PL) (post : Int32 → VW → Prop) : Array Value → State → Outcome → State → Prop := va_Qi post (OUT Z) (zA Z)
abbrev Ql (Z : PL) (post : Int64 → VW → Prop) : Array Value → State → Outcome → State → Prop := va_Ql post (OUT Z) (zA Z)
abbrev Qv (Z : PL) (post : VW → Prop) : Array Value → State → Outcome → State → Prop := va_Qv post (OUT Z) (zA Z)
abbrev rmm (fr lo : Nat) : Room := { frames := fr, cells := 0, slots := 0, locals := lo }
def CT (l : Launch) (y : MethodName) (b : ByteArray) (n : Nat) (ret : Option FieldType) (fr lo : Nat) (Z : PL) (av : List Value) (v : VV) (w : WV) (Qc : Array Value → State → Outcome → State → Prop) : Prop := Met l y (.code y b n ret :: T0) (rmm fr lo) (va_Pc av (IN Z v w)) Qc 0 0 (zA Z)
theorem IN.blind {Z : PL} {v : VV} {w : WV} {av : List Value} : FrameBlind (va_Pc av (IN Z v w)) := fun _ _ _ _ q => ⟨q.1, q.2.1, q.2.2.calling⟩
section RW
variable {Z : PL} {p : Program} {l : Launch} {e : Env} {R : Room} {s : State} {m : MethodId} {args : Array Value} {below : List Frame} {meth : Method} {c : Code} {H : Heap} {locs : List Loc} {Q : State → Prop} {cc : ByteArray} {nL : Nat} {own : String} {ret : Option FieldType} {pc : Nat} {ls : Array Slot} {rest : List Value} {v : VV} {w : WV}
theorem Cx.tb (X : Cx Z p s m args meth c cc nL own ret) : TB Z s := X.2.2.2.2.2.1
theorem Cx.K (X : Cx Z p s m args meth c cc nL own ret) : va_K (zD Z) vwCl (tys Z) s := X.tb.2.1
theorem Cx.ts (X : Cx Z p s m args meth c cc nL own ret) : ∀ w ∈ T0, w.before args s = true := X.2.2.2.2.1
theorem Cx.ow (X : Cx Z p s m args meth c cc nL own ret) : s.vm.findClass own = some m.cls := X.2.2.2.1
/-- the start of a method -/
theorem g_met {y : MethodName} {b : ByteArray} {n fr lo : Nat} {av : List Value} {Qc : Array Value → State → Outcome → State → Prop} (hy : plainName y.cls = true) (hlen : (lg_sl av).length ≤ n) (body : ∀ (p : Program) (e : Env) (s : State) (m : MethodId) (args : Array Value) (below : List Frame) (meth : Method) (c : Code), Cx Z p s m args meth c b n y.cls ret → HS Z s v w s.heap [] → ∀ ls : Array Slot, lv_has ls n (lv_args 0 av) → W p l e (rmm fr lo) s m args below meth c s.heap [] 0 0 (MQ below Qc args s 0 0 (zA Z)) (F0 m 0 ls [])) : CT l y b n ret fr lo Z av v w Qc := by
  refine Met.ofW (cc := b) (maxL := n) (ret := ret) hy rfl ?_
  intro p e s m args below meth c s₁ B hml hv
  obtain ⟨rfl, hP, hT⟩ := hv
  have hl := lv_entry av (n := n) hlen
  rw [lg_entry_eq]
  have hts := atoms_spec (ws := .code y b n ret :: T0) B.pre
  exact body p e s m _ below meth c ⟨B.exec, B.bytes, hml, findClass_of_methodNamed B.named, fun w h => hts w (List.mem_cons_of_mem _ h), hT, B.returns, B.notSynchronized⟩ ⟨hP, va_S.rf⟩ _ hl
theorem g_end (h : HS Z s v w H locs) (t : State) (ht : t.heap = H) : OUT Z (v, w) t ∧ va_F (zA Z) s t := ⟨by show va_P _ _ _ t.heap; rw [ht]; exact h.1, h.2.F ht⟩
theorem g_iret (X : Cx Z p s m args meth c cc nL own (some .int)) (h : HS Z s v w H locs) {r : Int32} {post : Int32 → VW → Prop} (hdg : decode cc pc = .ok (.ireturn, 1)) (hp : post r (v, w)) : W p l e R s m args below meth c H locs 0 0 (MQ below (Qi Z post) args s 0 0 (zA Z)) (F0 m pc ls [.int r]) :=
  W.iret X.1 X.2.1 X.2.2.2.2.2.2.1 (fun t ht _ => ⟨⟨r, (v, w), rfl, hp, (g_end h t ht).1⟩, (g_end h t ht).2⟩) h.2.2.2 hdg X.2.2.2.2.2.2.2
theorem g_nret {ty : FieldType} (X : Cx Z p s m args meth c cc nL own (some ty)) (h : HS Z s v w H locs) {r : Int32} {post : Int32 → VW → Prop} (hdg : decode cc pc = .ok (.ireturn, 1)) (hn : narrow ty (.int r) = .int r) (hp : post r (v, w)) : W p l e R s m args below meth c H locs 0 0 (MQ below (Qi Z post) args s 0 0 (zA Z)) (F0 m pc ls [.int r]) :=
  W.zret X.1 X.2.1 X.2.2.2.2.2.2.1 hn (fun t ht _ => ⟨⟨r, (v, w), rfl, hp, (g_end h t ht).1⟩, (g_end h t ht).2⟩) h.2.2.2 hdg X.2.2.2.2.2.2.2
theorem g_lret (X : Cx Z p s m args meth c cc nL own (some .long)) (h : HS Z s v w H locs) {r : Int64} {post : Int64 → VW → Prop} (hdg : decode cc pc = .ok (.lreturn, 1)) (hp : post r (v, w)) : W p l e R s m args below meth c H locs 0 0 (MQ below (Ql Z post) args s 0 0 (zA Z)) (F0 m pc ls [.long r]) :=
  W.lret X.1 X.2.1 X.2.2.2.2.2.2.1 (fun t ht _ => ⟨⟨r, (v, w), rfl, hp, (g_end h t ht).1⟩, (g_end h t ht).2⟩) h.2.2.2 hdg X.2.2.2.2.2.2.2
theorem g_vret (X : Cx Z p s m args meth c cc nL own none) (h : HS Z s v w H locs) {post : VW → Prop} (hdg : decode cc pc = .ok (.return_, 1)) (hp : post (v, w)) : W p l e R s m args below meth c H locs 0 0 (MQ below (Qv Z post) args s 0 0 (zA Z)) (F0 m pc ls []) :=
  W.vret X.1 X.2.1 X.2.2.2.2.2.2.1 (fun t ht _ => ⟨⟨(v, w), rfl, hp, (g_end h t ht).1⟩, (g_end h t ht).2⟩) h.2.2.2 hdg X.2.2.2.2.2.2.2
theorem g_tr {x y : Int32} (e9 : x = y) (kk : W p l e R s m args below meth c H locs 0 0 Q (F0 m pc ls (.int y :: rest))) : W p l e R s m args below meth c H locs 0 0 Q (F0 m pc ls (.int x :: rest)) := e9 ▸ kk
/-! fields -/
theorem g_get (X : Cx Z p s m args meth c cc nL own ret) (h : HS Z s v w H locs) {i K n k idx : Nat} {y : Value} (hc : cel i K n) (hK : K < 9) (hf : fld own idx K k) (hy : fv (zg Z) v i k = y) (hdg : decode cc pc = .ok (.getfield idx, 3)) (kk : W p l e R s m args below meth c H locs 0 0 Q (F0 m (pc + 3) ls (y :: rest))) : W p l e R s m args below meth c H locs 0 0 Q (F0 m pc ls (.ref (zg Z i) :: rest)) := by
  obtain ⟨C, T, N, ty, ⟨h1, h2, h3, h4, h5⟩, h6, h7⟩ := hf
  subst hy
  exact va_get (C := C) (T := T) (N := N) (ci := K) X.1 X.2.1 X.ts h3 X.ow X.K h.1 i (by rw [wd_at hc.1, ce_obj hc.2.1 hK]) h1 k h6 (X.ts _ h7) (fun _ h9 => h9) (fs_at (by rw [← h2]; exact h6)) hdg kk
theorem g_geti (X : Cx Z p s m args meth c cc nL own ret) (h : HS Z s v w H locs) {i K n k idx : Nat} (hc : cel i K n) (hf : fld own idx K k) (hr : rq K k = 0) (hK : K < 9) (hdg : decode cc pc = .ok (.getfield idx, 3)) (kk : W p l e R s m args below meth c H locs 0 0 Q (F0 m (pc + 3) ls (.int (v i k) :: rest))) : W p l e R s m args below meth c H locs 0 0 Q (F0 m pc ls (.ref (zg Z i) :: rest)) :=
  g_get X h hc hK hf (by unfold fv; rw [hc.2.1, if_pos hr]) hdg kk
theorem g_getr (X : Cx Z p s m args meth c cc nL own ret) (h : HS Z s v w H locs) {i K n k idx t : Nat} (hc : cel i K n) (hf : fld own idx K k) (ht : i + rq K k = t) (h0 : rq K k ≠ 0) (h2 : rq K k ≠ 200) (hK : K < 9) (hdg : decode cc pc = .ok (.getfield idx, 3)) (kk : W p l e R s m args below meth c H locs 0 0 Q (F0 m (pc + 3) ls (.ref (zg Z t) :: rest))) : W p l e R s m args below meth c H locs 0 0 Q (F0 m pc ls (.ref (zg Z i) :: rest)) :=
  g_get X h hc hK hf (by unfold fv; rw [hc.2.1, if_neg h0, if_neg h2, ht]) hdg kk
theorem g_getl (X : Cx Z p s m args meth c cc nL own ret) (h : HS Z s v w H locs) {i K n k idx j : Nat} (hc : cel i K n) (hf : fld own idx K k) (hr : rq K k = 200) (hK : K < 9) (hj : (v i k).toNatClampNeg = j) (hdg : decode cc pc = .ok (.getfield idx, 3)) (kk : W p l e R s m args below meth c H locs 0 0 Q (F0 m (pc + 3) ls (.ref (zg Z (2 + 7 * j)) :: rest))) : W p l e R s m args below meth c H locs 0 0 Q (F0 m pc ls (.ref (zg Z i) :: rest)) :=
  g_get X h hc hK hf (by unfold fv; rw [hc.2.1, hr, if_neg (by omega), if_pos rfl, hj]) hdg kk
theorem g_put (X : Cx Z p s m args meth c cc nL own ret) (h : HS Z s v w H locs) {i K n k idx : Nat} {x : Int32} {y : Value} {ft : FieldType} (hc : cel i K n) (hK : K < 9) (hf : fldw own idx K k ft) (hy : fv (zg Z) (up2 v i k x) i k = y) (hn : narrow ft y = y) (hfit : fits ft y = true) (hdg : decode cc pc = .ok (.putfield idx, 3)) (kk : ∀ (v1 : VV) (H1 : Heap) (locs1 : List Loc), v1 = up2 v i k x → HS Z s v1 w H1 locs1 → W p l e R s m args below meth c H1 locs1 0 0 Q (F0 m (pc + 3) ls rest)) : W p l e R s m args below meth c H locs 0 0 Q (F0 m pc ls (y :: .ref (zg Z i) :: rest)) := by
  obtain ⟨C, T, N, ty, ⟨h1, h2, h3, h4, h5⟩, h6, h7, h8, h9⟩ := hf
  refine va_put (C := C) (T := T) (N := N) (ci := K) (ty := ft) X.1 X.2.1 X.ts h3 ty h4 h5 X.ow X.K h.1 (wdD X.tb.1) h.2 i (by rw [wd_at hc.1, ce_obj hc.2.1 hK]) h1 k h6 (X.ts _ h7) (fun _ h9 => h9) h8 h9 hn hfit (by simp; rw [← h2]; exact h6) hdg (fun H1 locs1 hP _ hS => ?_)
  refine kk _ H1 locs1 rfl ⟨?_, hS⟩
  rw [fs_set hy, wd_set (v' := up2 v i k x) (w' := w) (ce_obj hc.2.1 hK) (fun j hj => up2_ne hj) (fun _ _ => rfl)] at hP
  exact hP
theorem g_puti (X : Cx Z p s m args meth c cc nL own ret) (h : HS Z s v w H locs) {i K n k idx : Nat} {x : Int32} (hc : cel i K n) (hf : fldw own idx K k .int) (hr : rq K k = 0) (hK : K < 9) (hdg : decode cc pc = .ok (.putfield idx, 3)) (kk : ∀ (v1 : VV) (H1 : Heap) (locs1 : List Loc), v1 = up2 v i k x → HS Z s v1 w H1 locs1 → W p l e R s m args below meth c H1 locs1 0 0 Q (F0 m (pc + 3) ls rest)) : W p l e R s m args below meth c H locs 0 0 Q (F0 m pc ls (.int x :: .ref (zg Z i) :: rest)) :=
  g_put X h hc hK hf (by unfold fv; rw [hc.2.1, if_pos hr]; simp [up2]) rfl rfl hdg kk
theorem g_putz (X : Cx Z p s m args meth c cc nL own ret) (h : HS Z s v w H locs) {i K n k idx : Nat} {x : Int32} (hc : cel i K n) (hf : fldw own idx K k .boolean) (hr : rq K k = 0) (hK : K < 9) (hn : narrow .boolean (.int x) = .int x) (hfit : fits .boolean (.int x) = true) (hdg : decode cc pc = .ok (.putfield idx, 3)) (kk : ∀ (v1 : VV) (H1 : Heap) (locs1 : List Loc), v1 = up2 v i k x → HS Z s v1 w H1 locs1 → W p l e R s m args below meth c H1 locs1 0 0 Q (F0 m (pc + 3) ls rest)) : W p l e R s m args below meth c H locs 0 0 Q (F0 m pc ls (.int x :: .ref (zg Z i) :: rest)) :=
  g_put X h hc hK hf (by unfold fv; rw [hc.2.1, if_pos hr]; simp [up2]) hn hfit hdg kk
theorem g_putl (X : Cx Z p s m args meth c cc nL own ret) (h : HS Z s v w H locs) {i K n k idx j : Nat} {C : String} (hc : cel i K n) (hf : fldw own idx K k (.object C)) (hr : rq K k = 200) (hK : K < 9) (hj : j < 2 ^ 31) (hdg : decode cc pc = .ok (.putfield idx, 3)) (kk : ∀ (v1 : VV) (H1 : Heap) (locs1 : List Loc), v1 = up2 v i k (nI j) → HS Z s v1 w H1 locs1 → W p l e R s m args below meth c H1 locs1 0 0 Q (F0 m (pc + 3) ls rest)) : W p l e R s m args below meth c H locs 0 0 Q (F0 m pc ls (.ref (zg Z (2 + 7 * j)) :: .ref (zg Z i) :: rest)) :=
  g_put X h hc hK hf (by unfold fv; rw [hc.2.1, hr, if_neg (by omega), if_pos rfl]; simp [up2, nI_clamp hj]) rfl rfl hdg kk
/-! arrays -/
theorem ty_at (K : Nat) (h9 : 9 ≤ K) (h : K ≤ 11) : ∃ ft : FieldType, (tys Z)[K - 9]? = some (zc Z K, ft) := by
  rcases (show K = 9 ∨ K = 10 ∨ K = 11 by omega) with rfl | rfl | rfl <;> exact ⟨_, rfl⟩
theorem g_iald (X : Cx Z p s m args meth c cc nL own ret) (h : HS Z s v w H locs) {i n k : Nat} {x : Int32} (hc : cel i 9 n) (hx : x = nI k) (hk : k < n) (hn : n < 2000) (hdg : decode cc pc = .ok (.iaload, 1)) (kk : W p l e R s m args below meth c H locs 0 0 Q (F0 m (pc + 1) ls (.int (v i k) :: rest))) : W p l e R s m args below meth c H locs 0 0 Q (F0 m pc ls (.int x :: .ref (zg Z i) :: rest)) := by
  subst hx
  refine va_iald X.1 X.2.1 X.K h.1 i 0 (by rw [wd_at hc.1, ce_arr hc.2.1 hc.2.2 (by omega) (by omega)]) rfl (vp_in_nI hk (by omega)) hdg ?_
  rw [nI_clamp (by omega)]
  exact kk
theorem g_bald (X : Cx Z p s m args meth c cc nL own ret) (h : HS Z s v w H locs) {i n k : Nat} {x : Int32} (hc : cel i 10 n) (hx : x = nI k) (hk : k < n) (hn : n < 2000) (hdg : decode cc pc = .ok (.baload, 1)) (kk : W p l e R s m args below meth c H locs 0 0 Q (F0 m (pc + 1) ls (.int (v i k) :: rest))) : W p l e R s m args below meth c H locs 0 0 Q (F0 m pc ls (.int x :: .ref (zg Z i) :: rest)) := by
  subst hx
  refine va_bald X.1 X.2.1 X.K h.1 i 1 (by rw [wd_at hc.1, ce_arr hc.2.1 hc.2.2 (by omega) (by omega)]) rfl (vp_in_nI hk (by omega)) hdg ?_
  rw [nI_clamp (by omega)]
  exact kk
theorem g_zald (X : Cx Z p s m args meth c cc nL own ret) (h : HS Z s v w H locs) {i n k : Nat} {x : Int32} (hc : cel i 11 n) (hx : x = nI k) (hk : k < n) (hn : n < 2000) (hdg : decode cc pc = .ok (.baload, 1)) (kk : W p l e R s m args below meth c H locs 0 0 Q (F0 m (pc + 1) ls (.int (v i k) :: rest))) : W p l e R s m args below meth c H locs 0 0 Q (F0 m pc ls (.int x :: .ref (zg Z i) :: rest)) := by
  subst hx
  refine va_zald X.1 X.2.1 X.K h.1 i 2 (by rw [wd_at hc.1, ce_arr hc.2.1 hc.2.2 (by omega) (by omega)]) rfl (vp_in_nI hk (by omega)) hdg ?_
  rw [nI_clamp (by omega)]
  exact kk
theorem g_lald (X : Cx Z p s m args meth c cc nL own ret) (h : HS Z s v w H locs) {i n k : Nat} {x : Int32} (hc : cel i 12 n) (hx : x = nI k) (hk : k < n) (hn : n < 2000) (hdg : decode cc pc = .ok (.laload, 1)) (kk : W p l e R s m args below meth c H locs 0 0 Q (F0 m (pc + 1) ls (.long (w i k) :: rest))) : W p l e R s m args below meth c H locs 0 0 Q (F0 m pc ls (.int x :: .ref (zg Z i) :: rest)) := by
  subst hx
  refine va_lald X.1 X.2.1 X.K h.1 i 3 (by rw [wd_at hc.1, ce_long hc.2.1 hc.2.2]) rfl (vp_in_nI hk (by omega)) hdg ?_
  rw [nI_clamp (by omega)]
  exact kk
theorem g_aald (X : Cx Z p s m args meth c cc nL own ret) (h : HS Z s v w H locs) {i n k : Nat} {x : Int32} (hc : cel i 13 n) (hx : x = nI k) (hk : k < n) (hn : n < 2000) (hdg : decode cc pc = .ok (.aaload, 1)) (kk : W p l e R s m args below meth c H locs 0 0 Q (F0 m (pc + 1) ls (.ref (zg Z (9 + 7 * k)) :: rest))) : W p l e R s m args below meth c H locs 0 0 Q (F0 m pc ls (.int x :: .ref (zg Z i) :: rest)) := by
  subst hx
  refine va_aldq X.1 X.2.1 X.K h.1 i 4 (C := RX1) (by rw [wd_at hc.1, ce_refs hc.2.1 hc.2.2]) rfl (vp_in_nI hk (by omega)) hdg ?_
  rw [nI_clamp (by omega)]
  exact kk
theorem g_alen (X : Cx Z p s m args meth c cc nL own ret) (h : HS Z s v w H locs) {i K n : Nat} (hc : cel i K n) (h9 : 9 ≤ K) (h11 : K ≤ 11) (hdg : decode cc pc = .ok (.arraylength, 1)) (kk : W p l e R s m args below meth c H locs 0 0 Q (F0 m (pc + 1) ls (.int (nI n) :: rest))) : W p l e R s m args below meth c H locs 0 0 Q (F0 m pc ls (.ref (zg Z i) :: rest)) := by
  obtain ⟨ft, hft⟩ := ty_at (Z := Z) K h9 h11
  exact va_alen (x := (n, .inl (v i))) X.1 X.2.1 X.K h.1 i (K - 9) (by rw [wd_at hc.1, ce_arr hc.2.1 hc.2.2 h9 h11]) hft rfl hdg kk
theorem g_iast (X : Cx Z p s m args meth c cc nL own ret) (h : HS Z s v w H locs) {i n k : Nat} {x y : Int32} (hc : cel i 9 n) (hx : x = nI k) (hk : k < n) (hn : n < 2000) (hdg : decode cc pc = .ok (.iastore, 1)) (kk : ∀ (v1 : VV) (H1 : Heap) (locs1 : List Loc), v1 = up2 v i k y → HS Z s v1 w H1 locs1 → W p l e R s m args below meth c H1 locs1 0 0 Q (F0 m (pc + 1) ls rest)) : W p l e R s m args below meth c H locs 0 0 Q (F0 m pc ls (.int y :: .int x :: .ref (zg Z i) :: rest)) := by
  subst hx
  refine va_iast X.1 X.2.1 X.K h.1 (wdD X.tb.1) h.2 i 0 (by rw [wd_at hc.1, ce_arr hc.2.1 hc.2.2 (by omega) (by omega)]) rfl (vp_in_nI hk (by omega)) hdg (fun H1 locs1 hP _ hS => kk _ H1 locs1 rfl ⟨?_, hS⟩)
  rw [nI_clamp (by omega), wd_set (v' := up2 v i k y) (w' := w) (by rw [ce_arr hc.2.1 hc.2.2 (by omega) (by omega), up2_row]) (fun j hj => up2_ne hj) (fun _ _ => rfl)] at hP
  exact hP
theorem g_bast (X : Cx Z p s m args meth c cc nL own ret) (h : HS Z s v w H locs) {i n k : Nat} {x y : Int32} (hc : cel i 10 n) (hx : x = nI k) (hk : k < n) (hn : n < 2000) (hdg : decode cc pc = .ok (.bastore, 1)) (kk : ∀ (v1 : VV) (H1 : Heap) (locs1 : List Loc), v1 = up2 v i k (vp_nar .byte y) → HS Z s v1 w H1 locs1 → W p l e R s m args below meth c H1 locs1 0 0 Q (F0 m (pc + 1) ls rest)) : W p l e R s m args below meth c H locs 0 0 Q (F0 m pc ls (.int y :: .int x :: .ref (zg Z i) :: rest)) := by
  subst hx
  refine va_bast X.1 X.2.1 X.K h.1 (wdD X.tb.1) h.2 i 1 (by rw [wd_at hc.1, ce_arr hc.2.1 hc.2.2 (by omega) (by omega)]) rfl (vp_in_nI hk (by omega)) hdg (fun H1 locs1 hP _ hS => kk _ H1 locs1 rfl ⟨?_, hS⟩)
  rw [nI_clamp (by omega), wd_set (v' := up2 v i k (vp_nar .byte y)) (w' := w) (by rw [ce_arr hc.2.1 hc.2.2 (by omega) (by omega), up2_row]) (fun j hj => up2_ne hj) (fun _ _ => rfl)] at hP
  exact hP
theorem g_zast (X : Cx Z p s m args meth c cc nL own ret) (h : HS Z s v w H locs) {i n k : Nat} {x y : Int32} (hc : cel i 11 n) (hx : x = nI k) (hk : k < n) (hn : n < 2000) (hdg : decode cc pc = .ok (.bastore, 1)) (kk : ∀ (v1 : VV) (H1 : Heap) (locs1 : List Loc), v1 = up2 v i k (vp_nar .boolean y) → HS Z s v1 w H1 locs1 → W p l e R s m args below meth c H1 locs1 0 0 Q (F0 m (pc + 1) ls rest)) : W p l e R s m args below meth c H locs 0 0 Q (F0 m pc ls (.int y :: .int x :: .ref (zg Z i) :: rest)) := by
  subst hx
  refine va_zast X.1 X.2.1 X.K h.1 (wdD X.tb.1) h.2 i 2 (by rw [wd_at hc.1, ce_arr hc.2.1 hc.2.2 (by omega) (by omega)]) rfl (vp_in_nI hk (by omega)) hdg (fun H1 locs1 hP _ hS => kk _ H1 locs1 rfl ⟨?_, hS⟩)
  rw [nI_clamp (by omega), wd_set (v' := up2 v i k (vp_nar .boolean y)) (w' := w) (by rw [ce_arr hc.2.1 hc.2.2 (by omega) (by omega), up2_row]) (fun j hj => up2_ne hj) (fun _ _ => rfl)] at hP
  exact hP
theorem g_last (X : Cx Z p s m args meth c cc nL own ret) (h : HS Z s v w H locs) {i n k : Nat} {x : Int32} {y : Int64} (hc : cel i 12 n) (hx : x = nI k) (hk : k < n) (hn : n < 2000) (hdg : decode cc pc = .ok (.lastore, 1)) (kk : ∀ (w1 : WV) (H1 : Heap) (locs1 : List Loc), w1 = up2L w i k y → HS Z s v w1 H1 locs1 → W p l e R s m args below meth c H1 locs1 0 0 Q (F0 m (pc + 1) ls rest)) : W p l e R s m args below meth c H locs 0 0 Q (F0 m pc ls (.long y :: .int x :: .ref (zg Z i) :: rest)) := by
  subst hx
  refine va_last X.1 X.2.1 X.K h.1 (wdD X.tb.1) h.2 i 3 (by rw [wd_at hc.1, ce_long hc.2.1 hc.2.2]) rfl (vp_in_nI hk (by omega)) hdg (fun H1 locs1 hP _ hS => kk _ H1 locs1 rfl ⟨?_, hS⟩)
  rw [nI_clamp (by omega), wd_set (v' := v) (w' := up2L w i k y) (by rw [ce_long hc.2.1 hc.2.2, up2L_row]) (fun _ _ => rfl) (fun j hj => up2L_ne hj)] at hP
  exact hP
/-! calls -/
/-- what a call's words say: all in T0 -/
def mc (y : MethodName) (b : ByteArray) (n : Nat) (ret : Option FieldType) (np : Nat) : Prop := Cond.code y b n ret ∈ T0 ∧ Cond.initialized y.cls ∈ T0 ∧ y.cls ≠ "java/lang/invoke/MethodHandle" ∧ y.cls ≠ "java/lang/invoke/VarHandle" ∧ (parseMethodDescriptor y.desc).map (fun d => d.parameters.length) = some np
def mcI (y : MethodName) (b : ByteArray) (n : Nat) (ret : Option FieldType) (np : Nat) : Prop := mc y b n ret np ∧ Cond.instanceMethod y ∈ T0 ∧ Cond.selects y.cls y y ∈ T0
def mcS (y : MethodName) (b : ByteArray) (n : Nat) (ret : Option FieldType) (np : Nat) : Prop := mc y b n ret np ∧ Cond.static y ∈ T0
theorem g_payT (ht : ∀ w ∈ T0, w.before args s = true) {x : Cond} (hx : x ∈ T0) : ∀ w ∈ x :: T0, ∀ (a' : Array Value) (U : State), s.WarmedH U.vm → w.before a' U = true := by
  refine pay_in ht (fun w hw => ?_)
  rcases List.mem_cons.mp hw with rfl | h
  · exact T0_good _ hx
  · exact T0_good _ h
theorem g_pre (hS : HS Z s v w H locs) (hT : TB Z s) (av : List Value) : ∀ U : State, U.heap = H → s.WarmedH U.vm → va_Pc av (IN Z v w) av.toArray U := fun U hU hW => ⟨rfl, by rw [hU]; exact hS.1, hT.1, va_K.moved hW.alike hT.2.1, NS.warm hW hT.2.2.1, by rw [hU]; exact SB.moved hW.alike (hT.2.2.2.kept hS.2.2.1)⟩
abbrev RunS (p : Program) (l : Launch) (e : Env) (R : Room) (s : State) (m : MethodId) (args : Array Value) (below : List Frame) (meth : Method) (c : Code) (H : Heap) (locs : List Loc) (g : JFrame) (rest : List Value) (Qa : State → Outcome → State → Prop) (free : Addr → Prop) : Prop := va_Run p l e R s m args below meth c H locs 0 0 0 0 g rest Qa free
theorem g_runV (X : Cx Z p s m args meth c cc nL own ret) (h : HS Z s v w H locs) {y : MethodName} {b : ByteArray} {n fr lo np idx i K : Nat} {rt : Option FieldType} {As st : List Value} {C : String} {T : u_T} {N : Nat} {ty : Nat → FieldType} {nn : Nat} {Qc : Array Value → State → Outcome → State → Prop} (hM : CT l y b n rt fr lo Z (.ref (zg Z i) :: As) v w Qc) (hm : mcI y b n rt np) (hlk : Cond.methodLink own idx y ∈ T0) (hc : cel i K nn) (hK : K < 9) (hkl : kl K C T N ty) (hC : C = y.cls) (hR : fr + 1 ≤ R.frames ∧ 8 + (n + 11) + lo ≤ R.locals) (hn : As.length = np) (hls : ls.size = nL) (hst : st = As.reverse ++ .ref (zg Z i) :: rest) (hr8 : (rest.map fun v => v.category).sum ≤ 8) (hdg : decode cc pc = .ok (.invokevirtual idx, 3)) : RunS p l e R s m args below meth c H locs (F0 m pc ls st) rest (Qc (Value.ref (zg Z i) :: As).toArray) (zA Z) := by
  subst hC
  obtain ⟨⟨h1, h2, h3, h4, h5⟩, h6, h7⟩ := hm
  refine va_runV (C := y.cls) (n := np) ⟨X.1, X.2.1, X.2.2.1, X.ow, X.ts⟩ hM ⟨⟨rfl, rfl, hR.1, hR.2, g_payT X.ts h1, List.mem_cons_self, X.ts _ h1, X.ts _ h2, ⟨h3, h4⟩, fun sig hs => ?_, X.ts _ hlk⟩, X.ts _ h6, X.ts _ h7⟩ ⟨IN.blind, ?_, g_pre h X.tb _⟩ rfl hn hls hst (lv_room hr8) hdg ⟨Nat.zero_le _, Nat.zero_le _⟩
  · rw [hs] at h5
    exact (Option.some.inj h5).symm
  · exact va_recv X.K h.1 (q0 := i) (ci := K) (q := (y.cls, T, N)) hkl.1 (by rw [wd_at hc.1, ce_obj hc.2.1 hK])
theorem g_runS (X : Cx Z p s m args meth c cc nL own ret) (h : HS Z s v w H locs) {y : MethodName} {b : ByteArray} {n fr lo np idx : Nat} {rt : Option FieldType} {As st : List Value} {Qc : Array Value → State → Outcome → State → Prop} (hM : CT l y b n rt fr lo Z As v w Qc) (hm : mcS y b n rt np) (hlk : Cond.methodLink own idx y ∈ T0) (hR : fr + 1 ≤ R.frames ∧ 8 + (n + 11) + lo ≤ R.locals) (hn : As.length = np) (hls : ls.size = nL) (hst : st = As.reverse ++ rest) (hr8 : (rest.map fun v => v.category).sum ≤ 8) (hdg : decode cc pc = .ok (.invokestatic idx, 3)) : RunS p l e R s m args below meth c H locs (F0 m pc ls st) rest (Qc As.toArray) (zA Z) := by
  obtain ⟨⟨h1, h2, h3, h4, h5⟩, h6⟩ := hm
  refine va_runS (n := np) ⟨X.1, X.2.1, X.2.2.1, X.ow, X.ts⟩ hM ⟨⟨rfl, rfl, hR.1, hR.2, g_payT X.ts h1, List.mem_cons_self, X.ts _ h1, X.ts _ h2, ⟨h3, h4⟩, fun sig hs => ?_, X.ts _ hlk⟩, X.ts _ h6⟩ ⟨IN.blind, g_pre h X.tb _⟩ rfl hn hls hst (lv_room hr8) hdg ⟨Nat.zero_le _, Nat.zero_le _⟩
  rw [hs] at h5
  exact (Option.some.inj h5).symm
theorem g_runSN (X : Cx Z p s m args meth c cc nL own ret) (h : HS Z s v w H locs) {y : MethodName} {b : ByteArray} {n fr lo np idx : Nat} {rt : Option FieldType} {As st : List Value} {Qc : Array Value → State → Outcome → State → Prop} (hM : CT l y b n rt fr lo Z As v w Qc) (hm : mcS y b n rt np) (hlk : (own, idx, y) ∈ nestM) (hR : fr + 1 ≤ R.frames ∧ 8 + (n + 11) + lo ≤ R.locals) (hn : As.length = np) (hls : ls.size = nL) (hst : st = As.reverse ++ rest) (hr8 : (rest.map fun v => v.category).sum ≤ 8) (hdg : decode cc pc = .ok (.invokestatic idx, 3)) : RunS p l e R s m args below meth c H locs (F0 m pc ls st) rest (Qc As.toArray) (zA Z) := by
  obtain ⟨⟨h1, h2, h3, h4, h5⟩, h6⟩ := hm
  refine va_runSN (n := np) (host := RX7) ⟨X.1, X.2.1, X.2.2.1, X.ow, X.ts⟩ hM ⟨⟨⟨rfl, rfl, hR.1, hR.2, g_payT X.ts h1, List.mem_cons_self⟩, X.ts _ h1, X.ts _ h2, ⟨h3, h4⟩, fun sig hs => ?_, va_Nw.use rfl (X.tb.2.2.1.1 _ hlk)⟩, X.ts _ h6, trivial⟩ ⟨IN.blind, g_pre h X.tb _⟩ rfl hn hls hst (lv_room hr8) hdg ⟨Nat.zero_le _, Nat.zero_le _⟩
  rw [hs] at h5
  exact (Option.some.inj h5).symm
variable {st : List Value} {a : Array Value}
theorem g_ki (h : HS Z s v w H locs) {post : Int32 → VW → Prop} (hr : RunS p l e R s m args below meth c H locs (F0 m pc ls st) rest (Qi Z post a) (zA Z)) (kk : ∀ (r : Int32) (v1 : VV) (w1 : WV) (H1 : Heap) (locs1 : List Loc), post r (v1, w1) → HS Z s v1 w1 H1 locs1 → W p l e R s m args below meth c H1 locs1 0 0 Q (F0 m (pc + 3) ls (.int r :: rest))) : W p l e R s m args below meth c H locs 0 0 Q (F0 m pc ls st) :=
  va_calli hr h.2 (fun _ _ h => h) (fun _ h => h) (fun r u t H1 locs1 ht _ hp hB _ _ hS => kk r u.1 u.2 H1 locs1 hp ⟨by rw [← ht]; exact hB, hS⟩)
theorem g_kl (h : HS Z s v w H locs) {post : Int64 → VW → Prop} (hr : RunS p l e R s m args below meth c H locs (F0 m pc ls st) rest (Ql Z post a) (zA Z)) (kk : ∀ (r : Int64) (v1 : VV) (w1 : WV) (H1 : Heap) (locs1 : List Loc), post r (v1, w1) → HS Z s v1 w1 H1 locs1 → W p l e R s m args below meth c H1 locs1 0 0 Q (F0 m (pc + 3) ls (.long r :: rest))) : W p l e R s m args below meth c H locs 0 0 Q (F0 m pc ls st) :=
  va_calll hr h.2 (fun _ _ h => h) (fun _ h => h) (fun r u t H1 locs1 ht _ hp hB _ _ hS => kk r u.1 u.2 H1 locs1 hp ⟨by rw [← ht]; exact hB, hS⟩)
theorem g_kv (h : HS Z s v w H locs) {post : VW → Prop} (hr : RunS p l e R s m args below meth c H locs (F0 m pc ls st) rest (Qv Z post a) (zA Z)) (kk : ∀ (v1 : VV) (w1 : WV) (H1 : Heap) (locs1 : List Loc), post (v1, w1) → HS Z s v1 w1 H1 locs1 → W p l e R s m args below meth c H1 locs1 0 0 Q (F0 m (pc + 3) ls rest)) : W p l e R s m args below meth c H locs 0 0 Q (F0 m pc ls st) :=
  va_callv hr h.2 (fun _ _ h => h) (fun _ h => h) (fun u t H1 locs1 ht _ hp hB _ _ hS => kk u.1 u.2 H1 locs1 hp ⟨by rw [← ht]; exact hB, hS⟩)
end RW
