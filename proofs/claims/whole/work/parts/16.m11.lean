/-! the JDK's own methods over the literals -/
def strN (i : Nat) : Nat := strL.getD i 0
def strC (i k : Nat) : Int32 := (strB.getD i []).getD k 0
theorem str_all : ∀ i, i < 12 → strN i < 8 ∧ 0 < strN i ∧ (0 : Int32) < nI (strN i) ∧ (strB.getD i []).length = strN i ∧ ∀ k, k < 8 → k < strN i → ((strC i k &&& 255).toUInt32 % 65536).toInt32 = strC i k ∧ ((strC i k).toUInt32 % 65536).toInt32 = strC i k ∧ ¬ strC i k < 0 ∧ strC i k < 128 ∧ (strB.getD i []).drop k = strC i k :: (strB.getD i []).drop (k + 1) := by decide +kernel
theorem strN_lt {i : Nat} (h : i < 12) : strN i < 8 := (str_all i h).1
theorem strN_pos {i : Nat} (h : i < 12) : (0 : Int32) < nI (strN i) := (str_all i h).2.2.1
theorem str_at {i k : Nat} (h : i < 12) (hk : k < strN i) : ((strC i k &&& 255).toUInt32 % 65536).toInt32 = strC i k ∧ ((strC i k).toUInt32 % 65536).toInt32 = strC i k ∧ ¬ strC i k < 0 ∧ strC i k < 128 ∧ (strB.getD i []).drop k = strC i k :: (strB.getD i []).drop (k + 1) := (str_all i h).2.2.2.2 k (by have := strN_lt h; omega) hk
theorem str_nar {i k : Nat} (h : i < 12) (hk : k < strN i) : narrow .char (.int (strC i k)) = .int (strC i k) := congrArg Value.int (str_at h hk).2.1
theorem sh0 {n : Nat} (h : n < 8) : nI n >>> ((0 : Int32) &&& 31) = nI n := by
  have : ∀ n, n < 8 → nI n >>> ((0 : Int32) &&& 31) = nI n := by decide +kernel
  exact this n h
/-- the first place of c in what is left -/
def ixF (c : Int32) : List Int32 → Nat → Int32
  | [], _ => -1
  | b :: l, k => if b = c then nI k else ixF c l (k + 1)
def ixS (i : Nat) (c : Int32) : Int32 := ixF c (strB.getD i []) 0
theorem ixF_out {c : Int32} : ∀ (l : List Int32) (k : Nat), (∀ b ∈ l, ¬ b = c) → ixF c l k = -1 := by
  intro l
  induction l with
  | nil => intro k _; rfl
  | cons b l ih => intro k h; rw [ixF, if_neg (h b List.mem_cons_self)]; exact ih (k + 1) (fun x hx => h x (List.mem_cons_of_mem _ hx))
theorem str_mem : ∀ i, i < 12 → ∀ b ∈ strB.getD i [], (0 : Int32) ≤ b ∧ b ≤ 255 := by decide +kernel
theorem ixS_out {i : Nat} {c : Int32} (h : i < 12) (hc : inR c 0 255 = false) : ixS i c = -1 := by
  refine ixF_out _ _ (fun b hb e => inR_f.mp hc ?_)
  rw [← e]
  exact str_mem i h b hb
theorem i8_all : ∀ n, n < 256 → (n < 128 → (nI n).toInt8.toInt32 = nI n) ∧ (128 ≤ n → (nI n).toInt8.toInt32 < 0 ∧ ¬ nI n < 128) := by decide +kernel
theorem i8_eq {i k n : Nat} (h : i < 12) (hk : k < strN i) (hn : n < 256) : strC i k = (nI n).toInt8.toInt32 ↔ strC i k = nI n := by
  obtain ⟨-, -, h0, h1, -⟩ := str_at h hk
  rcases Nat.lt_or_ge n 128 with q | q
  · rw [(i8_all n hn).1 q]
  · obtain ⟨a, b⟩ := (i8_all n hn).2 q
    exact ⟨fun e => absurd (e ▸ a) h0, fun e => absurd (e ▸ h1) b⟩
theorem inR_255 {x : Int32} (h : inR x 0 255 = true) : ∃ n, x = nI n ∧ n < 256 := by
  obtain ⟨h1, h2⟩ := inR_t.mp h
  rw [i_le] at h1 h2
  obtain ⟨k, e, hk, -⟩ := i_nat (x := x) h1
  have : (255 : Int32).toInt = 255 := rfl
  exact ⟨k, e, by omega⟩
theorem sE_0 : (RX5, 82, 0) ∈ strE := List.mem_of_getElem? (i := 0) rfl
theorem sE_1 : (RX5, 84, 1) ∈ strE := List.mem_of_getElem? (i := 1) rfl
theorem sE_2 : (RX5, 86, 2) ∈ strE := List.mem_of_getElem? (i := 2) rfl
theorem sE_3 : (RX5, 87, 3) ∈ strE := List.mem_of_getElem? (i := 3) rfl
theorem sE_4 : (RX5, 88, 4) ∈ strE := List.mem_of_getElem? (i := 4) rfl
theorem sE_5 : (RX5, 98, 5) ∈ strE := List.mem_of_getElem? (i := 5) rfl
theorem sE_6 : (RX5, 104, 6) ∈ strE := List.mem_of_getElem? (i := 6) rfl
theorem sE_7 : (RX8, 204, 7) ∈ strE := List.mem_of_getElem? (i := 7) rfl
theorem sE_8 : (RX8, 210, 8) ∈ strE := List.mem_of_getElem? (i := 8) rfl
theorem sE_9 : (RX8, 212, 9) ∈ strE := List.mem_of_getElem? (i := 9) rfl
theorem sE_10 : (RX8, 214, 10) ∈ strE := List.mem_of_getElem? (i := 10) rfl
theorem sE_11 : (RX8, 216, 11) ∈ strE := List.mem_of_getElem? (i := 11) rfl
theorem sE_12 : (RX8, 173, 5) ∈ strE := List.mem_of_getElem? (i := 12) rfl
theorem sE_13 : (RX8, 178, 6) ∈ strE := List.mem_of_getElem? (i := 13) rfl
section RM
variable {Z : PL} {p : Program} {l : Launch} {e : Env} {R : Room} {s : State} {m : MethodId} {args : Array Value} {below : List Frame} {meth : Method} {c : Code} {H : Heap} {locs : List Loc} {Q : State → Prop} {cc : ByteArray} {nL : Nat} {own : String} {ret : Option FieldType} {pc : Nat} {ls : Array Slot} {rest : List Value} {v : VV} {w : WV}
theorem g_stv (X : Cx Z p s m args meth c cc nL RJ0 ret) (h : HS Z s v w H locs) (hdg : decode cc pc = .ok (.getstatic 38, 3)) (kk : W p l e R s m args below meth c H locs 0 0 Q (F0 m (pc + 3) ls (.int 1 :: rest))) : W p l e R s m args below meth c H locs 0 0 Q (F0 m pc ls rest) :=
  va_gets X.1 X.2.1 X.sb.2.2.2.2.1 h.2 X.ow (X.ts _ fw_RJ0_38) (fun _ h9 => h9) hdg kk
theorem g_svalue (X : Cx Z p s m args meth c cc nL RJ0 ret) (h : HS Z s v w H locs) {i : Nat} (hi : i < 12) (hdg : decode cc pc = .ok (.getfield 9, 3)) (kk : W p l e R s m args below meth c H locs 0 0 Q (F0 m (pc + 3) ls (.ref (zV Z i) :: rest))) : W p l e R s m args below meth c H locs 0 0 Q (F0 m pc ls (.ref (zK Z i) :: rest)) :=
  vk_getf X.1 X.2.1 (X.sb.2.2.2.2.2.2.1 i hi).2.2.1 h.2 X.ow (X.ts _ fw_RJ0_9) (fun _ h9 => h9) hdg kk
theorem g_scoder (X : Cx Z p s m args meth c cc nL RJ0 ret) (h : HS Z s v w H locs) {i : Nat} (hi : i < 12) (hdg : decode cc pc = .ok (.getfield 15, 3)) (kk : W p l e R s m args below meth c H locs 0 0 Q (F0 m (pc + 3) ls (.int 0 :: rest))) : W p l e R s m args below meth c H locs 0 0 Q (F0 m pc ls (.ref (zK Z i) :: rest)) :=
  vk_getf X.1 X.2.1 (X.sb.2.2.2.2.2.2.1 i hi).2.1 h.2 X.ow (X.ts _ fw_RJ0_15) (fun _ h9 => h9) hdg kk
theorem g_blen (X : Cx Z p s m args meth c cc nL own ret) (h : HS Z s v w H locs) {i : Nat} (hi : i < 12) (hdg : decode cc pc = .ok (.arraylength, 1)) (kk : W p l e R s m args below meth c H locs 0 0 Q (F0 m (pc + 1) ls (.int (nI (strN i)) :: rest))) : W p l e R s m args below meth c H locs 0 0 Q (F0 m pc ls (.ref (zV Z i) :: rest)) :=
  va_tlen X.1 X.2.1 (X.sb.2.2.2.2.2.2.1 i hi).2.2.2 h.2 rfl hdg kk
theorem g_bget (X : Cx Z p s m args meth c cc nL own ret) (h : HS Z s v w H locs) {i k : Nat} {x : Int32} (hi : i < 12) (hx : x = nI k) (hk : k < strN i) (hdg : decode cc pc = .ok (.baload, 1)) (kk : W p l e R s m args below meth c H locs 0 0 Q (F0 m (pc + 1) ls (.int (strC i k) :: rest))) : W p l e R s m args below meth c H locs 0 0 Q (F0 m pc ls (.int x :: .ref (zV Z i) :: rest)) := by
  subst hx
  have := strN_lt hi
  exact va_tb X.1 X.2.1 (X.sb.2.2.2.2.2.2.1 i hi).2.2.2 h.2 (vp_in_nI hk (show strN i < 2 ^ 31 by omega)) (by rw [nI_clamp (by omega)]; rfl) hdg kk
theorem g_ldcs {k i : Nat} (X : Cx Z p s m args meth c cc nL own ret) (hq : (own, k, i) ∈ strE) (hdg : decode cc pc = .ok (.ldc k, 2)) (kk : W p l e R s m args below meth c H locs 0 0 Q (F0 m (pc + 2) ls (.ref (zK Z i) :: rest))) : W p l e R s m args below meth c H locs 0 0 Q (F0 m pc ls rest) :=
  va_ldcS X.1 X.2.1 X.ow (X.tb.2.2.1.2.2 (own, k, i) hq) hdg kk
end RM
set_option maxRecDepth 100000 in
set_option maxHeartbeats 1000000 in
theorem c_J0_coder_7d493 (gl : Launch) (Z : PL) (v : VV) (w : WV) (i : Nat) (hi : i < 12) : CT gl yJ0_coder_7d493 cJ0_coder_7d493 1 (some .byte) 0 0 Z [.ref (zK Z i)] v w (Qi Z (fun r u => r = 0 ∧ (v, w) = u)) := by
  refine g_met (by decide) (Nat.le_of_ble_eq_true rfl) ?_
  intro gp ge gs gm ga gb gh gc X h ls hl
  have hx := X.1
  have hb := X.2.1
  have hl : lv_has ls 1 [(0, .ref (zK Z i))] := hl
  refine g_stv X h dJ0_coder_7d493_0 ?_
  refine lv_if_eq (tgt := 13) hx hb dJ0_coder_7d493_3 (by decide) (fun c_3 => ?_) (fun c_3 => ?_)
  · exact absurd c_3 (by decide)
  · skip
    refine lv_aload_n hx hb dJ0_coder_7d493_6 rfl (lv_at hl 0 rfl) ?_
    refine g_scoder X h hi dJ0_coder_7d493_7 ?_
    refine lv_goto (tgt := 14) hx hb dJ0_coder_7d493_10 (by decide) ?_
    exact g_nret X h dJ0_coder_7d493_14 rfl ⟨rfl, rfl⟩

set_option maxRecDepth 100000 in
set_option maxHeartbeats 1000000 in
theorem c_J0_isLatin1_aae02 (gl : Launch) (Z : PL) (v : VV) (w : WV) (i : Nat) (hi : i < 12) : CT gl yJ0_isLatin1_aae02 cJ0_isLatin1_aae02 1 (some .boolean) 0 0 Z [.ref (zK Z i)] v w (Qi Z (fun r u => r = 1 ∧ (v, w) = u)) := by
  refine g_met (by decide) (Nat.le_of_ble_eq_true rfl) ?_
  intro gp ge gs gm ga gb gh gc X h ls hl
  have hx := X.1
  have hb := X.2.1
  have hl : lv_has ls 1 [(0, .ref (zK Z i))] := hl
  refine g_stv X h dJ0_isLatin1_aae02_0 ?_
  refine lv_if_eq (tgt := 17) hx hb dJ0_isLatin1_aae02_3 (by decide) (fun c_3 => ?_) (fun c_3 => ?_)
  · exact absurd c_3 (by decide)
  · skip
    refine lv_aload_n hx hb dJ0_isLatin1_aae02_6 rfl (lv_at hl 0 rfl) ?_
    refine g_scoder X h hi dJ0_isLatin1_aae02_7 ?_
    refine lv_if_ne (tgt := 17) hx hb dJ0_isLatin1_aae02_10 (by decide) (fun c_10 => ?_) (fun c_10 => ?_)
    · exact absurd rfl c_10
    · skip
      refine lv_iconst (v := 1) hx hb dJ0_isLatin1_aae02_13 (by decide) ?_
      refine lv_goto (tgt := 18) hx hb dJ0_isLatin1_aae02_14 (by decide) ?_
      exact g_nret X h dJ0_isLatin1_aae02_18 rfl ⟨rfl, rfl⟩

set_option maxRecDepth 100000 in
set_option maxHeartbeats 1000000 in
theorem c_J0_length_8abf5 (gl : Launch) (Z : PL) (v : VV) (w : WV) (i : Nat) (hi : i < 12) : CT gl yJ0_length_8abf5 cJ0_length_8abf5 1 (some .int) 1 20 Z [.ref (zK Z i)] v w (Qi Z (fun r u => r = nI (strN i) ∧ (v, w) = u)) := by
  refine g_met (by decide) (Nat.le_of_ble_eq_true rfl) ?_
  intro gp ge gs gm ga gb gh gc X h ls hl
  have hx := X.1
  have hb := X.2.1
  have hl : lv_has ls 1 [(0, .ref (zK Z i))] := hl
  refine lv_aload_n hx hb dJ0_length_8abf5_0 rfl (lv_at hl 0 rfl) ?_
  refine g_svalue X h hi dJ0_length_8abf5_1 ?_
  refine g_blen X h hi dJ0_length_8abf5_4 ?_
  refine lv_aload_n hx hb dJ0_length_8abf5_5 rfl (lv_at hl 0 rfl) ?_
  refine g_ki h (g_runVs X h (As := []) (rest := [.int (nI (strN i))]) (c_J0_coder_7d493 gl Z v w i (by first | decide | assumption)) mi_J0_coder_7d493 ml_RJ0_335 hi rfl ⟨Nat.le_of_ble_eq_true rfl, Nat.le_of_ble_eq_true rfl⟩ rfl hl.1 rfl (Nat.le_of_ble_eq_true rfl) dJ0_length_8abf5_6) (fun r6 v6 w6 H locs hp6 h => ?_)
  obtain ⟨hr6, hu6⟩ := hp6; obtain ⟨rfl, rfl⟩ := Prod.mk.inj hu6
  refine lv_ishr hx hb dJ0_length_8abf5_9 ?_
  exact g_iret X h dJ0_length_8abf5_10 ⟨by rw [hr6]; exact sh0 (strN_lt hi), rfl⟩

set_option maxRecDepth 100000 in
set_option maxHeartbeats 1000000 in
theorem c_J3_checkIndex_8e157_n (gl : Launch) (Z : PL) (v : VV) (w : WV) (x0 : Int32) (x1 : Int32) (h0 : (0 : Int32) ≤ x0) (h1 : x0 < x1) : CT gl yJ3_checkIndex_8e157 cJ3_checkIndex_8e157 3 (some .int) 0 0 Z [.int x0, .int x1, .null] v w (Qi Z (fun r u => r = x0 ∧ (v, w) = u)) := by
  refine g_met (by decide) (Nat.le_of_ble_eq_true rfl) ?_
  intro gp ge gs gm ga gb gh gc X h ls hl
  have hx := X.1
  have hb := X.2.1
  have hl : lv_has ls 3 [(0, .int x0), (1, .int x1), (2, .null)] := hl
  refine lv_iload_n hx hb dJ3_checkIndex_8e157_0 rfl (lv_at hl 0 rfl) ?_
  refine lv_if_lt (tgt := 9) hx hb dJ3_checkIndex_8e157_1 (by decide) (fun c_1 => ?_) (fun c_1 => ?_)
  · exact absurd c_1 (Int32.not_lt.mpr h0)
  · skip
    refine lv_iload_n hx hb dJ3_checkIndex_8e157_4 rfl (lv_at hl 0 rfl) ?_
    refine lv_iload_n hx hb dJ3_checkIndex_8e157_5 rfl (lv_at hl 1 rfl) ?_
    refine lv_icmp_lt (tgt := 16) hx hb dJ3_checkIndex_8e157_6 (by decide) (fun c_6 => ?_) (fun c_6 => ?_)
    · skip
      refine lv_iload_n hx hb dJ3_checkIndex_8e157_16 rfl (lv_at hl 0 rfl) ?_
      exact g_iret X h dJ3_checkIndex_8e157_17 ⟨rfl, rfl⟩
    · exact absurd h1 c_6

set_option maxRecDepth 100000 in
set_option maxHeartbeats 1000000 in
theorem c_J3_checkIndex_8e157_r (gl : Launch) (Z : PL) (v : VV) (w : WV) (x0 : Int32) (x1 : Int32) (t : Nat) (h0 : (0 : Int32) ≤ x0) (h1 : x0 < x1) : CT gl yJ3_checkIndex_8e157 cJ3_checkIndex_8e157 3 (some .int) 0 0 Z [.int x0, .int x1, .ref t] v w (Qi Z (fun r u => r = x0 ∧ (v, w) = u)) := by
  refine g_met (by decide) (Nat.le_of_ble_eq_true rfl) ?_
  intro gp ge gs gm ga gb gh gc X h ls hl
  have hx := X.1
  have hb := X.2.1
  have hl : lv_has ls 3 [(0, .int x0), (1, .int x1), (2, .ref t)] := hl
  refine lv_iload_n hx hb dJ3_checkIndex_8e157_0 rfl (lv_at hl 0 rfl) ?_
  refine lv_if_lt (tgt := 9) hx hb dJ3_checkIndex_8e157_1 (by decide) (fun c_1 => ?_) (fun c_1 => ?_)
  · exact absurd c_1 (Int32.not_lt.mpr h0)
  · skip
    refine lv_iload_n hx hb dJ3_checkIndex_8e157_4 rfl (lv_at hl 0 rfl) ?_
    refine lv_iload_n hx hb dJ3_checkIndex_8e157_5 rfl (lv_at hl 1 rfl) ?_
    refine lv_icmp_lt (tgt := 16) hx hb dJ3_checkIndex_8e157_6 (by decide) (fun c_6 => ?_) (fun c_6 => ?_)
    · skip
      refine lv_iload_n hx hb dJ3_checkIndex_8e157_16 rfl (lv_at hl 0 rfl) ?_
      exact g_iret X h dJ3_checkIndex_8e157_17 ⟨rfl, rfl⟩
    · exact absurd h1 c_6

set_option maxRecDepth 100000 in
set_option maxHeartbeats 1000000 in
theorem c_J0_checkIndex_df160 (gl : Launch) (Z : PL) (v : VV) (w : WV) (x0 : Int32) (x1 : Int32) (h0 : (0 : Int32) ≤ x0) (h1 : x0 < x1) : CT gl yJ0_checkIndex_df160 cJ0_checkIndex_df160 2 none 1 22 Z [.int x0, .int x1] v w (Qv Z (fun u => (v, w) = u)) := by
  refine g_met (by decide) (Nat.le_of_ble_eq_true rfl) ?_
  intro gp ge gs gm ga gb gh gc X h ls hl
  have hx := X.1
  have hb := X.2.1
  have hl : lv_has ls 2 [(0, .int x0), (1, .int x1)] := hl
  refine lv_iload_n hx hb dJ0_checkIndex_df160_0 rfl (lv_at hl 0 rfl) ?_
  refine lv_iload_n hx hb dJ0_checkIndex_df160_1 rfl (lv_at hl 1 rfl) ?_
  rcases X.sb.2.2.2.2.2.1 with hz | ⟨t, hz⟩
  · skip
    refine va_gets X.1 X.2.1 hz h.2 X.ow (X.ts _ fw_RJ0_1053) (fun _ h9 => h9) dJ0_checkIndex_df160_2 ?_
    refine g_ki h (g_runS X h (As := [.int x0, .int x1, .null]) (rest := []) (c_J3_checkIndex_8e157_n gl Z v w x0 x1 h0 h1) ms_J3_checkIndex_8e157 ml_RJ0_1059 ⟨Nat.le_of_ble_eq_true rfl, Nat.le_of_ble_eq_true rfl⟩ rfl hl.1 rfl (Nat.le_of_ble_eq_true rfl) dJ0_checkIndex_df160_5) (fun r5 v5 w5 H locs hp5 h => ?_)
    obtain ⟨hr5, hu5⟩ := hp5; obtain ⟨rfl, rfl⟩ := Prod.mk.inj hu5
    refine lv_pop hx hb dJ0_checkIndex_df160_8 rfl ?_
    exact g_vret X h dJ0_checkIndex_df160_9 rfl
  · skip
    refine va_gets X.1 X.2.1 hz h.2 X.ow (X.ts _ fw_RJ0_1053) (fun _ h9 => h9) dJ0_checkIndex_df160_2 ?_
    refine g_ki h (g_runS X h (As := [.int x0, .int x1, .ref t]) (rest := []) (c_J3_checkIndex_8e157_r gl Z v w x0 x1 t h0 h1) ms_J3_checkIndex_8e157 ml_RJ0_1059 ⟨Nat.le_of_ble_eq_true rfl, Nat.le_of_ble_eq_true rfl⟩ rfl hl.1 rfl (Nat.le_of_ble_eq_true rfl) dJ0_checkIndex_df160_5) (fun r5 v5 w5 H locs hp5 h => ?_)
    obtain ⟨hr5, hu5⟩ := hp5; obtain ⟨rfl, rfl⟩ := Prod.mk.inj hu5
    refine lv_pop hx hb dJ0_checkIndex_df160_8 rfl ?_
    exact g_vret X h dJ0_checkIndex_df160_9 rfl

set_option maxRecDepth 100000 in
set_option maxHeartbeats 1000000 in
theorem c_J1_charAt_3b067 (gl : Launch) (Z : PL) (v : VV) (w : WV) (i : Nat) (hi : i < 12) (x1 : Int32) (k : Nat) (hk : x1 = nI k) (hkn : k < strN i) : CT gl yJ1_charAt_3b067 cJ1_charAt_3b067 2 (some .char) 2 43 Z [.ref (zV Z i), .int x1] v w (Qi Z (fun r u => r = strC i k ∧ (v, w) = u)) := by
  refine g_met (by decide) (Nat.le_of_ble_eq_true rfl) ?_
  intro gp ge gs gm ga gb gh gc X h ls hl
  have hx := X.1
  have hb := X.2.1
  have hl : lv_has ls 2 [(0, .ref (zV Z i)), (1, .int x1)] := hl
  have h8 := strN_lt hi
  refine lv_iload_n hx hb dJ1_charAt_3b067_0 rfl (lv_at hl 1 rfl) ?_
  refine lv_aload_n hx hb dJ1_charAt_3b067_1 rfl (lv_at hl 0 rfl) ?_
  refine g_blen X h hi dJ1_charAt_3b067_2 ?_
  refine g_kv h (g_runS X h (As := [.int x1, .int (nI (strN i))]) (rest := []) (c_J0_checkIndex_df160 gl Z v w x1 (nI (strN i)) (by rw [hk]; exact Int32.not_lt.mp (nI_pos (by omega))) (by rw [hk]; exact nI_lt hkn (by omega))) ms_J0_checkIndex_df160 ml_RJ1_9 ⟨Nat.le_of_ble_eq_true rfl, Nat.le_of_ble_eq_true rfl⟩ rfl hl.1 rfl (Nat.le_of_ble_eq_true rfl) dJ1_charAt_3b067_3) (fun v3 w3 H locs hp3 h => ?_)
  obtain ⟨rfl, rfl⟩ := Prod.mk.inj hp3
  refine lv_aload_n hx hb dJ1_charAt_3b067_6 rfl (lv_at hl 0 rfl) ?_
  refine lv_iload_n hx hb dJ1_charAt_3b067_7 rfl (lv_at hl 1 rfl) ?_
  refine g_bget X h hi hk hkn dJ1_charAt_3b067_8 ?_
  refine lv_sipush (v := 255) hx hb dJ1_charAt_3b067_9 (by decide) ?_
  refine lv_iand hx hb dJ1_charAt_3b067_12 ?_
  refine lv_i2c hx hb dJ1_charAt_3b067_13 rfl ?_
  exact g_nret X h dJ1_charAt_3b067_14 (by rw [(str_at hi hkn).1]; exact str_nar hi hkn) ⟨(str_at hi hkn).1, rfl⟩

set_option maxRecDepth 100000 in
set_option maxHeartbeats 1000000 in
theorem c_J0_charAt_5068e (gl : Launch) (Z : PL) (v : VV) (w : WV) (i : Nat) (hi : i < 12) (x0 : Int32) (k : Nat) (hk : x0 = nI k) (hkn : k < strN i) : CT gl yJ0_charAt_5068e cJ0_charAt_5068e 2 (some .char) 3 64 Z [.ref (zK Z i), .int x0] v w (Qi Z (fun r u => r = strC i k ∧ (v, w) = u)) := by
  refine g_met (by decide) (Nat.le_of_ble_eq_true rfl) ?_
  intro gp ge gs gm ga gb gh gc X h ls hl
  have hx := X.1
  have hb := X.2.1
  have hl : lv_has ls 2 [(0, .ref (zK Z i)), (1, .int x0)] := hl
  refine lv_aload_n hx hb dJ0_charAt_5068e_0 rfl (lv_at hl 0 rfl) ?_
  refine g_ki h (g_runVs X h (As := []) (rest := []) (c_J0_isLatin1_aae02 gl Z v w i (by first | decide | assumption)) mi_J0_isLatin1_aae02 ml_RJ0_492 hi rfl ⟨Nat.le_of_ble_eq_true rfl, Nat.le_of_ble_eq_true rfl⟩ rfl hl.1 rfl (Nat.le_of_ble_eq_true rfl) dJ0_charAt_5068e_1) (fun r1 v1 w1 H locs hp1 h => ?_)
  obtain ⟨hr1, hu1⟩ := hp1; obtain ⟨rfl, rfl⟩ := Prod.mk.inj hu1
  refine lv_if_eq (tgt := 16) hx hb dJ0_charAt_5068e_4 (by decide) (fun c_4 => ?_) (fun c_4 => ?_)
  · exact absurd c_4 (by rw [hr1]; decide)
  · skip
    refine lv_aload_n hx hb dJ0_charAt_5068e_7 rfl (lv_at hl 0 rfl) ?_
    refine g_svalue X h hi dJ0_charAt_5068e_8 ?_
    refine lv_iload_n hx hb dJ0_charAt_5068e_11 rfl (lv_at hl 1 rfl) ?_
    refine g_ki h (g_runS X h (As := [.ref (zV Z i), .int x0]) (rest := []) (c_J1_charAt_3b067 gl Z v w i (by first | decide | assumption) x0 k hk hkn) ms_J1_charAt_3b067 ml_RJ0_495 ⟨Nat.le_of_ble_eq_true rfl, Nat.le_of_ble_eq_true rfl⟩ rfl hl.1 rfl (Nat.le_of_ble_eq_true rfl) dJ0_charAt_5068e_12) (fun r12 v12 w12 H locs hp12 h => ?_)
    obtain ⟨hr12, hu12⟩ := hp12; obtain ⟨rfl, rfl⟩ := Prod.mk.inj hu12
    exact g_nret X h dJ0_charAt_5068e_15 (by rw [hr12]; exact str_nar hi hkn) ⟨hr12, rfl⟩

set_option maxRecDepth 100000 in
set_option maxHeartbeats 1000000 in
theorem c_J1_canEncode_9a6ad (gl : Launch) (Z : PL) (v : VV) (w : WV) (x0 : Int32) : CT gl yJ1_canEncode_9a6ad cJ1_canEncode_9a6ad 1 (some .boolean) 0 0 Z [.int x0] v w (Qi Z (fun r u => r = bI (inR x0 0 255) ∧ (v, w) = u)) := by
  refine g_met (by decide) (Nat.le_of_ble_eq_true rfl) ?_
  intro gp ge gs gm ga gb gh gc X h ls hl
  have hx := X.1
  have hb := X.2.1
  have hl : lv_has ls 1 [(0, .int x0)] := hl
  refine lv_iload_n hx hb dJ1_canEncode_9a6ad_0 rfl (lv_at hl 0 rfl) ?_
  refine lv_if_lt (tgt := 15) hx hb dJ1_canEncode_9a6ad_1 (by decide) (fun c_1 => ?_) (fun c_1 => ?_)
  · skip
    refine lv_iconst (v := 0) hx hb dJ1_canEncode_9a6ad_15 (by decide) ?_
    exact g_nret X h dJ1_canEncode_9a6ad_16 rfl (by simp only [i_lt, i_le] at c_1; refine ⟨?_, rfl⟩; simp only [bI, inR, isP, Bool.and_eq_true, decide_eq_true_eq, i_le, i_lt]; split <;> first | rfl | omega)
  · skip
    refine lv_iload_n hx hb dJ1_canEncode_9a6ad_4 rfl (lv_at hl 0 rfl) ?_
    refine lv_sipush (v := 255) hx hb dJ1_canEncode_9a6ad_5 (by decide) ?_
    refine lv_icmp_gt (tgt := 15) hx hb dJ1_canEncode_9a6ad_8 (by decide) (fun c_8 => ?_) (fun c_8 => ?_)
    · skip
      refine lv_iconst (v := 0) hx hb dJ1_canEncode_9a6ad_15 (by decide) ?_
      exact g_nret X h dJ1_canEncode_9a6ad_16 rfl (by simp only [i_lt, i_le] at c_1 c_8; refine ⟨?_, rfl⟩; simp only [bI, inR, isP, Bool.and_eq_true, decide_eq_true_eq, i_le, i_lt]; split <;> first | rfl | omega)
    · skip
      refine lv_iconst (v := 1) hx hb dJ1_canEncode_9a6ad_11 (by decide) ?_
      refine lv_goto (tgt := 16) hx hb dJ1_canEncode_9a6ad_12 (by decide) ?_
      exact g_nret X h dJ1_canEncode_9a6ad_16 rfl (by simp only [i_lt, i_le] at c_1 c_8; refine ⟨?_, rfl⟩; simp only [bI, inR, isP, Bool.and_eq_true, decide_eq_true_eq, i_le, i_lt]; split <;> first | rfl | omega)

set_option maxRecDepth 100000 in
set_option maxHeartbeats 1000000 in
theorem c_J1_indexOfChar_4cfef (gl : Launch) (Z : PL) (v : VV) (w : WV) (i : Nat) (hi : i < 12) (x1 : Int32) (x2 : Int32) (x3 : Int32) (n : Nat) (hn : x1 = nI n) (h256 : n < 256) (h2 : x2 = 0) (h3 : x3 = nI (strN i)) : CT gl yJ1_indexOfChar_4cfef cJ1_indexOfChar_4cfef 6 (some .int) 0 0 Z [.ref (zV Z i), .int x1, .int x2, .int x3] v w (Qi Z (fun r u => r = ixS i x1 ∧ (v, w) = u)) := by
  refine g_met (by decide) (Nat.le_of_ble_eq_true rfl) ?_
  intro gp ge gs gm ga gb gh gc X h ls hl
  have hx := X.1
  have hb := X.2.1
  have hl : lv_has ls 6 [(0, .ref (zV Z i)), (1, .int x1), (2, .int x2), (3, .int x3)] := hl
  have h8 := strN_lt hi
  refine lv_iload_n hx hb dJ1_indexOfChar_4cfef_0 rfl (lv_at hl 1 rfl) ?_
  refine lv_i2b hx hb dJ1_indexOfChar_4cfef_1 rfl ?_
  refine lv_topi (fun x4_2 ex4_2 => ?_)
  refine lv_istore (lv' := [(4, .int x4_2), (0, .ref (zV Z i)), (1, .int x1), (2, .int x2), (3, .int x3)]) hx hb dJ1_indexOfChar_4cfef_2 hl (by decide) rfl (fun ls hl => ?_)
  refine lv_iload_n hx hb dJ1_indexOfChar_4cfef_4 rfl (lv_at hl 3 rfl) ?_
  refine lv_istore (lv' := [(5, .int x2), (4, .int x4_2), (0, .ref (zV Z i)), (1, .int x1), (2, .int x2), (3, .int x3)]) hx hb dJ1_indexOfChar_4cfef_5 hl (by decide) rfl (fun ls hl => ?_)
  have L7 : ∀ (n7 : Nat) (k : Nat) (x5 : Int32), (x5 = nI k) → (k ≤ strN i) → (ixS i x1 = ixF x1 ((strB.getD i []).drop k) k) → strN i - k < n7 → ∀ (H : Heap) (locs : List Loc), HS Z gs v w H locs → ∀ ls : Array Slot, lv_has ls 6 [(0, .ref (zV Z i)), (1, .int x1), (2, .int x2), (3, .int x3), (4, .int x4_2), (5, .int x5)] → W gp gl ge (rmm 0 0) gs gm ga gb gh gc H locs 0 0 (MQ gb (Qi Z (fun r u => r = ixS i x1 ∧ (v, w) = u)) ga gs 0 0 (zA Z)) (F0 gm 7 ls []) := by
    intro n7
    induction n7 with
    | zero => intro k x5 hx5 hk hix hmu; exact absurd hmu (Nat.not_lt_zero _)
    | succ n7 ih7 =>
      intro k x5 hx5 hk hix hmu7 H locs h ls hl
      refine lv_iload hx hb dJ1_indexOfChar_4cfef_7 (lv_at hl 5 rfl) ?_
      refine lv_iload_n hx hb dJ1_indexOfChar_4cfef_9 rfl (lv_at hl 3 rfl) ?_
      refine lv_icmp_ge (tgt := 31) hx hb dJ1_indexOfChar_4cfef_10 (by decide) (fun c_10 => ?_) (fun c_10 => ?_)
      · skip
        have hkn := nI_le1 (a := (strN i)) (b := k) h3 hx5 (by omega) (by omega) c_10
        refine lv_iconst (v := (-1)) hx hb dJ1_indexOfChar_4cfef_31 (by decide) ?_
        exact g_iret X h dJ1_indexOfChar_4cfef_32 ⟨by rw [hix, List.drop_eq_nil_of_le (by rw [(str_all i hi).2.2.2.1]; exact hkn)]; rfl, rfl⟩
      · skip
        have hkn := nI_le0 (a := (strN i)) (b := k) h3 hx5 (by omega) (by omega) c_10
        refine lv_aload_n hx hb dJ1_indexOfChar_4cfef_13 rfl (lv_at hl 0 rfl) ?_
        refine lv_iload hx hb dJ1_indexOfChar_4cfef_14 (lv_at hl 5 rfl) ?_
        refine g_bget X h hi hx5 hkn dJ1_indexOfChar_4cfef_16 ?_
        refine lv_iload hx hb dJ1_indexOfChar_4cfef_17 (lv_at hl 4 rfl) ?_
        refine lv_icmp_ne (tgt := 25) hx hb dJ1_indexOfChar_4cfef_19 (by decide) (fun c_19 => ?_) (fun c_19 => ?_)
        · skip
          refine lv_iinc (v := (x5 + 1)) (lv' := [(5, .int (x5 + 1)), (0, .ref (zV Z i)), (1, .int x1), (2, .int x2), (3, .int x3), (4, .int x4_2)]) hx hb dJ1_indexOfChar_4cfef_25 hl (k := 5) rfl rfl (by decide) rfl (fun ls hl => ?_)
          refine lv_goto (tgt := 7) hx hb dJ1_indexOfChar_4cfef_28 (by decide) ?_
          exact ih7 (k + 1) (x5 + 1) (by rw [hx5]; exact nI_1 _) (by omega) (by rw [hix, (str_at hi hkn).2.2.2.2, ixF, if_neg (fun q => c_19 ((ex4_2.trans (by rw [hn])).symm ▸ (i8_eq hi hkn h256).mpr (hn ▸ q)))]) (by omega) _ _ h ls (lv_sub hl [1, 2, 3, 4, 5, 0] rfl)
        · skip
          refine lv_iload hx hb dJ1_indexOfChar_4cfef_22 (lv_at hl 5 rfl) ?_
          exact g_iret X h dJ1_indexOfChar_4cfef_24 ⟨by rw [hix, (str_at hi hkn).2.2.2.2, ixF, if_pos (by rw [hn]; exact (i8_eq hi hkn h256).mp (by rw [← hn, ← ex4_2]; exact c_19))]; exact hx5, rfl⟩
  exact L7 (strN i - 0 + 1) 0 x2 h2 (Nat.zero_le _) rfl (Nat.lt_succ_self _) _ _ h ls (lv_sub hl [2, 3, 4, 5, 1, 0] rfl)

set_option maxRecDepth 100000 in
set_option maxHeartbeats 1000000 in
theorem c_J1_indexOf_4cfef (gl : Launch) (Z : PL) (v : VV) (w : WV) (i : Nat) (hi : i < 12) (x1 : Int32) (x2 : Int32) (x3 : Int32) (h2 : x2 = 0) (h3 : x3 = nI (strN i)) : CT gl yJ1_indexOf_4cfef cJ1_indexOf_4cfef 4 (some .int) 1 25 Z [.ref (zV Z i), .int x1, .int x2, .int x3] v w (Qi Z (fun r u => r = ixS i x1 ∧ (v, w) = u)) := by
  refine g_met (by decide) (Nat.le_of_ble_eq_true rfl) ?_
  intro gp ge gs gm ga gb gh gc X h ls hl
  have hx := X.1
  have hb := X.2.1
  have hl : lv_has ls 4 [(0, .ref (zV Z i)), (1, .int x1), (2, .int x2), (3, .int x3)] := hl
  refine lv_iload_n hx hb dJ1_indexOf_4cfef_0 rfl (lv_at hl 1 rfl) ?_
  refine g_ki h (g_runS X h (As := [.int x1]) (rest := []) (c_J1_canEncode_9a6ad gl Z v w x1) ms_J1_canEncode_9a6ad ml_RJ1_88 ⟨Nat.le_of_ble_eq_true rfl, Nat.le_of_ble_eq_true rfl⟩ rfl hl.1 rfl (Nat.le_of_ble_eq_true rfl) dJ1_indexOf_4cfef_1) (fun r1 v1 w1 H locs hp1 h => ?_)
  obtain ⟨hr1, hu1⟩ := hp1; obtain ⟨rfl, rfl⟩ := Prod.mk.inj hu1
  refine lv_if_ne (tgt := 9) hx hb dJ1_indexOf_4cfef_4 (by decide) (fun c_4 => ?_) (fun c_4 => ?_)
  · skip
    rw [hr1, bI_n] at c_4
    obtain ⟨n, hn, h256⟩ := inR_255 c_4
    refine lv_iload_n hx hb dJ1_indexOf_4cfef_9 rfl (lv_at hl 2 rfl) ?_
    refine lv_iconst (v := 0) hx hb dJ1_indexOf_4cfef_10 (by decide) ?_
    refine g_max X hl.1 ml_RJ1_92 ⟨Nat.le_of_ble_eq_true rfl, Nat.le_of_ble_eq_true rfl⟩ (Nat.le_of_ble_eq_true rfl) dJ1_indexOf_4cfef_11 ?_
    refine lv_topi (fun x2_14 ex2_14 => ?_)
    refine lv_istore_n (lv' := [(2, .int x2_14), (0, .ref (zV Z i)), (1, .int x1), (3, .int x3)]) hx hb dJ1_indexOf_4cfef_14 rfl hl (by decide) rfl (fun ls hl => ?_)
    have hx2_14 : x2_14 = 0 := by rw [ex2_14, h2]; decide
    refine lv_iload_n hx hb dJ1_indexOf_4cfef_15 rfl (lv_at hl 3 rfl) ?_
    refine lv_aload_n hx hb dJ1_indexOf_4cfef_16 rfl (lv_at hl 1 rfl) ?_
    refine g_blen X h hi dJ1_indexOf_4cfef_17 ?_
    refine g_min X hl.1 ml_RJ1_38 ⟨Nat.le_of_ble_eq_true rfl, Nat.le_of_ble_eq_true rfl⟩ (Nat.le_of_ble_eq_true rfl) dJ1_indexOf_4cfef_18 ?_
    refine lv_topi (fun x3_21 ex3_21 => ?_)
    refine lv_istore_n (lv' := [(3, .int x3_21), (2, .int x2_14), (0, .ref (zV Z i)), (1, .int x1)]) hx hb dJ1_indexOf_4cfef_21 rfl hl (by decide) rfl (fun ls hl => ?_)
    have hx3_21 : x3_21 = nI (strN i) := by rw [ex3_21, h3]; exact ite_self _
    refine lv_iload_n hx hb dJ1_indexOf_4cfef_22 rfl (lv_at hl 1 rfl) ?_
    refine lv_iload_n hx hb dJ1_indexOf_4cfef_23 rfl (lv_at hl 0 rfl) ?_
    refine lv_icmp_lt (tgt := 29) hx hb dJ1_indexOf_4cfef_24 (by decide) (fun c_24 => ?_) (fun c_24 => ?_)
    · skip
      refine lv_aload_n hx hb dJ1_indexOf_4cfef_29 rfl (lv_at hl 2 rfl) ?_
      refine lv_iload_n hx hb dJ1_indexOf_4cfef_30 rfl (lv_at hl 3 rfl) ?_
      refine lv_iload_n hx hb dJ1_indexOf_4cfef_31 rfl (lv_at hl 1 rfl) ?_
      refine lv_iload_n hx hb dJ1_indexOf_4cfef_32 rfl (lv_at hl 0 rfl) ?_
      refine g_ki h (g_runS X h (As := [.ref (zV Z i), .int x1, .int x2_14, .int x3_21]) (rest := []) (c_J1_indexOfChar_4cfef gl Z v w i (by first | decide | assumption) x1 x2_14 x3_21 n hn h256 hx2_14 hx3_21) ms_J1_indexOfChar_4cfef ml_RJ1_95 ⟨Nat.le_of_ble_eq_true rfl, Nat.le_of_ble_eq_true rfl⟩ rfl hl.1 rfl (Nat.le_of_ble_eq_true rfl) dJ1_indexOf_4cfef_33) (fun r33 v33 w33 H locs hp33 h => ?_)
      obtain ⟨hr33, hu33⟩ := hp33; obtain ⟨rfl, rfl⟩ := Prod.mk.inj hu33
      exact g_iret X h dJ1_indexOf_4cfef_36 ⟨hr33, rfl⟩
    · exact absurd (by rw [hx2_14, hx3_21]; exact strN_pos hi) c_24
  · skip
    rw [hr1, bI_0] at c_4
    refine lv_iconst (v := (-1)) hx hb dJ1_indexOf_4cfef_7 (by decide) ?_
    exact g_iret X h dJ1_indexOf_4cfef_8 ⟨(ixS_out hi c_4).symm, rfl⟩

set_option maxRecDepth 100000 in
set_option maxHeartbeats 1000000 in
theorem c_J0_indexOf_7cf53 (gl : Launch) (Z : PL) (v : VV) (w : WV) (i : Nat) (hi : i < 12) (x0 : Int32) (x1 : Int32) (h1 : x1 = 0) : CT gl yJ0_indexOf_7cf53 cJ0_indexOf_7cf53 3 (some .int) 2 48 Z [.ref (zK Z i), .int x0, .int x1] v w (Qi Z (fun r u => r = ixS i x0 ∧ (v, w) = u)) := by
  refine g_met (by decide) (Nat.le_of_ble_eq_true rfl) ?_
  intro gp ge gs gm ga gb gh gc X h ls hl
  have hx := X.1
  have hb := X.2.1
  have hl : lv_has ls 3 [(0, .ref (zK Z i)), (1, .int x0), (2, .int x1)] := hl
  refine lv_aload_n hx hb dJ0_indexOf_7cf53_0 rfl (lv_at hl 0 rfl) ?_
  refine g_ki h (g_runVs X h (As := []) (rest := []) (c_J0_isLatin1_aae02 gl Z v w i (by first | decide | assumption)) mi_J0_isLatin1_aae02 ml_RJ0_492 hi rfl ⟨Nat.le_of_ble_eq_true rfl, Nat.le_of_ble_eq_true rfl⟩ rfl hl.1 rfl (Nat.le_of_ble_eq_true rfl) dJ0_indexOf_7cf53_1) (fun r1 v1 w1 H locs hp1 h => ?_)
  obtain ⟨hr1, hu1⟩ := hp1; obtain ⟨rfl, rfl⟩ := Prod.mk.inj hu1
  refine lv_if_eq (tgt := 23) hx hb dJ0_indexOf_7cf53_4 (by decide) (fun c_4 => ?_) (fun c_4 => ?_)
  · exact absurd c_4 (by rw [hr1]; decide)
  · skip
    refine lv_aload_n hx hb dJ0_indexOf_7cf53_7 rfl (lv_at hl 0 rfl) ?_
    refine g_svalue X h hi dJ0_indexOf_7cf53_8 ?_
    refine lv_iload_n hx hb dJ0_indexOf_7cf53_11 rfl (lv_at hl 1 rfl) ?_
    refine lv_iload_n hx hb dJ0_indexOf_7cf53_12 rfl (lv_at hl 2 rfl) ?_
    refine lv_aload_n hx hb dJ0_indexOf_7cf53_13 rfl (lv_at hl 0 rfl) ?_
    refine g_ki h (g_runVs X h (As := []) (rest := [.int x1, .int x0, .ref (zV Z i)]) (c_J0_length_8abf5 gl Z v w i (by first | decide | assumption)) mi_J0_length_8abf5 ml_RJ0_505 hi rfl ⟨Nat.le_of_ble_eq_true rfl, Nat.le_of_ble_eq_true rfl⟩ rfl hl.1 rfl (Nat.le_of_ble_eq_true rfl) dJ0_indexOf_7cf53_14) (fun r14 v14 w14 H locs hp14 h => ?_)
    obtain ⟨hr14, hu14⟩ := hp14; obtain ⟨rfl, rfl⟩ := Prod.mk.inj hu14
    refine g_ki h (g_runS X h (As := [.ref (zV Z i), .int x0, .int x1, .int r14]) (rest := []) (c_J1_indexOf_4cfef gl Z v w i (by first | decide | assumption) x0 x1 r14 h1 hr14) ms_J1_indexOf_4cfef ml_RJ0_637 ⟨Nat.le_of_ble_eq_true rfl, Nat.le_of_ble_eq_true rfl⟩ rfl hl.1 rfl (Nat.le_of_ble_eq_true rfl) dJ0_indexOf_7cf53_17) (fun r17 v17 w17 H locs hp17 h => ?_)
    obtain ⟨hr17, hu17⟩ := hp17; obtain ⟨rfl, rfl⟩ := Prod.mk.inj hu17
    refine lv_goto (tgt := 36) hx hb dJ0_indexOf_7cf53_20 (by decide) ?_
    exact g_iret X h dJ0_indexOf_7cf53_36 ⟨hr17, rfl⟩

set_option maxRecDepth 100000 in
set_option maxHeartbeats 1000000 in
theorem c_J0_indexOf_0f7a4 (gl : Launch) (Z : PL) (v : VV) (w : WV) (i : Nat) (hi : i < 12) (x0 : Int32) : CT gl yJ0_indexOf_0f7a4 cJ0_indexOf_0f7a4 2 (some .int) 3 70 Z [.ref (zK Z i), .int x0] v w (Qi Z (fun r u => r = ixS i x0 ∧ (v, w) = u)) := by
  refine g_met (by decide) (Nat.le_of_ble_eq_true rfl) ?_
  intro gp ge gs gm ga gb gh gc X h ls hl
  have hx := X.1
  have hb := X.2.1
  have hl : lv_has ls 2 [(0, .ref (zK Z i)), (1, .int x0)] := hl
  refine lv_aload_n hx hb dJ0_indexOf_0f7a4_0 rfl (lv_at hl 0 rfl) ?_
  refine lv_iload_n hx hb dJ0_indexOf_0f7a4_1 rfl (lv_at hl 1 rfl) ?_
  refine lv_iconst (v := 0) hx hb dJ0_indexOf_0f7a4_2 (by decide) ?_
  refine g_ki h (g_runVs X h (As := [.int x0, .int 0]) (rest := []) (c_J0_indexOf_7cf53 gl Z v w i (by first | decide | assumption) x0 0 rfl) mi_J0_indexOf_7cf53 ml_RJ0_633 hi rfl ⟨Nat.le_of_ble_eq_true rfl, Nat.le_of_ble_eq_true rfl⟩ rfl hl.1 rfl (Nat.le_of_ble_eq_true rfl) dJ0_indexOf_0f7a4_3) (fun r3 v3 w3 H locs hp3 h => ?_)
  obtain ⟨hr3, hu3⟩ := hp3; obtain ⟨rfl, rfl⟩ := Prod.mk.inj hu3
  exact g_iret X h dJ0_indexOf_0f7a4_6 ⟨hr3, rfl⟩
