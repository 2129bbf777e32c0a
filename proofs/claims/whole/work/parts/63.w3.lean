/-! the start: what the launch gives -/
def NWl : List Cond := flatC (Jvm.Cond.and given_1 narrow_1)
def stP : List (String × Nat) := [(RX5, 82), (RX5, 84), (RX5, 86), (RX5, 87), (RX5, 88), (RX5, 98), (RX5, 104), (RX8, 204), (RX8, 210), (RX8, 212), (RX8, 214), (RX8, 216)]
def stm (i : Nat) : Term := .string (stP.getD i ("", 0)).1 (stP.getD i ("", 0)).2
theorem nw_ex : ∀ i, i < 12 → Cond.exactly (stm i) "java/lang/String" ∈ NWl := by decide +kernel
theorem nw_co : ∀ i, i < 12 → Cond.eq (.field (stm i) "java/lang/String" "coder" "B") (.int 0) ∈ NWl := by decide +kernel
theorem nw_ar : ∀ i, i < 12 → Cond.arrayOf (.field (stm i) "java/lang/String" "value" "[B") .byte ∈ NWl := by decide +kernel
theorem nw_le : ∀ i, i < 12 → Cond.eq (.length (.field (stm i) "java/lang/String" "value" "[B")) (.int (Int32.ofNat (strL.getD i 0))) ∈ NWl := by decide +kernel
theorem nw_el : ∀ i, i < 12 → ∀ j, j < strL.getD i 0 → Cond.eq (.elem (.field (stm i) "java/lang/String" "value" "[B") (.int (Int32.ofNat j))) (.int ((strB.getD i []).getD j 0)) ∈ NWl := by decide +kernel
theorem nw_ne : ∀ i, i < 12 → ∀ j, j < 12 → i ≠ j → (Cond.not (Cond.eq (stm i) (stm j)) ∈ NWl ∨ Cond.not (Cond.eq (stm j) (stm i)) ∈ NWl) := by decide +kernel
theorem nw_ab : ∀ j, j < 7 → Cond.eq (.elem (.static RX7 "ABOVE" "[I") (.int (Int32.ofNat j))) (.int (abvL.getD j 0)) ∈ NWl := by decide +kernel
theorem nw_bo : ∀ j, j < 21 → Cond.eq (.elem (.static RX0 "BODY" "[I") (.int (Int32.ofNat j))) (.int (bodL.getD j 0)) ∈ NWl := by decide +kernel
theorem nw_aa : Cond.arrayOf (.static RX7 "ABOVE" "[I") .int ∈ NWl := by decide +kernel
theorem nw_al : Cond.eq (.length (.static RX7 "ABOVE" "[I")) (.int (Int32.ofNat 7)) ∈ NWl := by decide +kernel
theorem nw_ba : Cond.arrayOf (.static RX0 "BODY" "[I") .int ∈ NWl := by decide +kernel
theorem nw_bl : Cond.eq (.length (.static RX0 "BODY" "[I")) (.int (Int32.ofNat 21)) ∈ NWl := by decide +kernel
theorem nw_cs : Cond.eq (.static RJ0 "COMPACT_STRINGS" "Z") (.int 1) ∈ NWl := by decide +kernel
theorem nw_sf : Cond.isRef (.static RJ3 "SIOOBE_FORMATTER" "Ljava/util/function/BiFunction;") ∈ NWl := by decide +kernel
theorem nw_e5 : Cond.eq (stm 5) (.string RX8 173) ∈ NWl := by decide +kernel
theorem nw_e6 : Cond.eq (stm 6) (.string RX8 178) ∈ NWl := by decide +kernel
theorem lw_in {w : Cond} (i : Nat) (h : tables_1[i]? = some w) : w ∈ lw_tbl := List.mem_append_right _ (List.mem_of_getElem? h)
theorem tb_ab : Cond.laysStatic RX7 "ABOVE" "[I" ∈ lw_tbl := lw_in 809 (by decide +kernel)
theorem tb_bo : Cond.laysStatic RX0 "BODY" "[I" ∈ lw_tbl := lw_in 807 (by decide +kernel)
theorem tb_cs : Cond.laysStatic RJ0 "COMPACT_STRINGS" "Z" ∈ lw_tbl := lw_in 431 (by decide +kernel)
theorem tb_sf : Cond.laysStatic RJ3 "SIOOBE_FORMATTER" "Ljava/util/function/BiFunction;" ∈ lw_tbl := lw_in 447 (by decide +kernel)
theorem tb_fn : Cond.fieldLinkNest RX0 48 RX7 "ABOVE" "[I" RX7 ∈ lw_tbl := lw_in 808 (by decide +kernel)
theorem tb_ao : Cond.arrayOver (.object RX1) ∈ lw_tbl := lw_in 219 (by decide +kernel)
theorem tb_n0 : Cond.methodLinkNest RX1 52 yX7_isWithin RX7 ∈ lw_tbl := lw_in 346 (by decide +kernel)
theorem tb_n1 : Cond.methodLinkNest RX6 150 yX7_isWithin RX7 ∈ lw_tbl := lw_in 607 (by decide +kernel)
theorem tb_n2 : Cond.methodLinkNest RX6 137 yX7_between RX7 ∈ lw_tbl := lw_in 620 (by decide +kernel)
theorem tb_n3 : Cond.methodLinkNest RX4 20 yX7_between RX7 ∈ lw_tbl := lw_in 847 (by decide +kernel)
theorem tb_n4 : Cond.methodLinkNest RX7 39 yX5_init RX7 ∈ lw_tbl := lw_in 222 (by decide +kernel)
theorem tb_n5 : Cond.methodLinkNest RX7 46 yX0_init RX7 ∈ lw_tbl := lw_in 240 (by decide +kernel)
theorem tb_s0 : Cond.stringRef RX5 82 "open" ∈ lw_tbl := lw_in 417 (by decide +kernel)
theorem tb_s1 : Cond.stringRef RX5 84 "shut" ∈ lw_tbl := lw_in 418 (by decide +kernel)
theorem tb_s2 : Cond.stringRef RX5 86 "cold" ∈ lw_tbl := lw_in 419 (by decide +kernel)
theorem tb_s3 : Cond.stringRef RX5 87 "pocket" ∈ lw_tbl := lw_in 420 (by decide +kernel)
theorem tb_s4 : Cond.stringRef RX5 88 "stink" ∈ lw_tbl := lw_in 421 (by decide +kernel)
theorem tb_s5 : Cond.stringRef RX5 98 "pkvtsd" ∈ lw_tbl := lw_in 491 (by decide +kernel)
theorem tb_s6 : Cond.stringRef RX5 104 "<=>" ∈ lw_tbl := lw_in 553 (by decide +kernel)
theorem tb_s7 : Cond.stringRef RX8 204 "open " ∈ lw_tbl := lw_in 1103 (by decide +kernel)
theorem tb_s8 : Cond.stringRef RX8 210 "shut " ∈ lw_tbl := lw_in 1114 (by decide +kernel)
theorem tb_s9 : Cond.stringRef RX8 212 "cold " ∈ lw_tbl := lw_in 1115 (by decide +kernel)
theorem tb_s10 : Cond.stringRef RX8 214 "pocket " ∈ lw_tbl := lw_in 1116 (by decide +kernel)
theorem tb_s11 : Cond.stringRef RX8 216 "stink " ∈ lw_tbl := lw_in 1117 (by decide +kernel)
theorem tb_s12 : Cond.stringRef RX8 173 "pkvtsd" ∈ lw_tbl := lw_in 1150 (by decide +kernel)
theorem tb_s13 : Cond.stringRef RX8 178 "<=>" ∈ lw_tbl := lw_in 1152 (by decide +kernel)
section LA
variable {s : State} {ar : Array Value}
theorem la_T0 (hts : ∀ w ∈ lw_tbl, w.before ar s = true) : ∀ w ∈ T0, w.before ar s = true := fun w h => hts w (T0_in h)
theorem la_KN (hts : ∀ w ∈ lw_tbl, w.before ar s = true) : KN s := ⟨List.forall_mem_cons.mpr ⟨va_Nw.of rfl (hts _ tb_n0), List.forall_mem_cons.mpr ⟨va_Nw.of rfl (hts _ tb_n1), List.forall_mem_cons.mpr ⟨va_Nw.of rfl (hts _ tb_n2), List.forall_mem_cons.mpr ⟨va_Nw.of rfl (hts _ tb_n3), List.forall_mem_cons.mpr ⟨va_Nw.of rfl (hts _ tb_n4), List.forall_mem_cons.mpr ⟨va_Nw.of rfl (hts _ tb_n5), fun _ h => absurd h List.not_mem_nil⟩⟩⟩⟩⟩⟩, va_AO.of (hts _ tb_ao)⟩
theorem la_ar {ty : FieldType} (h : (Cond.arrayClass ty).before ar s = true) (hb : ∀ cA, s.vm.findClass ("[" ++ ty.toString) = some cA → va_RA s cA ty) : ∃ cA, ArrOfT s cA ty ∧ va_RA s cA ty := by
  obtain ⟨c, k, comp, h1, h2, h3⟩ := Cond.arrayClass_spec h
  exact ⟨c, fun n z => ⟨(fun k h => by cases h), k, h2, comp, h3⟩, hb c h1⟩
theorem la_ao (h : (Cond.arrayOver (.object RX1)).before ar s = true) : ∃ cA, ArrOfT s cA (.object RX1) ∧ va_RA s cA (.object RX1) := by
  obtain ⟨comp, c, k, h1, h2, h3, h4, h5⟩ := Cond.arrayOver_spec h
  exact ⟨c, fun n z => ⟨(fun k h => by cases h), k, h3, comp, h4⟩, k, comp, h3, h4, h1, h5⟩
theorem la_K (hts : ∀ w ∈ lw_tbl, w.before ar s = true) : ∃ (D : va_G) (k : Nat → ClassId), va_K D vwCl (tyc k) s := by
  have h0 := la_T0 hts
  obtain ⟨c0, i0, k0⟩ := u_known (C := RX0) (T := TX0) (N := 5) h0 inX0 (h0 _ it_RX0)
  obtain ⟨c1, i1, k1⟩ := u_known (C := RX1) (T := TX1) (N := 11) h0 inX1 (h0 _ it_RX1)
  obtain ⟨c2, i2, k2⟩ := u_known (C := RX2) (T := TX2) (N := 3) h0 inX2 (h0 _ it_RX2)
  obtain ⟨c3, i3, k3⟩ := u_known (C := RX3) (T := TX3) (N := 8) h0 inX3 (h0 _ it_RX3)
  obtain ⟨c4, i4, k4⟩ := u_known (C := RX4) (T := TX4) (N := 3) h0 inX4 (h0 _ it_RX4)
  obtain ⟨c5, i5, k5⟩ := u_known (C := RX5) (T := TX5) (N := 3) h0 inX5 (h0 _ it_RX5)
  obtain ⟨c6, i6, k6⟩ := u_known (C := RX6) (T := TX6) (N := 14) h0 inX6 (h0 _ it_RX6)
  obtain ⟨c7, i7, k7⟩ := u_known (C := RX7) (T := TX7) (N := 10) h0 inX7 (h0 _ it_RX7)
  obtain ⟨c8, i8, k8⟩ := u_known (C := RX8) (T := TX8) (N := 48) h0 inX8 (h0 _ it_RX8)
  obtain ⟨a9, b9⟩ := la_ar (h0 _ ac_int) (fun _ h => h)
  obtain ⟨a10, b10⟩ := la_ar (h0 _ ac_byte) (fun _ h => h)
  obtain ⟨a11, b11⟩ := la_ar (h0 _ ac_boolean) (fun _ h => h)
  obtain ⟨a12, b12⟩ := la_ar (h0 _ ac_long) (fun _ h => h)
  obtain ⟨a13, b13⟩ := la_ao (hts _ tb_ao)
  refine ⟨(fun k => match k with | 0 => c0 | 1 => c1 | 2 => c2 | 3 => c3 | 4 => c4 | 5 => c5 | 6 => c6 | 7 => c7 | _ => c8, fun k => match k with | 0 => i0 | 1 => i1 | 2 => i2 | 3 => i3 | 4 => i4 | 5 => i5 | 6 => i6 | 7 => i7 | _ => i8), fun k => match k with | 9 => a9 | 10 => a10 | 11 => a11 | 12 => a12 | _ => a13, ?_, ?_⟩
  · intro k q hq
    match k, hq with
    | 0, hq => cases hq; exact k0
    | 1, hq => cases hq; exact k1
    | 2, hq => cases hq; exact k2
    | 3, hq => cases hq; exact k3
    | 4, hq => cases hq; exact k4
    | 5, hq => cases hq; exact k5
    | 6, hq => cases hq; exact k6
    | 7, hq => cases hq; exact k7
    | 8, hq => cases hq; exact k8
    | n + 9, hq => simp [vwCl] at hq
  · intro k q hq
    match k, hq with
    | 0, hq => cases hq; exact b9
    | 1, hq => cases hq; exact b10
    | 2, hq => cases hq; exact b11
    | 3, hq => cases hq; exact b12
    | 4, hq => cases hq; exact b13
    | n + 5, hq => simp [tyc] at hq
theorem la_R {own tx : String} {k a : Nat} (h1 : (Cond.stringRef own k tx).before ar s = true) (h2 : (Term.string own k).eval ar s none [] s = some (.ref a)) : vk_R own k tx a s := vk_R.of (A := ar) h1 h2
theorem la_sb (hts : ∀ w ∈ lw_tbl, w.before ar s = true) (hgv : (Jvm.Cond.and given_1 narrow_1).before ar s = true) {A : Nat → Prop} (hA : ∀ a : Nat, a < s.heap.size → ¬ A a) : ∃ (t K V : Nat → Nat), (∀ (D : va_G) (g : Nat → Nat) (c : Nat → ClassId), SB (D, g, c, A, t, K, V) s s.heap) ∧ ∀ q ∈ strE, vk_R q.1 q.2.1 (strT.getD q.2.2 "") (K q.2.2) s := by
  have h0 := la_T0 hts
  have hn : ∀ w ∈ NWl, w.before ar s = true := flat_of_before _ hgv
  obtain ⟨ta, e1, T1⟩ := va_Tof (N := 7) (f := fun j => .int (abvL.getD j 0)) (by decide) (hn _ nw_aa) (va_eqt (hn _ nw_al)) (fun j hj => va_eqt (hn _ (nw_ab j hj))) hA
  obtain ⟨tb, e2, T2⟩ := va_Tof (N := 21) (f := fun j => .int (bodL.getD j 0)) (by decide) (hn _ nw_ba) (va_eqt (hn _ nw_bl)) (fun j hj => va_eqt (hn _ (nw_bo j hj))) hA
  obtain ⟨K, V, hS, hE⟩ := vk_Sof (N := 12) (tm := stm) (len := strL) (byt := strB) (by decide) (fun i hi => hn _ (nw_ex i hi)) (fun i hi => hn _ (nw_co i hi)) (fun i hi => hn _ (nw_ar i hi)) (fun i hi => hn _ (nw_le i hi)) (fun i hi j hj => hn _ (nw_el i hi j hj)) (fun i j hi hj hij => (nw_ne i hi j hj hij).imp (hn _) (hn _)) hA
  have z1 := va_Zof (hts _ tb_ab) (h0 _ in_RX7) e1 hA
  have z2 := va_Zof (hts _ tb_bo) (h0 _ in_RX0) e2 hA
  have z3 := va_Zof (hts _ tb_cs) (h0 _ in_RJ0) (va_eqi (hn _ nw_cs)) hA
  have z4 := va_Zqof (hts _ tb_sf) (h0 _ in_RJ3) (hn _ nw_sf) hA
  refine ⟨fun i => if i = 0 then ta else tb, K, V, fun D g c => ⟨z1, T1, z2, T2, z3, z4, hS⟩, ?_⟩
  have x5 := va_eqR (hn _ nw_e5) (hE 5 (by decide))
  have x6 := va_eqR (hn _ nw_e6) (hE 6 (by decide))
  exact List.forall_mem_cons.mpr ⟨la_R (hts _ tb_s0) (hE 0 (by decide)), List.forall_mem_cons.mpr ⟨la_R (hts _ tb_s1) (hE 1 (by decide)), List.forall_mem_cons.mpr ⟨la_R (hts _ tb_s2) (hE 2 (by decide)), List.forall_mem_cons.mpr ⟨la_R (hts _ tb_s3) (hE 3 (by decide)), List.forall_mem_cons.mpr ⟨la_R (hts _ tb_s4) (hE 4 (by decide)), List.forall_mem_cons.mpr ⟨la_R (hts _ tb_s5) (hE 5 (by decide)), List.forall_mem_cons.mpr ⟨la_R (hts _ tb_s6) (hE 6 (by decide)), List.forall_mem_cons.mpr ⟨la_R (hts _ tb_s7) (hE 7 (by decide)), List.forall_mem_cons.mpr ⟨la_R (hts _ tb_s8) (hE 8 (by decide)), List.forall_mem_cons.mpr ⟨la_R (hts _ tb_s9) (hE 9 (by decide)), List.forall_mem_cons.mpr ⟨la_R (hts _ tb_s10) (hE 10 (by decide)), List.forall_mem_cons.mpr ⟨la_R (hts _ tb_s11) (hE 11 (by decide)), List.forall_mem_cons.mpr ⟨la_R (hts _ tb_s12) x5, List.forall_mem_cons.mpr ⟨la_R (hts _ tb_s13) x6, fun _ h => absurd h List.not_mem_nil⟩⟩⟩⟩⟩⟩⟩⟩⟩⟩⟩⟩⟩⟩
end LA
