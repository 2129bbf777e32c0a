/-- what the reference keeps in an array of 64 -/
def keepS (v : VV) (f : Nat → Int32) : Nat → Int32 := fun j => if j < 6 then v 118 j else if j < 12 then v 119 (j - 6) else if j < 18 then v 120 (j - 12) else if j < 24 then v 121 (j - 18) else if j < 30 then v 123 (j - 24) else if j < 54 then v 122 (j - 30) else if j = 54 then v 116 0 else if j = 55 then v 116 7 else if j = 56 then v 116 8 else if j = 57 then v 116 9 else if j = 58 then v 116 11 else if j = 59 then v 116 15 else if j = 60 then v 116 28 else if j = 61 then v 116 31 else if j = 62 then v 116 34 else f j
def kpA (v : VV) (f : Nat → Int32) (a : Nat) : Nat → Int32 := fun j => if j < 30 ∧ j % 6 < a then keepS v f j else f j
def kpB (v : VV) (f : Nat → Int32) (b : Nat) : Nat → Int32 := fun j => if j < 30 + b then keepS v f j else f j
theorem kpA_0 (v : VV) (f : Nat → Int32) : kpA v f 0 = f := by funext j; simp [kpA]
theorem kpA_s {v : VV} {f : Nat → Int32} {a : Nat} (h : a < 6) : upd (upd (upd (upd (upd (kpA v f a) a (v 118 a)) (6 + a) (v 119 a)) (12 + a) (v 120 a)) (18 + a) (v 121 a)) (24 + a) (v 123 a) = kpA v f (a + 1) := by
  funext j
  simp only [upd, kpA, keepS]
  grind (splits := 60)
theorem kpB_0 (v : VV) (f : Nat → Int32) : kpB v f 0 = kpA v f 6 := by funext j; simp only [kpA, kpB]; grind
theorem kpB_s {v : VV} {f : Nat → Int32} {b : Nat} (h : b < 24) : upd (kpB v f b) (30 + b) (v 122 b) = kpB v f (b + 1) := by
  funext j
  simp only [upd, kpB, keepS]
  grind
theorem kpB_e (v : VV) (f : Nat → Int32) : upd (upd (upd (upd (upd (upd (upd (upd (upd (kpB v f 24) 54 (v 116 0)) 55 (v 116 7)) 56 (v 116 8)) 57 (v 116 9)) 58 (v 116 11)) 59 (v 116 15)) 60 (v 116 28)) 61 (v 116 31)) 62 (v 116 34) = keepS v f := by
  funext j
  simp only [upd, kpB, keepS]
  grind (splits := 60)
/-- the arrays as kept, a places of the sixes, b of the rows -/
def agA (v : VV) (t a b : Nat) : VV := fun i k => if i = 118 ∧ k < a then v t k else if i = 119 ∧ k < a then v t (6 + k) else if i = 120 ∧ k < a then v t (12 + k) else if i = 121 ∧ k < a then v t (18 + k) else if i = 123 ∧ k < a then v t (24 + k) else if i = 122 ∧ k < b then v t (30 + k) else v i k
theorem agA_0 (v : VV) (t : Nat) : agA v t 0 0 = v := by funext i k; simp [agA]
theorem agA_s (v : VV) (t a : Nat) : up2 (up2 (up2 (up2 (up2 (agA v t a 0) 118 a (v t a)) 119 a (v t (6 + a))) 120 a (v t (12 + a))) 121 a (v t (18 + a))) 123 a (v t (24 + a)) = agA v t (a + 1) 0 := by
  funext i k
  simp only [up2, agA]
  grind (splits := 60)
theorem agB_s (v : VV) (t a b : Nat) : up2 (agA v t a b) 122 b (v t (30 + b)) = agA v t a (b + 1) := by
  funext i k
  simp only [up2, agA]
  grind
theorem agA_t {v : VV} {t a b : Nat} (h : t = 138 ∨ t = 139) : agA v t a b t = v t := by
  funext k
  simp only [agA]
  grind
def againS (v : VV) (t : Nat) : VV := up2 (up2 (up2 (up2 (up2 (up2 (up2 (up2 (up2 (agA v t 6 24) 116 0 (v t 54)) 116 7 (v t 55)) 116 8 (v t 56)) 116 9 (v t 57)) 116 11 (v t 58)) 116 15 (v t 59)) 116 28 (v t 60)) 116 31 (v t 61)) 116 34 (v t 62)
def isK (t : Nat) : Prop := t = 138 ∨ t = 139
theorem cK_0 {t : Nat} (h : isK t) : cel t 9 64 := by rcases h with rfl | rfl <;> exact ⟨by decide, rfl, rfl⟩
/-- nothing but the reference's scratch -/
def scM (v v' : VV) : Prop := ∀ i, i ≠ 131 → i ≠ 138 → v' i = v i
theorem scM_refl (v : VV) : scM v v := fun _ _ _ => rfl
theorem scM_trans {a b c : VV} (h1 : scM a b) (h2 : scM b c) : scM a c := fun i x y => (h2 i x y).trans (h1 i x y)
theorem scM.xM {v v' : VV} {n : Nat} {L : LND} (h : scM v v') : xM v' n L = xM v n L := xM_cong (fun i _ _ => h i (by omega) (by omega))
theorem scM.DM {v v' : VV} {n B : Nat} {L : LND} (h : scM v v') (hd : DM v n B L) : DM v' n B L := by
  obtain ⟨h1, h2, h3, h4, h5, h6⟩ := hd
  exact ⟨by rw [h 116 (by decide) (by decide)]; exact h1, h2, h3, curM_cong (by rw [h 116 (by decide) (by decide)]) (fun i _ _ => h i (by omega) (by omega)) h4, by rw [h.xM]; exact h5, h6⟩
/-- kept, days gone, again: all as it was -/
theorem again_all {v v1 v2 : VV} (h1 : v1 = upc v 138 (keepS v (v 138))) (h2 : frM v1 v2) : scM v (againS v2 138) := by
  have e1 : ∀ i, i ≠ 138 → v1 i = v i := fun i hi => by rw [h1, upc_ne hi]
  have e2 : v2 138 = keepS v (v 138) := by rw [h2.1 138 (by decide) (by decide) (by decide) (by decide), h1, upc_at]
  obtain ⟨f1, f2, f3⟩ := h2
  intro i a b
  funext k
  by_cases h116 : i = 116
  · subst h116
    have g := f2 k
    rw [e1 116 (by decide)] at g
    simp only [againS, up2, agA, e2, keepS]
    grind
  · have q : againS v2 138 i k = agA v2 138 6 24 i k := by simp [againS, up2, h116]
    rw [q]
    simp only [agA, e2, keepS]
    by_cases h119 : i = 119
    · subst h119
      have g := (f3 k)
      rw [e1 119 (by decide), e1 120 (by decide)] at g
      grind
    by_cases h120 : i = 120
    · subst h120
      have g := (f3 k)
      rw [e1 119 (by decide), e1 120 (by decide)] at g
      grind
    have g := congrFun ((f1 i h116 h119 h120 a).trans (e1 i b)) k
    by_cases c1 : i = 118
    · subst c1; grind
    by_cases c2 : i = 121
    · subst c2; grind
    by_cases c3 : i = 123
    · subst c3; grind
    by_cases c4 : i = 122
    · subst c4; grind
    grind
set_option maxRecDepth 100000 in
set_option maxHeartbeats 1000000 in
theorem c_X8_keep (gl : Launch) (Z : PL) (v : VV) (w : WV) (t : Nat) (hK : isK t) : CT gl yX8_keep cX8_keep 3 none 0 0 Z [.ref (zg Z 116), .ref (zg Z t)] v w (Qv Z (fun u => (upc v t (keepS v (v t)), w) = u)) := by
  refine g_met (by decide) (Nat.le_of_ble_eq_true rfl) ?_
  intro gp ge gs gm ga gb gh gc X h ls hl
  have hx := X.1
  have hb := X.2.1
  have hl : lv_has ls 3 [(0, .ref (zg Z 116)), (1, .ref (zg Z t))] := hl
  refine lv_iconst (v := 0) hx hb dX8_keep_0 (by decide) ?_
  refine lv_istore_n (lv' := [(2, .int 0), (0, .ref (zg Z 116)), (1, .ref (zg Z t))]) hx hb dX8_keep_1 rfl hl (by decide) rfl (fun ls hl => ?_)
  have L2 : ∀ (n2 : Nat) (i : Nat) (x2 : Int32) (va : VV), (x2 = nI i) → (i ≤ 6) → (va = upc v t (kpA v (v t) i)) → 6 - i < n2 → ∀ (H : Heap) (locs : List Loc), HS Z gs va w H locs → ∀ ls : Array Slot, lv_has ls 3 [(0, .ref (zg Z 116)), (1, .ref (zg Z t)), (2, .int x2)] → W gp gl ge (rmm 0 0) gs gm ga gb gh gc H locs 0 0 (MQ gb (Qv Z (fun u => (upc v t (keepS v (v t)), w) = u)) ga gs 0 0 (zA Z)) (F0 gm 2 ls []) := by
    intro n2
    induction n2 with
    | zero => intro i x2 va hi2 hi hva hmu; exact absurd hmu (Nat.not_lt_zero _)
    | succ n2 ih2 =>
      intro i x2 va hi2 hi hva hmu2 H locs h ls hl
      refine lv_iload_n hx hb dX8_keep_2 rfl (lv_at hl 2 rfl) ?_
      refine lv_bipush (v := 6) hx hb dX8_keep_3 (by decide) ?_
      refine lv_icmp_ge (tgt := 71) hx hb dX8_keep_5 (by decide) (fun c_5 => ?_) (fun c_5 => ?_)
      · skip
        have hil := nI_le1 (a := 6) (b := i) rfl hi2 (by omega) (by omega) c_5
        refine lv_iconst (v := 0) hx hb dX8_keep_71 (by decide) ?_
        refine lv_istore_n (lv' := [(2, .int 0), (0, .ref (zg Z 116)), (1, .ref (zg Z t))]) hx hb dX8_keep_72 rfl hl (by decide) rfl (fun ls hl => ?_)
        have L73 : ∀ (n73 : Nat) (i : Nat) (x2 : Int32) (vb : VV), (x2 = nI i) → (i ≤ 24) → (vb = upc v t (kpB v (v t) i)) → 24 - i < n73 → ∀ (H : Heap) (locs : List Loc), HS Z gs vb w H locs → ∀ ls : Array Slot, lv_has ls 3 [(0, .ref (zg Z 116)), (1, .ref (zg Z t)), (2, .int x2)] → W gp gl ge (rmm 0 0) gs gm ga gb gh gc H locs 0 0 (MQ gb (Qv Z (fun u => (upc v t (keepS v (v t)), w) = u)) ga gs 0 0 (zA Z)) (F0 gm 73 ls []) := by
          intro n73
          induction n73 with
          | zero => intro i x2 vb hi2 hi hvb hmu; exact absurd hmu (Nat.not_lt_zero _)
          | succ n73 ih73 =>
            intro i x2 vb hi2 hi hvb hmu73 H locs h ls hl
            refine lv_iload_n hx hb dX8_keep_73 rfl (lv_at hl 2 rfl) ?_
            refine lv_bipush (v := 24) hx hb dX8_keep_74 (by decide) ?_
            refine lv_icmp_ge (tgt := 97) hx hb dX8_keep_76 (by decide) (fun c_76 => ?_) (fun c_76 => ?_)
            · skip
              have hil := nI_le1 (a := 24) (b := i) rfl hi2 (by omega) (by omega) c_76
              refine lv_aload_n hx hb dX8_keep_97 rfl (lv_at hl 1 rfl) ?_
              refine lv_bipush (v := 54) hx hb dX8_keep_98 (by decide) ?_
              refine lv_aload_n hx hb dX8_keep_100 rfl (lv_at hl 0 rfl) ?_
              refine g_geti X h (k := 0) (cc_116) fr_RX8_111 rfl (by decide) dX8_keep_101 ?_
              refine g_tr (y := (v 116 0)) (by have hneq : ∀ j, j < 138 → t ≠ j ∧ j ≠ t := (by intro j hj; rcases hK with rfl | rfl <;> omega); simp [hvb, up2, upc, hneq]) ?_
              refine g_iast X h (k := 54) (cK_0 hK) rfl (by omega) (by decide) dX8_keep_104 (fun v104 H locs ev104 h => ?_)
              refine lv_aload_n hx hb dX8_keep_105 rfl (lv_at hl 1 rfl) ?_
              refine lv_bipush (v := 55) hx hb dX8_keep_106 (by decide) ?_
              refine lv_aload_n hx hb dX8_keep_108 rfl (lv_at hl 0 rfl) ?_
              refine g_geti X h (k := 7) (cc_116) fr_RX8_98 rfl (by decide) dX8_keep_109 ?_
              refine g_tr (y := (v 116 7)) (by have hneq : ∀ j, j < 138 → t ≠ j ∧ j ≠ t := (by intro j hj; rcases hK with rfl | rfl <;> omega); simp [ev104, hvb, up2, upc, hneq]) ?_
              refine g_iast X h (k := 55) (cK_0 hK) rfl (by omega) (by decide) dX8_keep_112 (fun v112 H locs ev112 h => ?_)
              refine lv_aload_n hx hb dX8_keep_113 rfl (lv_at hl 1 rfl) ?_
              refine lv_bipush (v := 56) hx hb dX8_keep_114 (by decide) ?_
              refine lv_aload_n hx hb dX8_keep_116 rfl (lv_at hl 0 rfl) ?_
              refine g_geti X h (k := 8) (cc_116) fr_RX8_136 rfl (by decide) dX8_keep_117 ?_
              refine g_tr (y := (v 116 8)) (by have hneq : ∀ j, j < 138 → t ≠ j ∧ j ≠ t := (by intro j hj; rcases hK with rfl | rfl <;> omega); simp [ev112, ev104, hvb, up2, upc, hneq]) ?_
              refine g_iast X h (k := 56) (cK_0 hK) rfl (by omega) (by decide) dX8_keep_120 (fun v120 H locs ev120 h => ?_)
              refine lv_aload_n hx hb dX8_keep_121 rfl (lv_at hl 1 rfl) ?_
              refine lv_bipush (v := 57) hx hb dX8_keep_122 (by decide) ?_
              refine lv_aload_n hx hb dX8_keep_124 rfl (lv_at hl 0 rfl) ?_
              refine g_geti X h (k := 9) (cc_116) fr_RX8_139 rfl (by decide) dX8_keep_125 ?_
              refine g_tr (y := (v 116 9)) (by have hneq : ∀ j, j < 138 → t ≠ j ∧ j ≠ t := (by intro j hj; rcases hK with rfl | rfl <;> omega); simp [ev120, ev112, ev104, hvb, up2, upc, hneq]) ?_
              refine g_iast X h (k := 57) (cK_0 hK) rfl (by omega) (by decide) dX8_keep_128 (fun v128 H locs ev128 h => ?_)
              refine lv_aload_n hx hb dX8_keep_129 rfl (lv_at hl 1 rfl) ?_
              refine lv_bipush (v := 58) hx hb dX8_keep_130 (by decide) ?_
              refine lv_aload_n hx hb dX8_keep_132 rfl (lv_at hl 0 rfl) ?_
              refine g_geti X h (k := 11) (cc_116) fr_RX8_224 rfl (by decide) dX8_keep_133 ?_
              refine g_tr (y := (v 116 11)) (by have hneq : ∀ j, j < 138 → t ≠ j ∧ j ≠ t := (by intro j hj; rcases hK with rfl | rfl <;> omega); simp [ev128, ev120, ev112, ev104, hvb, up2, upc, hneq]) ?_
              refine g_iast X h (k := 58) (cK_0 hK) rfl (by omega) (by decide) dX8_keep_136 (fun v136 H locs ev136 h => ?_)
              refine lv_aload_n hx hb dX8_keep_137 rfl (lv_at hl 1 rfl) ?_
              refine lv_bipush (v := 59) hx hb dX8_keep_138 (by decide) ?_
              refine lv_aload_n hx hb dX8_keep_140 rfl (lv_at hl 0 rfl) ?_
              refine g_geti X h (k := 15) (cc_116) fr_RX8_102 rfl (by decide) dX8_keep_141 ?_
              refine g_tr (y := (v 116 15)) (by have hneq : ∀ j, j < 138 → t ≠ j ∧ j ≠ t := (by intro j hj; rcases hK with rfl | rfl <;> omega); simp [ev136, ev128, ev120, ev112, ev104, hvb, up2, upc, hneq]) ?_
              refine g_iast X h (k := 59) (cK_0 hK) rfl (by omega) (by decide) dX8_keep_144 (fun v144 H locs ev144 h => ?_)
              refine lv_aload_n hx hb dX8_keep_145 rfl (lv_at hl 1 rfl) ?_
              refine lv_bipush (v := 60) hx hb dX8_keep_146 (by decide) ?_
              refine lv_aload_n hx hb dX8_keep_148 rfl (lv_at hl 0 rfl) ?_
              refine g_geti X h (k := 28) (cc_116) fr_RX8_296 rfl (by decide) dX8_keep_149 ?_
              refine g_tr (y := (v 116 28)) (by have hneq : ∀ j, j < 138 → t ≠ j ∧ j ≠ t := (by intro j hj; rcases hK with rfl | rfl <;> omega); simp [ev144, ev136, ev128, ev120, ev112, ev104, hvb, up2, upc, hneq]) ?_
              refine g_iast X h (k := 60) (cK_0 hK) rfl (by omega) (by decide) dX8_keep_152 (fun v152 H locs ev152 h => ?_)
              refine lv_aload_n hx hb dX8_keep_153 rfl (lv_at hl 1 rfl) ?_
              refine lv_bipush (v := 61) hx hb dX8_keep_154 (by decide) ?_
              refine lv_aload_n hx hb dX8_keep_156 rfl (lv_at hl 0 rfl) ?_
              refine g_geti X h (k := 31) (cc_116) fr_RX8_308 rfl (by decide) dX8_keep_157 ?_
              refine g_tr (y := (v 116 31)) (by have hneq : ∀ j, j < 138 → t ≠ j ∧ j ≠ t := (by intro j hj; rcases hK with rfl | rfl <;> omega); simp [ev152, ev144, ev136, ev128, ev120, ev112, ev104, hvb, up2, upc, hneq]) ?_
              refine g_iast X h (k := 61) (cK_0 hK) rfl (by omega) (by decide) dX8_keep_160 (fun v160 H locs ev160 h => ?_)
              refine lv_aload_n hx hb dX8_keep_161 rfl (lv_at hl 1 rfl) ?_
              refine lv_bipush (v := 62) hx hb dX8_keep_162 (by decide) ?_
              refine lv_aload_n hx hb dX8_keep_164 rfl (lv_at hl 0 rfl) ?_
              refine g_geti X h (k := 34) (cc_116) fr_RX8_311 rfl (by decide) dX8_keep_165 ?_
              refine g_tr (y := (v 116 34)) (by have hneq : ∀ j, j < 138 → t ≠ j ∧ j ≠ t := (by intro j hj; rcases hK with rfl | rfl <;> omega); simp [ev160, ev152, ev144, ev136, ev128, ev120, ev112, ev104, hvb, up2, upc, hneq]) ?_
              refine g_iast X h (k := 62) (cK_0 hK) rfl (by omega) (by decide) dX8_keep_168 (fun v168 H locs ev168 h => ?_)
              exact g_vret X h dX8_keep_169 (by refine congrArg (fun z => (z, w)) ?_; rw [ev168, ev160, ev152, ev144, ev136, ev128, ev120, ev112, ev104, hvb, show i = 24 by omega]; simp only [up2_upc]; rw [kpB_e])
            · skip
              have hil := nI_le0 (a := 24) (b := i) rfl hi2 (by omega) (by omega) c_76
              refine lv_aload_n hx hb dX8_keep_79 rfl (lv_at hl 1 rfl) ?_
              refine lv_bipush (v := 30) hx hb dX8_keep_80 (by decide) ?_
              refine lv_iload_n hx hb dX8_keep_82 rfl (lv_at hl 2 rfl) ?_
              refine lv_iadd hx hb dX8_keep_83 ?_
              refine lv_aload_n hx hb dX8_keep_84 rfl (lv_at hl 0 rfl) ?_
              refine g_getr X h (k := 6) (t := 122) (cc_116) fr_RX8_27 rfl (by decide) (by decide) (by decide) dX8_keep_85 ?_
              refine lv_iload_n hx hb dX8_keep_88 rfl (lv_at hl 2 rfl) ?_
              refine g_iald X h (k := i) (cc_122) hi2 (by omega) (by decide) dX8_keep_89 ?_
              refine g_tr (y := (v 122 i)) (by have hneq : ∀ j, j < 138 → t ≠ j ∧ j ≠ t := (by intro j hj; rcases hK with rfl | rfl <;> omega); simp [hvb, up2, upc, hneq]) ?_
              refine g_iast X h (k := (30 + i)) (cK_0 hK) (by rw [show (30) = nI 30 from rfl, show (x2) = nI i from hi2, nI_add]) (by omega) (by decide) dX8_keep_90 (fun v90 H locs ev90 h => ?_)
              refine lv_iinc (v := (x2 + 1)) (lv' := [(2, .int (x2 + 1)), (0, .ref (zg Z 116)), (1, .ref (zg Z t))]) hx hb dX8_keep_91 hl (k := 2) rfl rfl (by decide) rfl (fun ls hl => ?_)
              refine lv_goto (tgt := 73) hx hb dX8_keep_94 (by decide) ?_
              exact ih73 (i + 1) (x2 + 1) v90 (by rw [hi2]; exact nI_1 _) (by omega) (by rw [ev90, hvb, up2_upc, kpB_s (by omega)]) (by omega) _ _ h ls (lv_sub hl [1, 2, 0] rfl)
        exact L73 (24 - 0 + 1) 0 0 va rfl (Nat.zero_le _) (by rw [hva, kpB_0, show i = 6 by omega]) (Nat.lt_succ_self _) _ _ h ls (lv_sub hl [1, 2, 0] rfl)
      · skip
        have hil := nI_le0 (a := 6) (b := i) rfl hi2 (by omega) (by omega) c_5
        refine lv_aload_n hx hb dX8_keep_8 rfl (lv_at hl 1 rfl) ?_
        refine lv_iload_n hx hb dX8_keep_9 rfl (lv_at hl 2 rfl) ?_
        refine lv_aload_n hx hb dX8_keep_10 rfl (lv_at hl 0 rfl) ?_
        refine g_getr X h (k := 2) (t := 118) (cc_116) fr_RX8_15 rfl (by decide) (by decide) (by decide) dX8_keep_11 ?_
        refine lv_iload_n hx hb dX8_keep_14 rfl (lv_at hl 2 rfl) ?_
        refine g_iald X h (k := i) (cc_118) hi2 (by omega) (by decide) dX8_keep_15 ?_
        refine g_tr (y := (v 118 i)) (by have hneq : ∀ j, j < 138 → t ≠ j ∧ j ≠ t := (by intro j hj; rcases hK with rfl | rfl <;> omega); simp [hva, up2, upc, hneq]) ?_
        refine g_iast X h (k := i) (cK_0 hK) hi2 (by omega) (by decide) dX8_keep_16 (fun v16 H locs ev16 h => ?_)
        refine lv_aload_n hx hb dX8_keep_17 rfl (lv_at hl 1 rfl) ?_
        refine lv_bipush (v := 6) hx hb dX8_keep_18 (by decide) ?_
        refine lv_iload_n hx hb dX8_keep_20 rfl (lv_at hl 2 rfl) ?_
        refine lv_iadd hx hb dX8_keep_21 ?_
        refine lv_aload_n hx hb dX8_keep_22 rfl (lv_at hl 0 rfl) ?_
        refine g_getr X h (k := 3) (t := 119) (cc_116) fr_RX8_18 rfl (by decide) (by decide) (by decide) dX8_keep_23 ?_
        refine lv_iload_n hx hb dX8_keep_26 rfl (lv_at hl 2 rfl) ?_
        refine g_iald X h (k := i) (cc_119) hi2 (by omega) (by decide) dX8_keep_27 ?_
        refine g_tr (y := (v 119 i)) (by have hneq : ∀ j, j < 138 → t ≠ j ∧ j ≠ t := (by intro j hj; rcases hK with rfl | rfl <;> omega); simp [ev16, hva, up2, upc, hneq]) ?_
        refine g_iast X h (k := (6 + i)) (cK_0 hK) (by rw [show (6) = nI 6 from rfl, show (x2) = nI i from hi2, nI_add]) (by omega) (by decide) dX8_keep_28 (fun v28 H locs ev28 h => ?_)
        refine lv_aload_n hx hb dX8_keep_29 rfl (lv_at hl 1 rfl) ?_
        refine lv_bipush (v := 12) hx hb dX8_keep_30 (by decide) ?_
        refine lv_iload_n hx hb dX8_keep_32 rfl (lv_at hl 2 rfl) ?_
        refine lv_iadd hx hb dX8_keep_33 ?_
        refine lv_aload_n hx hb dX8_keep_34 rfl (lv_at hl 0 rfl) ?_
        refine g_getr X h (k := 4) (t := 120) (cc_116) fr_RX8_21 rfl (by decide) (by decide) (by decide) dX8_keep_35 ?_
        refine lv_iload_n hx hb dX8_keep_38 rfl (lv_at hl 2 rfl) ?_
        refine g_iald X h (k := i) (cc_120) hi2 (by omega) (by decide) dX8_keep_39 ?_
        refine g_tr (y := (v 120 i)) (by have hneq : ∀ j, j < 138 → t ≠ j ∧ j ≠ t := (by intro j hj; rcases hK with rfl | rfl <;> omega); simp [ev28, ev16, hva, up2, upc, hneq]) ?_
        refine g_iast X h (k := (12 + i)) (cK_0 hK) (by rw [show (12) = nI 12 from rfl, show (x2) = nI i from hi2, nI_add]) (by omega) (by decide) dX8_keep_40 (fun v40 H locs ev40 h => ?_)
        refine lv_aload_n hx hb dX8_keep_41 rfl (lv_at hl 1 rfl) ?_
        refine lv_bipush (v := 18) hx hb dX8_keep_42 (by decide) ?_
        refine lv_iload_n hx hb dX8_keep_44 rfl (lv_at hl 2 rfl) ?_
        refine lv_iadd hx hb dX8_keep_45 ?_
        refine lv_aload_n hx hb dX8_keep_46 rfl (lv_at hl 0 rfl) ?_
        refine g_getr X h (k := 5) (t := 121) (cc_116) fr_RX8_24 rfl (by decide) (by decide) (by decide) dX8_keep_47 ?_
        refine lv_iload_n hx hb dX8_keep_50 rfl (lv_at hl 2 rfl) ?_
        refine g_iald X h (k := i) (cc_121) hi2 (by omega) (by decide) dX8_keep_51 ?_
        refine g_tr (y := (v 121 i)) (by have hneq : ∀ j, j < 138 → t ≠ j ∧ j ≠ t := (by intro j hj; rcases hK with rfl | rfl <;> omega); simp [ev40, ev28, ev16, hva, up2, upc, hneq]) ?_
        refine g_iast X h (k := (18 + i)) (cK_0 hK) (by rw [show (18) = nI 18 from rfl, show (x2) = nI i from hi2, nI_add]) (by omega) (by decide) dX8_keep_52 (fun v52 H locs ev52 h => ?_)
        refine lv_aload_n hx hb dX8_keep_53 rfl (lv_at hl 1 rfl) ?_
        refine lv_bipush (v := 24) hx hb dX8_keep_54 (by decide) ?_
        refine lv_iload_n hx hb dX8_keep_56 rfl (lv_at hl 2 rfl) ?_
        refine lv_iadd hx hb dX8_keep_57 ?_
        refine lv_aload_n hx hb dX8_keep_58 rfl (lv_at hl 0 rfl) ?_
        refine g_getr X h (k := 10) (t := 123) (cc_116) fr_RX8_30 rfl (by decide) (by decide) (by decide) dX8_keep_59 ?_
        refine lv_iload_n hx hb dX8_keep_62 rfl (lv_at hl 2 rfl) ?_
        refine g_iald X h (k := i) (cc_123) hi2 (by omega) (by decide) dX8_keep_63 ?_
        refine g_tr (y := (v 123 i)) (by have hneq : ∀ j, j < 138 → t ≠ j ∧ j ≠ t := (by intro j hj; rcases hK with rfl | rfl <;> omega); simp [ev52, ev40, ev28, ev16, hva, up2, upc, hneq]) ?_
        refine g_iast X h (k := (24 + i)) (cK_0 hK) (by rw [show (24) = nI 24 from rfl, show (x2) = nI i from hi2, nI_add]) (by omega) (by decide) dX8_keep_64 (fun v64 H locs ev64 h => ?_)
        refine lv_iinc (v := (x2 + 1)) (lv' := [(2, .int (x2 + 1)), (0, .ref (zg Z 116)), (1, .ref (zg Z t))]) hx hb dX8_keep_65 hl (k := 2) rfl rfl (by decide) rfl (fun ls hl => ?_)
        refine lv_goto (tgt := 2) hx hb dX8_keep_68 (by decide) ?_
        exact ih2 (i + 1) (x2 + 1) v64 (by rw [hi2]; exact nI_1 _) (by omega) (by rw [ev64, ev52, ev40, ev28, ev16, hva, up2_upc, up2_upc, up2_upc, up2_upc, up2_upc, kpA_s (by omega)]) (by omega) _ _ h ls (lv_sub hl [1, 2, 0] rfl)
  exact L2 (6 - 0 + 1) 0 0 v rfl (Nat.zero_le _) (by rw [kpA_0, upc_self]) (Nat.lt_succ_self _) _ _ h ls (lv_sub hl [1, 2, 0] rfl)

set_option maxRecDepth 100000 in
set_option maxHeartbeats 1000000 in
theorem c_X8_again (gl : Launch) (Z : PL) (v : VV) (w : WV) (t : Nat) (hK : isK t) : CT gl yX8_again cX8_again 3 none 0 0 Z [.ref (zg Z 116), .ref (zg Z t)] v w (Qv Z (fun u => (againS v t, w) = u)) := by
  refine g_met (by decide) (Nat.le_of_ble_eq_true rfl) ?_
  intro gp ge gs gm ga gb gh gc X h ls hl
  have hx := X.1
  have hb := X.2.1
  have hl : lv_has ls 3 [(0, .ref (zg Z 116)), (1, .ref (zg Z t))] := hl
  refine lv_iconst (v := 0) hx hb dX8_again_0 (by decide) ?_
  refine lv_istore_n (lv' := [(2, .int 0), (0, .ref (zg Z 116)), (1, .ref (zg Z t))]) hx hb dX8_again_1 rfl hl (by decide) rfl (fun ls hl => ?_)
  have L2 : ∀ (n2 : Nat) (i : Nat) (x2 : Int32) (va : VV), (x2 = nI i) → (i ≤ 6) → (va = agA v t i 0) → 6 - i < n2 → ∀ (H : Heap) (locs : List Loc), HS Z gs va w H locs → ∀ ls : Array Slot, lv_has ls 3 [(0, .ref (zg Z 116)), (1, .ref (zg Z t)), (2, .int x2)] → W gp gl ge (rmm 0 0) gs gm ga gb gh gc H locs 0 0 (MQ gb (Qv Z (fun u => (againS v t, w) = u)) ga gs 0 0 (zA Z)) (F0 gm 2 ls []) := by
    intro n2
    induction n2 with
    | zero => intro i x2 va hi2 hi hva hmu; exact absurd hmu (Nat.not_lt_zero _)
    | succ n2 ih2 =>
      intro i x2 va hi2 hi hva hmu2 H locs h ls hl
      have hvt : va t = v t := by rw [hva]; exact agA_t hK
      refine lv_iload_n hx hb dX8_again_2 rfl (lv_at hl 2 rfl) ?_
      refine lv_bipush (v := 6) hx hb dX8_again_3 (by decide) ?_
      refine lv_icmp_ge (tgt := 71) hx hb dX8_again_5 (by decide) (fun c_5 => ?_) (fun c_5 => ?_)
      · skip
        have hil := nI_le1 (a := 6) (b := i) rfl hi2 (by omega) (by omega) c_5
        refine lv_iconst (v := 0) hx hb dX8_again_71 (by decide) ?_
        refine lv_istore_n (lv' := [(2, .int 0), (0, .ref (zg Z 116)), (1, .ref (zg Z t))]) hx hb dX8_again_72 rfl hl (by decide) rfl (fun ls hl => ?_)
        have L73 : ∀ (n73 : Nat) (i : Nat) (x2 : Int32) (vb : VV), (x2 = nI i) → (i ≤ 24) → (vb = agA v t 6 i) → 24 - i < n73 → ∀ (H : Heap) (locs : List Loc), HS Z gs vb w H locs → ∀ ls : Array Slot, lv_has ls 3 [(0, .ref (zg Z 116)), (1, .ref (zg Z t)), (2, .int x2)] → W gp gl ge (rmm 0 0) gs gm ga gb gh gc H locs 0 0 (MQ gb (Qv Z (fun u => (againS v t, w) = u)) ga gs 0 0 (zA Z)) (F0 gm 73 ls []) := by
          intro n73
          induction n73 with
          | zero => intro i x2 vb hi2 hi hvb hmu; exact absurd hmu (Nat.not_lt_zero _)
          | succ n73 ih73 =>
            intro i x2 vb hi2 hi hvb hmu73 H locs h ls hl
            have hvt : vb t = v t := by rw [hvb]; exact agA_t hK
            refine lv_iload_n hx hb dX8_again_73 rfl (lv_at hl 2 rfl) ?_
            refine lv_bipush (v := 24) hx hb dX8_again_74 (by decide) ?_
            refine lv_icmp_ge (tgt := 97) hx hb dX8_again_76 (by decide) (fun c_76 => ?_) (fun c_76 => ?_)
            · skip
              have hil := nI_le1 (a := 24) (b := i) rfl hi2 (by omega) (by omega) c_76
              refine lv_aload_n hx hb dX8_again_97 rfl (lv_at hl 0 rfl) ?_
              refine lv_aload_n hx hb dX8_again_98 rfl (lv_at hl 1 rfl) ?_
              refine lv_bipush (v := 54) hx hb dX8_again_99 (by decide) ?_
              refine g_iald X h (k := 54) (cK_0 hK) rfl (by omega) (by decide) dX8_again_101 ?_
              refine g_tr (y := (v t 54)) (by have hneq : ∀ j, j < 138 → t ≠ j ∧ j ≠ t := (by intro j hj; rcases hK with rfl | rfl <;> omega); simp [hvt, up2, upc, hneq]) ?_
              refine g_puti X h (k := 0) (cc_116) fp_RX8_111 rfl (by decide) dX8_again_102 (fun v102 H locs ev102 h => ?_)
              refine lv_aload_n hx hb dX8_again_105 rfl (lv_at hl 0 rfl) ?_
              refine lv_aload_n hx hb dX8_again_106 rfl (lv_at hl 1 rfl) ?_
              refine lv_bipush (v := 55) hx hb dX8_again_107 (by decide) ?_
              refine g_iald X h (k := 55) (cK_0 hK) rfl (by omega) (by decide) dX8_again_109 ?_
              refine g_tr (y := (v t 55)) (by have hneq : ∀ j, j < 138 → t ≠ j ∧ j ≠ t := (by intro j hj; rcases hK with rfl | rfl <;> omega); simp [ev102, hvt, up2, upc, hneq]) ?_
              refine g_puti X h (k := 7) (cc_116) fp_RX8_98 rfl (by decide) dX8_again_110 (fun v110 H locs ev110 h => ?_)
              refine lv_aload_n hx hb dX8_again_113 rfl (lv_at hl 0 rfl) ?_
              refine lv_aload_n hx hb dX8_again_114 rfl (lv_at hl 1 rfl) ?_
              refine lv_bipush (v := 56) hx hb dX8_again_115 (by decide) ?_
              refine g_iald X h (k := 56) (cK_0 hK) rfl (by omega) (by decide) dX8_again_117 ?_
              refine g_tr (y := (v t 56)) (by have hneq : ∀ j, j < 138 → t ≠ j ∧ j ≠ t := (by intro j hj; rcases hK with rfl | rfl <;> omega); simp [ev110, ev102, hvt, up2, upc, hneq]) ?_
              refine g_puti X h (k := 8) (cc_116) fp_RX8_136 rfl (by decide) dX8_again_118 (fun v118 H locs ev118 h => ?_)
              refine lv_aload_n hx hb dX8_again_121 rfl (lv_at hl 0 rfl) ?_
              refine lv_aload_n hx hb dX8_again_122 rfl (lv_at hl 1 rfl) ?_
              refine lv_bipush (v := 57) hx hb dX8_again_123 (by decide) ?_
              refine g_iald X h (k := 57) (cK_0 hK) rfl (by omega) (by decide) dX8_again_125 ?_
              refine g_tr (y := (v t 57)) (by have hneq : ∀ j, j < 138 → t ≠ j ∧ j ≠ t := (by intro j hj; rcases hK with rfl | rfl <;> omega); simp [ev118, ev110, ev102, hvt, up2, upc, hneq]) ?_
              refine g_puti X h (k := 9) (cc_116) fp_RX8_139 rfl (by decide) dX8_again_126 (fun v126 H locs ev126 h => ?_)
              refine lv_aload_n hx hb dX8_again_129 rfl (lv_at hl 0 rfl) ?_
              refine lv_aload_n hx hb dX8_again_130 rfl (lv_at hl 1 rfl) ?_
              refine lv_bipush (v := 58) hx hb dX8_again_131 (by decide) ?_
              refine g_iald X h (k := 58) (cK_0 hK) rfl (by omega) (by decide) dX8_again_133 ?_
              refine g_tr (y := (v t 58)) (by have hneq : ∀ j, j < 138 → t ≠ j ∧ j ≠ t := (by intro j hj; rcases hK with rfl | rfl <;> omega); simp [ev126, ev118, ev110, ev102, hvt, up2, upc, hneq]) ?_
              refine g_puti X h (k := 11) (cc_116) fp_RX8_224 rfl (by decide) dX8_again_134 (fun v134 H locs ev134 h => ?_)
              refine lv_aload_n hx hb dX8_again_137 rfl (lv_at hl 0 rfl) ?_
              refine lv_aload_n hx hb dX8_again_138 rfl (lv_at hl 1 rfl) ?_
              refine lv_bipush (v := 59) hx hb dX8_again_139 (by decide) ?_
              refine g_iald X h (k := 59) (cK_0 hK) rfl (by omega) (by decide) dX8_again_141 ?_
              refine g_tr (y := (v t 59)) (by have hneq : ∀ j, j < 138 → t ≠ j ∧ j ≠ t := (by intro j hj; rcases hK with rfl | rfl <;> omega); simp [ev134, ev126, ev118, ev110, ev102, hvt, up2, upc, hneq]) ?_
              refine g_puti X h (k := 15) (cc_116) fp_RX8_102 rfl (by decide) dX8_again_142 (fun v142 H locs ev142 h => ?_)
              refine lv_aload_n hx hb dX8_again_145 rfl (lv_at hl 0 rfl) ?_
              refine lv_aload_n hx hb dX8_again_146 rfl (lv_at hl 1 rfl) ?_
              refine lv_bipush (v := 60) hx hb dX8_again_147 (by decide) ?_
              refine g_iald X h (k := 60) (cK_0 hK) rfl (by omega) (by decide) dX8_again_149 ?_
              refine g_tr (y := (v t 60)) (by have hneq : ∀ j, j < 138 → t ≠ j ∧ j ≠ t := (by intro j hj; rcases hK with rfl | rfl <;> omega); simp [ev142, ev134, ev126, ev118, ev110, ev102, hvt, up2, upc, hneq]) ?_
              refine g_puti X h (k := 28) (cc_116) fp_RX8_296 rfl (by decide) dX8_again_150 (fun v150 H locs ev150 h => ?_)
              refine lv_aload_n hx hb dX8_again_153 rfl (lv_at hl 0 rfl) ?_
              refine lv_aload_n hx hb dX8_again_154 rfl (lv_at hl 1 rfl) ?_
              refine lv_bipush (v := 61) hx hb dX8_again_155 (by decide) ?_
              refine g_iald X h (k := 61) (cK_0 hK) rfl (by omega) (by decide) dX8_again_157 ?_
              refine g_tr (y := (v t 61)) (by have hneq : ∀ j, j < 138 → t ≠ j ∧ j ≠ t := (by intro j hj; rcases hK with rfl | rfl <;> omega); simp [ev150, ev142, ev134, ev126, ev118, ev110, ev102, hvt, up2, upc, hneq]) ?_
              refine g_puti X h (k := 31) (cc_116) fp_RX8_308 rfl (by decide) dX8_again_158 (fun v158 H locs ev158 h => ?_)
              refine lv_aload_n hx hb dX8_again_161 rfl (lv_at hl 0 rfl) ?_
              refine lv_aload_n hx hb dX8_again_162 rfl (lv_at hl 1 rfl) ?_
              refine lv_bipush (v := 62) hx hb dX8_again_163 (by decide) ?_
              refine g_iald X h (k := 62) (cK_0 hK) rfl (by omega) (by decide) dX8_again_165 ?_
              refine g_tr (y := (v t 62)) (by have hneq : ∀ j, j < 138 → t ≠ j ∧ j ≠ t := (by intro j hj; rcases hK with rfl | rfl <;> omega); simp [ev158, ev150, ev142, ev134, ev126, ev118, ev110, ev102, hvt, up2, upc, hneq]) ?_
              refine g_puti X h (k := 34) (cc_116) fp_RX8_311 rfl (by decide) dX8_again_166 (fun v166 H locs ev166 h => ?_)
              exact g_vret X h dX8_again_169 (by refine congrArg (fun z => (z, w)) ?_; rw [ev166, ev158, ev150, ev142, ev134, ev126, ev118, ev110, ev102, hvb, show i = 24 by omega]; rfl)
            · skip
              have hil := nI_le0 (a := 24) (b := i) rfl hi2 (by omega) (by omega) c_76
              refine lv_aload_n hx hb dX8_again_79 rfl (lv_at hl 0 rfl) ?_
              refine g_getr X h (k := 6) (t := 122) (cc_116) fr_RX8_27 rfl (by decide) (by decide) (by decide) dX8_again_80 ?_
              refine lv_iload_n hx hb dX8_again_83 rfl (lv_at hl 2 rfl) ?_
              refine lv_aload_n hx hb dX8_again_84 rfl (lv_at hl 1 rfl) ?_
              refine lv_bipush (v := 30) hx hb dX8_again_85 (by decide) ?_
              refine lv_iload_n hx hb dX8_again_87 rfl (lv_at hl 2 rfl) ?_
              refine lv_iadd hx hb dX8_again_88 ?_
              refine g_iald X h (k := (30 + i)) (cK_0 hK) (by rw [show (30) = nI 30 from rfl, show (x2) = nI i from hi2, nI_add]) (by omega) (by decide) dX8_again_89 ?_
              refine g_tr (y := (v t (30 + i))) (by have hneq : ∀ j, j < 138 → t ≠ j ∧ j ≠ t := (by intro j hj; rcases hK with rfl | rfl <;> omega); simp [hvt, up2, upc, hneq]) ?_
              refine g_iast X h (k := i) (cc_122) hi2 (by omega) (by decide) dX8_again_90 (fun v90 H locs ev90 h => ?_)
              refine lv_iinc (v := (x2 + 1)) (lv' := [(2, .int (x2 + 1)), (0, .ref (zg Z 116)), (1, .ref (zg Z t))]) hx hb dX8_again_91 hl (k := 2) rfl rfl (by decide) rfl (fun ls hl => ?_)
              refine lv_goto (tgt := 73) hx hb dX8_again_94 (by decide) ?_
              exact ih73 (i + 1) (x2 + 1) v90 (by rw [hi2]; exact nI_1 _) (by omega) (by rw [ev90, hvb, agB_s]) (by omega) _ _ h ls (lv_sub hl [1, 2, 0] rfl)
        exact L73 (24 - 0 + 1) 0 0 va rfl (Nat.zero_le _) (by rw [hva, show i = 6 by omega]) (Nat.lt_succ_self _) _ _ h ls (lv_sub hl [1, 2, 0] rfl)
      · skip
        have hil := nI_le0 (a := 6) (b := i) rfl hi2 (by omega) (by omega) c_5
        refine lv_aload_n hx hb dX8_again_8 rfl (lv_at hl 0 rfl) ?_
        refine g_getr X h (k := 2) (t := 118) (cc_116) fr_RX8_15 rfl (by decide) (by decide) (by decide) dX8_again_9 ?_
        refine lv_iload_n hx hb dX8_again_12 rfl (lv_at hl 2 rfl) ?_
        refine lv_aload_n hx hb dX8_again_13 rfl (lv_at hl 1 rfl) ?_
        refine lv_iload_n hx hb dX8_again_14 rfl (lv_at hl 2 rfl) ?_
        refine g_iald X h (k := i) (cK_0 hK) hi2 (by omega) (by decide) dX8_again_15 ?_
        refine g_tr (y := (v t i)) (by have hneq : ∀ j, j < 138 → t ≠ j ∧ j ≠ t := (by intro j hj; rcases hK with rfl | rfl <;> omega); simp [hvt, up2, upc, hneq]) ?_
        refine g_iast X h (k := i) (cc_118) hi2 (by omega) (by decide) dX8_again_16 (fun v16 H locs ev16 h => ?_)
        refine lv_aload_n hx hb dX8_again_17 rfl (lv_at hl 0 rfl) ?_
        refine g_getr X h (k := 3) (t := 119) (cc_116) fr_RX8_18 rfl (by decide) (by decide) (by decide) dX8_again_18 ?_
        refine lv_iload_n hx hb dX8_again_21 rfl (lv_at hl 2 rfl) ?_
        refine lv_aload_n hx hb dX8_again_22 rfl (lv_at hl 1 rfl) ?_
        refine lv_bipush (v := 6) hx hb dX8_again_23 (by decide) ?_
        refine lv_iload_n hx hb dX8_again_25 rfl (lv_at hl 2 rfl) ?_
        refine lv_iadd hx hb dX8_again_26 ?_
        refine g_iald X h (k := (6 + i)) (cK_0 hK) (by rw [show (6) = nI 6 from rfl, show (x2) = nI i from hi2, nI_add]) (by omega) (by decide) dX8_again_27 ?_
        refine g_tr (y := (v t (6 + i))) (by have hneq : ∀ j, j < 138 → t ≠ j ∧ j ≠ t := (by intro j hj; rcases hK with rfl | rfl <;> omega); simp [ev16, hvt, up2, upc, hneq]) ?_
        refine g_iast X h (k := i) (cc_119) hi2 (by omega) (by decide) dX8_again_28 (fun v28 H locs ev28 h => ?_)
        refine lv_aload_n hx hb dX8_again_29 rfl (lv_at hl 0 rfl) ?_
        refine g_getr X h (k := 4) (t := 120) (cc_116) fr_RX8_21 rfl (by decide) (by decide) (by decide) dX8_again_30 ?_
        refine lv_iload_n hx hb dX8_again_33 rfl (lv_at hl 2 rfl) ?_
        refine lv_aload_n hx hb dX8_again_34 rfl (lv_at hl 1 rfl) ?_
        refine lv_bipush (v := 12) hx hb dX8_again_35 (by decide) ?_
        refine lv_iload_n hx hb dX8_again_37 rfl (lv_at hl 2 rfl) ?_
        refine lv_iadd hx hb dX8_again_38 ?_
        refine g_iald X h (k := (12 + i)) (cK_0 hK) (by rw [show (12) = nI 12 from rfl, show (x2) = nI i from hi2, nI_add]) (by omega) (by decide) dX8_again_39 ?_
        refine g_tr (y := (v t (12 + i))) (by have hneq : ∀ j, j < 138 → t ≠ j ∧ j ≠ t := (by intro j hj; rcases hK with rfl | rfl <;> omega); simp [ev28, ev16, hvt, up2, upc, hneq]) ?_
        refine g_iast X h (k := i) (cc_120) hi2 (by omega) (by decide) dX8_again_40 (fun v40 H locs ev40 h => ?_)
        refine lv_aload_n hx hb dX8_again_41 rfl (lv_at hl 0 rfl) ?_
        refine g_getr X h (k := 5) (t := 121) (cc_116) fr_RX8_24 rfl (by decide) (by decide) (by decide) dX8_again_42 ?_
        refine lv_iload_n hx hb dX8_again_45 rfl (lv_at hl 2 rfl) ?_
        refine lv_aload_n hx hb dX8_again_46 rfl (lv_at hl 1 rfl) ?_
        refine lv_bipush (v := 18) hx hb dX8_again_47 (by decide) ?_
        refine lv_iload_n hx hb dX8_again_49 rfl (lv_at hl 2 rfl) ?_
        refine lv_iadd hx hb dX8_again_50 ?_
        refine g_iald X h (k := (18 + i)) (cK_0 hK) (by rw [show (18) = nI 18 from rfl, show (x2) = nI i from hi2, nI_add]) (by omega) (by decide) dX8_again_51 ?_
        refine g_tr (y := (v t (18 + i))) (by have hneq : ∀ j, j < 138 → t ≠ j ∧ j ≠ t := (by intro j hj; rcases hK with rfl | rfl <;> omega); simp [ev40, ev28, ev16, hvt, up2, upc, hneq]) ?_
        refine g_iast X h (k := i) (cc_121) hi2 (by omega) (by decide) dX8_again_52 (fun v52 H locs ev52 h => ?_)
        refine lv_aload_n hx hb dX8_again_53 rfl (lv_at hl 0 rfl) ?_
        refine g_getr X h (k := 10) (t := 123) (cc_116) fr_RX8_30 rfl (by decide) (by decide) (by decide) dX8_again_54 ?_
        refine lv_iload_n hx hb dX8_again_57 rfl (lv_at hl 2 rfl) ?_
        refine lv_aload_n hx hb dX8_again_58 rfl (lv_at hl 1 rfl) ?_
        refine lv_bipush (v := 24) hx hb dX8_again_59 (by decide) ?_
        refine lv_iload_n hx hb dX8_again_61 rfl (lv_at hl 2 rfl) ?_
        refine lv_iadd hx hb dX8_again_62 ?_
        refine g_iald X h (k := (24 + i)) (cK_0 hK) (by rw [show (24) = nI 24 from rfl, show (x2) = nI i from hi2, nI_add]) (by omega) (by decide) dX8_again_63 ?_
        refine g_tr (y := (v t (24 + i))) (by have hneq : ∀ j, j < 138 → t ≠ j ∧ j ≠ t := (by intro j hj; rcases hK with rfl | rfl <;> omega); simp [ev52, ev40, ev28, ev16, hvt, up2, upc, hneq]) ?_
        refine g_iast X h (k := i) (cc_123) hi2 (by omega) (by decide) dX8_again_64 (fun v64 H locs ev64 h => ?_)
        refine lv_iinc (v := (x2 + 1)) (lv' := [(2, .int (x2 + 1)), (0, .ref (zg Z 116)), (1, .ref (zg Z t))]) hx hb dX8_again_65 hl (k := 2) rfl rfl (by decide) rfl (fun ls hl => ?_)
        refine lv_goto (tgt := 2) hx hb dX8_again_68 (by decide) ?_
        exact ih2 (i + 1) (x2 + 1) v64 (by rw [hi2]; exact nI_1 _) (by omega) (by rw [ev64, ev52, ev40, ev28, ev16, hva, agA_s]) (by omega) _ _ h ls (lv_sub hl [1, 2, 0] rfl)
  exact L2 (6 - 0 + 1) 0 0 v rfl (Nat.zero_le _) (agA_0 v t).symm (Nat.lt_succ_self _) _ _ h ls (lv_sub hl [1, 2, 0] rfl)
