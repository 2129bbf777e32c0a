/-! one call: the class answers, the reference answers the same, and what held between calls holds again -/
def SimI (gl : Launch) (Z : PL) (y7 : MethodName) (b7 : ByteArray) (n7 : Nat) (y8 : MethodName) (b8 : ByteArray) (n8 : Nat) (As : List Value) (v : VV) (w : WV) : Prop := ∃ (f7 l7 : Nat) (P1 : Int32 → VW → Prop), CT gl y7 b7 n7 (some .int) f7 l7 Z (.ref (zg Z 0) :: As) v w (Qi Z P1) ∧ (f7 ≤ 100 ∧ l7 ≤ 1000) ∧ ∀ (r1 : Int32) (u1 : VW), P1 r1 u1 → ∃ (f8 l8 : Nat) (P2 : Int32 → VW → Prop), CT gl y8 b8 n8 (some .int) f8 l8 Z (.ref (zg Z 116) :: As) u1.1 u1.2 (Qi Z P2) ∧ (f8 ≤ 100 ∧ l8 ≤ 1000) ∧ ∀ (r2 : Int32) (u2 : VW), P2 r2 u2 → r1 = r2 ∧ OKv u2
def SimL (gl : Launch) (Z : PL) (y7 : MethodName) (b7 : ByteArray) (n7 : Nat) (y8 : MethodName) (b8 : ByteArray) (n8 : Nat) (As : List Value) (v : VV) (w : WV) : Prop := ∃ (f7 l7 : Nat) (P1 : Int64 → VW → Prop), CT gl y7 b7 n7 (some .long) f7 l7 Z (.ref (zg Z 0) :: As) v w (Ql Z P1) ∧ (f7 ≤ 100 ∧ l7 ≤ 1000) ∧ ∀ (r1 : Int64) (u1 : VW), P1 r1 u1 → ∃ (f8 l8 : Nat) (P2 : Int64 → VW → Prop), CT gl y8 b8 n8 (some .long) f8 l8 Z (.ref (zg Z 116) :: As) u1.1 u1.2 (Ql Z P2) ∧ (f8 ≤ 100 ∧ l8 ≤ 1000) ∧ ∀ (r2 : Int64) (u2 : VW), P2 r2 u2 → r1 = r2 ∧ OKv u2
theorem judF_cong {th th' : Nat → Int32} {ts sz : Int32} {it it' : Nat → Int64} {t z n : Nat} {x : Int32} (hn : n ≤ 6) (hth : ∀ q, q < n → th q = th' q) (hz : sz = nI z) (hz6 : z ≤ 60) (hit : ∀ j, j < z → it (60 * t + j) = it' (60 * t + j)) : ∀ f q, q + f ≤ n → judF th ts sz it t x f q = judF th' ts sz it' t x f q := by
  intro f
  induction f with
  | zero => intro q _; rfl
  | succ f ih =>
    intro q hq
    rw [judF, judF]
    by_cases o : ts = -1 ∨ x < 0 ∨ ¬ x.toInt64 + (nI q).toInt64 < sz.toInt64
    · rw [if_pos o, if_pos o]
    · rw [if_neg o, if_neg o]
      have q2 : ¬ x < 0 := fun h => o (Or.inr (Or.inl h))
      have q3 : x.toInt64 + (nI q).toInt64 < sz.toInt64 := Decidable.byContradiction fun h => o (Or.inr (Or.inr h))
      obtain ⟨i, hi9, hi⟩ := nI_of q2
      have hc : x.toNatClampNeg = i := by rw [hi]; exact nI_clamp hi9
      rw [hi, hz, nI_l hi9, nI_l (by omega), nI_l (by omega), lN_add] at q3
      have hiz : i + q < z := (pk_lLT (by omega) (by omega)).mp q3
      rw [hc, show 60 * t + i + q = 60 * t + (i + q) by omega, hit _ hiz, hth q (by omega), ih (q + 1) (by omega)]
theorem sJudge_eq {v : VV} {w : WV} {n a : Nat} {L : LND} (hw : IW v n a L) (h : IF v w) (x y : Int32) : sJudge n (v 56) (v 113) (v 114) (w 115) x y = sJudge n (v 119) (v 142) (v 143) (w 144) x y := by
  obtain ⟨t1, t2, t3, t4⟩ := h
  have h6 := hw.1.2
  rw [t1, t2]
  unfold sJudge
  by_cases q : inR x 0 5 = true
  · rw [if_pos q, if_pos q]
    obtain ⟨t, b1, b2, b3, b4⟩ := inR_nat (a := 0) (b := 5) rfl rfl (by decide) q
    rw [b4]
    by_cases q2 : v 142 t = -1 ∨ v 142 t = 1
    · rw [if_pos q2, if_pos q2]
      obtain ⟨z, z1, z2⟩ := sz_nat t3 (show t < 6 by omega)
      exact judF_cong h6 (fun q hq => IW_th hw (by omega)) z2 z1 (fun j hj => t4 t j z (by omega) z2 hj z1) n 0 (by omega)
    · rw [if_neg q2, if_neg q2]
  · rw [if_neg q, if_neg q]
theorem IC_at {v : VV} {n : Nat} (h : IC v n) : ∃ zs zw zb : Nat, (v 61 2 = nI zs ∧ v 116 28 = nI zs) ∧ (v 64 2 = nI zw ∧ v 116 31 = nI zw) ∧ (v 67 2 = nI zb ∧ v 116 34 = nI zb) ∧ IP n zs zw zb (v 62) (v 63) (v 65) (v 66) (v 68) (v 69) (v 132) (v 133) (v 134) (v 135) (v 136) (v 137) := h

theorem sim_of (gl : Launch) (Z : PL) {v : VV} {w : WV} (hok : OKv (v, w)) (x0 : Int32) (x1 : Int32) : SimI gl Z yX7_of cX7_of 4 yX8_of cX8_of 3 [.int x0, .int x1] v w := by
  obtain ⟨n, k, a, cc, Ls, h⟩ := hok
  have h : INV v w n k a cc Ls := h
  refine ⟨_, _, _, c_X7_of gl Z v w x0 x1 n 9999 a (LLs Ls a) (IW_CN h.2.1 h.1 h.2.2.1), ⟨by decide, by decide⟩, fun r1 u1 c1 => ?_⟩
  have hw : w = u1.2 := congrArg Prod.snd c1.2.1
  have hf := frI_C c1.2.2
  have h1 : INV u1.1 u1.2 n k a cc Ls := by rw [← hw]; exact INV_fr hf h
  refine ⟨_, _, _, c_X8_of gl Z u1.1 u1.2 x0 x1 n 9999 (LLs Ls a) (IW_DM h1.2.1 h1.1 h1.2.2.1), ⟨by decide, by decide⟩, fun r2 u2 c2 => ?_⟩
  obtain ⟨e4, f, e5⟩ := c2
  subst e5
  exact ⟨by rw [c1.1, e4, INV_X hf h], ⟨n, k, a, cc, Ls, INV_fr (frI_stk rfl) h1⟩⟩
theorem sim_told (gl : Launch) (Z : PL) {v : VV} {w : WV} (hok : OKv (v, w)) (x0 : Int32) : SimI gl Z yX7_told cX7_told 2 yX8_told cX8_told 2 [.int x0] v w := by
  obtain ⟨n, k, a, cc, Ls, h⟩ := hok
  have h : INV v w n k a cc Ls := h
  refine ⟨_, _, _, c_X7_told gl Z v w x0 n 9999 a (LLs Ls a) (IW_CN h.2.1 h.1 h.2.2.1), ⟨by decide, by decide⟩, fun r1 u1 c1 => ?_⟩
  have hw : w = u1.2 := congrArg Prod.snd c1.2.1
  have hf := frI_C c1.2.2
  have h1 : INV u1.1 u1.2 n k a cc Ls := by rw [← hw]; exact INV_fr hf h
  refine ⟨_, _, _, c_X8_told gl Z u1.1 u1.2 x0 n 9999 (LLs Ls a) (IW_DM h1.2.1 h1.1 h1.2.2.1), ⟨by decide, by decide⟩, fun r2 u2 c2 => ?_⟩
  obtain ⟨e4, f, e5⟩ := c2
  subst e5
  exact ⟨by rw [c1.1, e4, INV_X hf h], ⟨n, k, a, cc, Ls, INV_fr (frI_stk rfl) h1⟩⟩
theorem sim_on (gl : Launch) (Z : PL) {v : VV} {w : WV} (hok : OKv (v, w)) (x0 : Int32) (x1 : Int32) : SimI gl Z yX7_on cX7_on 5 yX8_on cX8_on 4 [.int x0, .int x1] v w := by
  obtain ⟨n, k, a, cc, Ls, h⟩ := hok
  have h : INV v w n k a cc Ls := h
  refine ⟨_, _, _, c_X7_on gl Z v w x0 x1 n 9999 a (LLs Ls a) (IW_CN h.2.1 h.1 h.2.2.1) (by decide), ⟨by decide, by decide⟩, fun r1 u1 c1 => ?_⟩
  have hw : w = u1.2 := congrArg Prod.snd c1.2.1
  have hf := frI_C c1.2.2
  have h1 : INV u1.1 u1.2 n k a cc Ls := by rw [← hw]; exact INV_fr hf h
  refine ⟨_, _, _, c_X8_on gl Z u1.1 u1.2 x0 x1 n 9999 (LLs Ls a) (IW_DM h1.2.1 h1.1 h1.2.2.1) (by decide), ⟨by decide, by decide⟩, fun r2 u2 c2 => ?_⟩
  have hw2 : u1.2 = u2.2 := by have q := congrArg Prod.snd c2.2.1; exact q
  exact ⟨by rw [c1.1, c2.1, INV_X hf h], ⟨n, k, a, cc, Ls, by rw [← hw2]; exact INV_fr (frI_M c2.2.2) h1⟩⟩
theorem sim_dies (gl : Launch) (Z : PL) {v : VV} {w : WV} (hok : OKv (v, w)) : SimI gl Z yX7_dies cX7_dies 2 yX8_dies cX8_dies 2 [] v w := by
  obtain ⟨n, k, a, cc, Ls, h⟩ := hok
  have h : INV v w n k a cc Ls := h
  refine ⟨_, _, _, c_X7_dies gl Z v w n 9999 a (LLs Ls a) (IW_CN h.2.1 h.1 h.2.2.1) (by decide), ⟨by decide, by decide⟩, fun r1 u1 c1 => ?_⟩
  have hw : w = u1.2 := congrArg Prod.snd c1.2.1
  have hf := frI_C c1.2.2
  have h1 : INV u1.1 u1.2 n k a cc Ls := by rw [← hw]; exact INV_fr hf h
  refine ⟨_, _, _, c_X8_dies gl Z u1.1 u1.2 n 9999 (LLs Ls a) (IW_DM h1.2.1 h1.1 h1.2.2.1) (by decide), ⟨by decide, by decide⟩, fun r2 u2 c2 => ?_⟩
  have hw2 : u1.2 = u2.2 := by have q := congrArg Prod.snd c2.2.1; exact q
  exact ⟨by rw [c1.1, c2.1, INV_X hf h], ⟨n, k, a, cc, Ls, by rw [← hw2]; exact INV_fr (frI_M c2.2.2) h1⟩⟩
theorem sim_worst (gl : Launch) (Z : PL) {v : VV} {w : WV} (hok : OKv (v, w)) (x0 : Int32) (x1 : Int32) : SimI gl Z yX7_worst cX7_worst 6 yX8_worst cX8_worst 6 [.int x0, .int x1] v w := by
  obtain ⟨n, k, a, cc, Ls, h⟩ := hok
  have h : INV v w n k a cc Ls := h
  refine ⟨_, _, _, c_X7_worst gl Z v w x0 x1 n 9999 a (LLs Ls a) (IW_CN h.2.1 h.1 h.2.2.1) (by decide), ⟨by decide, by decide⟩, fun r1 u1 c1 => ?_⟩
  have hw : w = u1.2 := congrArg Prod.snd c1.2.1
  have hf := frI_C c1.2.2
  have h1 : INV u1.1 u1.2 n k a cc Ls := by rw [← hw]; exact INV_fr hf h
  refine ⟨_, _, _, c_X8_worst gl Z u1.1 u1.2 x0 x1 n 9999 (LLs Ls a) (IW_DM h1.2.1 h1.1 h1.2.2.1) (by decide), ⟨by decide, by decide⟩, fun r2 u2 c2 => ?_⟩
  have hw2 : u1.2 = u2.2 := by have q := congrArg Prod.snd c2.2.1; exact q
  exact ⟨by rw [c1.1, c2.1, INV_X hf h], ⟨n, k, a, cc, Ls, by rw [← hw2]; exact INV_fr (frI_M c2.2.2) h1⟩⟩
theorem sim_aim (gl : Launch) (Z : PL) {v : VV} {w : WV} (hok : OKv (v, w)) : SimI gl Z yX7_aim cX7_aim 4 yX8_aim cX8_aim 7 [] v w := by
  obtain ⟨n, k, a, cc, Ls, h⟩ := hok
  have h : INV v w n k a cc Ls := h
  refine ⟨_, _, _, c_X7_aim gl Z v w n 9999 a (LLs Ls a) (IW_CN h.2.1 h.1 h.2.2.1) (by decide), ⟨by decide, by decide⟩, fun r1 u1 c1 => ?_⟩
  have hw : w = u1.2 := congrArg Prod.snd c1.2.1
  have hf := frI_C c1.2.2
  have h1 : INV u1.1 u1.2 n k a cc Ls := by rw [← hw]; exact INV_fr hf h
  refine ⟨_, _, _, c_X8_aim gl Z u1.1 u1.2 n 9999 (LLs Ls a) (IW_DM h1.2.1 h1.1 h1.2.2.1) (by decide), ⟨by decide, by decide⟩, fun r2 u2 c2 => ?_⟩
  have hw2 : u1.2 = u2.2 := by have q := congrArg Prod.snd c2.2.1; exact q
  exact ⟨by rw [c1.1, c2.1, INV_X hf h], ⟨n, k, a, cc, Ls, by rw [← hw2]; exact INV_fr (frI_M c2.2.2) h1⟩⟩
theorem sim_swap (gl : Launch) (Z : PL) {v : VV} {w : WV} (hok : OKv (v, w)) : SimI gl Z yX7_swap cX7_swap 5 yX8_swap cX8_swap 6 [] v w := by
  obtain ⟨n, k, a, cc, Ls, h⟩ := hok
  have h : INV v w n k a cc Ls := h
  refine ⟨_, _, _, c_X7_swap gl Z v w n 9999 a (LLs Ls a) (IW_CN h.2.1 h.1 h.2.2.1) (by decide), ⟨by decide, by decide⟩, fun r1 u1 c1 => ?_⟩
  have hw : w = u1.2 := congrArg Prod.snd c1.2.1
  have hf := frI_C c1.2.2
  have h1 : INV u1.1 u1.2 n k a cc Ls := by rw [← hw]; exact INV_fr hf h
  refine ⟨_, _, _, c_X8_swap gl Z u1.1 u1.2 n 9999 (LLs Ls a) (IW_DM h1.2.1 h1.1 h1.2.2.1) (by decide), ⟨by decide, by decide⟩, fun r2 u2 c2 => ?_⟩
  have hw2 : u1.2 = u2.2 := by have q := congrArg Prod.snd c2.2.1; exact q
  exact ⟨by rw [c1.1, c2.1, INV_X hf h], ⟨n, k, a, cc, Ls, by rw [← hw2]; exact INV_fr (frI_M c2.2.2) h1⟩⟩
theorem sim_enough (gl : Launch) (Z : PL) {v : VV} {w : WV} (hok : OKv (v, w)) (x0 : Int32) : SimI gl Z yX7_enough cX7_enough 3 yX8_enough cX8_enough 4 [.int x0] v w := by
  obtain ⟨n, k, a, cc, Ls, h⟩ := hok
  have h : INV v w n k a cc Ls := h
  refine ⟨_, _, _, c_X7_enough gl Z v w x0 n 9999 a (LLs Ls a) (IW_CN h.2.1 h.1 h.2.2.1) (by decide), ⟨by decide, by decide⟩, fun r1 u1 c1 => ?_⟩
  have hw : w = u1.2 := congrArg Prod.snd c1.2.1
  have hf := frI_C c1.2.2
  have h1 : INV u1.1 u1.2 n k a cc Ls := by rw [← hw]; exact INV_fr hf h
  refine ⟨_, _, _, c_X8_enough gl Z u1.1 u1.2 x0 n 9999 (LLs Ls a) (IW_DM h1.2.1 h1.1 h1.2.2.1) (by decide) h1.2.2.1.2.2.2.2.1.2, ⟨by decide, by decide⟩, fun r2 u2 c2 => ?_⟩
  have hw2 : u1.2 = u2.2 := by have q := congrArg Prod.snd c2.2.1; exact q
  exact ⟨by rw [c1.1, c2.1, INV_X hf h], ⟨n, k, a, cc, Ls, by rw [← hw2]; exact INV_fr (frI_M c2.2.2) h1⟩⟩
theorem sim_bears (gl : Launch) (Z : PL) {v : VV} {w : WV} (hok : OKv (v, w)) (x0 : Int32) : SimI gl Z yX7_bears cX7_bears 3 yX8_bears cX8_bears 4 [.int x0] v w := by
  obtain ⟨n, k, a, cc, Ls, h⟩ := hok
  have h : INV v w n k a cc Ls := h
  refine ⟨_, _, _, c_X7_bears gl Z v w x0 n 9999 a (LLs Ls a) (IW_CN h.2.1 h.1 h.2.2.1) (by decide), ⟨by decide, by decide⟩, fun r1 u1 c1 => ?_⟩
  have hw : w = u1.2 := congrArg Prod.snd c1.2.1
  have hf := frI_C c1.2.2
  have h1 : INV u1.1 u1.2 n k a cc Ls := by rw [← hw]; exact INV_fr hf h
  refine ⟨_, _, _, c_X8_bears gl Z u1.1 u1.2 x0 n 9999 (LLs Ls a) (IW_DM h1.2.1 h1.1 h1.2.2.1) (by decide) h1.2.2.1.2.2.2.2.1.1, ⟨by decide, by decide⟩, fun r2 u2 c2 => ?_⟩
  have hw2 : u1.2 = u2.2 := by have q := congrArg Prod.snd c2.2.1; exact q
  exact ⟨by rw [c1.1, c2.1, INV_X hf h], ⟨n, k, a, cc, Ls, by rw [← hw2]; exact INV_fr (frI_M c2.2.2) h1⟩⟩
theorem sim_whose (gl : Launch) (Z : PL) {v : VV} {w : WV} (hok : OKv (v, w)) (x0 : Int32) : SimI gl Z yX7_whose cX7_whose 4 yX8_whose cX8_whose 4 [.int x0] v w := by
  obtain ⟨n, k, a, cc, Ls, h⟩ := hok
  have h : INV v w n k a cc Ls := h
  refine ⟨_, _, _, c_X7_whose gl Z v w x0 n 9999 a (LLs Ls a) (IW_CN h.2.1 h.1 h.2.2.1) (by decide), ⟨by decide, by decide⟩, fun r1 u1 c1 => ?_⟩
  have hw : w = u1.2 := congrArg Prod.snd c1.2.1
  have hf := frI_C c1.2.2
  have h1 : INV u1.1 u1.2 n k a cc Ls := by rw [← hw]; exact INV_fr hf h
  refine ⟨_, _, _, c_X8_whose gl Z u1.1 u1.2 x0 n 9999 (LLs Ls a) (IW_DM h1.2.1 h1.1 h1.2.2.1) (by decide), ⟨by decide, by decide⟩, fun r2 u2 c2 => ?_⟩
  have hw2 : u1.2 = u2.2 := by have q := congrArg Prod.snd c2.2.1; exact q
  exact ⟨by rw [c1.1, c2.1, INV_X hf h], ⟨n, k, a, cc, Ls, by rw [← hw2]; exact INV_fr (frI_M c2.2.2) h1⟩⟩
theorem sim_odds (gl : Launch) (Z : PL) {v : VV} {w : WV} (hok : OKv (v, w)) (x0 : Int32) (x1 : Int32) : SimL gl Z yX7_odds cX7_odds 6 yX8_odds cX8_odds 5 [.int x0, .int x1] v w := by
  obtain ⟨n, k, a, cc, Ls, h⟩ := hok
  have h : INV v w n k a cc Ls := h
  refine ⟨_, _, _, c_X7_odds gl Z v w x0 x1 n 9999 a (LLs Ls a) (IW_CN h.2.1 h.1 h.2.2.1) (by decide), ⟨by decide, by decide⟩, fun r1 u1 c1 => ?_⟩
  have hw : w = u1.2 := congrArg Prod.snd c1.2.1
  have hf := frI_C c1.2.2
  have h1 : INV u1.1 u1.2 n k a cc Ls := by rw [← hw]; exact INV_fr hf h
  refine ⟨_, _, _, c_X8_odds gl Z u1.1 u1.2 x0 x1 n 9999 (LLs Ls a) (IW_DM h1.2.1 h1.1 h1.2.2.1) (by decide), ⟨by decide, by decide⟩, fun r2 u2 c2 => ?_⟩
  have hw2 : u1.2 = u2.2 := by have q := congrArg Prod.snd c2.2.1; exact q
  exact ⟨by rw [c1.1, c2.1, INV_X hf h], ⟨n, k, a, cc, Ls, by rw [← hw2]; exact INV_fr (frI_M c2.2.2) h1⟩⟩
theorem sim_mean (gl : Launch) (Z : PL) {v : VV} {w : WV} (hok : OKv (v, w)) (x0 : Int32) (x1 : Int32) : SimL gl Z yX7_mean cX7_mean 6 yX8_mean cX8_mean 5 [.int x0, .int x1] v w := by
  obtain ⟨n, k, a, cc, Ls, h⟩ := hok
  have h : INV v w n k a cc Ls := h
  refine ⟨_, _, _, c_X7_mean gl Z v w x0 x1 n 9999 a (LLs Ls a) (IW_CN h.2.1 h.1 h.2.2.1) (by decide), ⟨by decide, by decide⟩, fun r1 u1 c1 => ?_⟩
  have hw : w = u1.2 := congrArg Prod.snd c1.2.1
  have hf := frI_C c1.2.2
  have h1 : INV u1.1 u1.2 n k a cc Ls := by rw [← hw]; exact INV_fr hf h
  refine ⟨_, _, _, c_X8_mean gl Z u1.1 u1.2 x0 x1 n 9999 (LLs Ls a) (IW_DM h1.2.1 h1.1 h1.2.2.1) (by decide), ⟨by decide, by decide⟩, fun r2 u2 c2 => ?_⟩
  have hw2 : u1.2 = u2.2 := by have q := congrArg Prod.snd c2.2.1; exact q
  exact ⟨by rw [c1.1, c2.1, INV_X hf h], ⟨n, k, a, cc, Ls, by rw [← hw2]; exact INV_fr (frI_M c2.2.2) h1⟩⟩
theorem sim_was (gl : Launch) (Z : PL) {v : VV} {w : WV} (hok : OKv (v, w)) (x0 : Int32) (x1 : Int32) : SimI gl Z yX7_was cX7_was 3 yX8_was cX8_was 7 [.int x0, .int x1] v w := by
  obtain ⟨n, k, a, cc, Ls, h⟩ := hok
  have h : INV v w n k a cc Ls := h
  obtain ⟨zs, zw, zb, ⟨y1, y2⟩, ⟨y3, y4⟩, ⟨y5, y6⟩, ⟨z5, zS⟩, ⟨z10, zW⟩, ⟨z8, zB⟩⟩ := IC_at h.2.2.2.2.1
  refine ⟨_, _, _, c_X7_was gl Z v w x0 x1 n 9999 a (LLs Ls a) (IW_CN h.2.1 h.1 h.2.2.1) zs y1 z5 (fun i hi => (zS i hi).2.2) (by decide), ⟨by decide, by decide⟩, fun r1 u1 c1 => ?_⟩
  have hw : w = u1.2 := congrArg Prod.snd c1.2.1
  have hf := frI_C c1.2.2
  have h1 : INV u1.1 u1.2 n k a cc Ls := by rw [← hw]; exact INV_fr hf h
  have f1 : ∀ i, i = 116 ∨ (132 ≤ i ∧ i ≤ 137) → u1.1 i = v i := fun i hi => frI_at hf (by omega) (by omega) (by omega) (by omega) (by omega)
  refine ⟨_, _, _, c_X8_was gl Z u1.1 u1.2 x0 x1 n 9999 (LLs Ls a) (IW_DM h1.2.1 h1.1 h1.2.2.1) zs (by rw [f1 116 (Or.inl rfl)]; exact y2) z5 (fun i hi => by rw [f1 133 (by omega), ← (zS i hi).2.1]; exact (zS i hi).2.2) (by decide), ⟨by decide, by decide⟩, fun r2 u2 c2 => ?_⟩
  have hw2 : u1.2 = u2.2 := by have q := congrArg Prod.snd c2.2.1; exact q
  exact ⟨by rw [c1.1, c2.1, INV_X hf h, f1 132 (by omega), f1 133 (by omega)]; exact sWas_cong (fun i hi => ⟨(zS i hi).1, (zS i hi).2.1⟩), ⟨n, k, a, cc, Ls, by rw [← hw2]; exact INV_fr (frI_M c2.2.2) h1⟩⟩
theorem sim_can (gl : Launch) (Z : PL) {v : VV} {w : WV} (hok : OKv (v, w)) (x0 : Int32) (x1 : Int32) : SimI gl Z yX7_can cX7_can 3 yX8_can cX8_can 7 [.int x0, .int x1] v w := by
  obtain ⟨n, k, a, cc, Ls, h⟩ := hok
  have h : INV v w n k a cc Ls := h
  obtain ⟨zs, zw, zb, ⟨y1, y2⟩, ⟨y3, y4⟩, ⟨y5, y6⟩, ⟨z5, zS⟩, ⟨z10, zW⟩, ⟨z8, zB⟩⟩ := IC_at h.2.2.2.2.1
  refine ⟨_, _, _, c_X7_can gl Z v w x0 x1 n 9999 a (LLs Ls a) (IW_CN h.2.1 h.1 h.2.2.1) zs y1 z5 (fun i hi => (zS i hi).2.2) (by decide), ⟨by decide, by decide⟩, fun r1 u1 c1 => ?_⟩
  have hw : w = u1.2 := congrArg Prod.snd c1.2.1
  have hf := frI_C c1.2.2
  have h1 : INV u1.1 u1.2 n k a cc Ls := by rw [← hw]; exact INV_fr hf h
  have f1 : ∀ i, i = 116 ∨ (132 ≤ i ∧ i ≤ 137) → u1.1 i = v i := fun i hi => frI_at hf (by omega) (by omega) (by omega) (by omega) (by omega)
  refine ⟨_, _, _, c_X8_can gl Z u1.1 u1.2 x0 x1 n 9999 (LLs Ls a) (IW_DM h1.2.1 h1.1 h1.2.2.1) zs (by rw [f1 116 (Or.inl rfl)]; exact y2) z5 (fun i hi => by rw [f1 133 (by omega), ← (zS i hi).2.1]; exact (zS i hi).2.2) (by decide), ⟨by decide, by decide⟩, fun r2 u2 c2 => ?_⟩
  have hw2 : u1.2 = u2.2 := by have q := congrArg Prod.snd c2.2.1; exact q
  exact ⟨by rw [c1.1, c2.1, INV_X hf h, f1 132 (by omega), f1 133 (by omega)]; exact sCan_cong (fun i hi => ⟨(zS i hi).1, (zS i hi).2.1⟩), ⟨n, k, a, cc, Ls, by rw [← hw2]; exact INV_fr (frI_M c2.2.2) h1⟩⟩
theorem sim_gone (gl : Launch) (Z : PL) {v : VV} {w : WV} (hok : OKv (v, w)) (x0 : Int32) : SimI gl Z yX7_gone cX7_gone 3 yX8_gone cX8_gone 3 [.int x0] v w := by
  obtain ⟨n, k, a, cc, Ls, h⟩ := hok
  have h : INV v w n k a cc Ls := h
  obtain ⟨zs, zw, zb, ⟨y1, y2⟩, ⟨y3, y4⟩, ⟨y5, y6⟩, ⟨z5, zS⟩, ⟨z10, zW⟩, ⟨z8, zB⟩⟩ := IC_at h.2.2.2.2.1
  refine ⟨_, _, _, c_X7_gone gl Z v w x0 n 9999 a (LLs Ls a) (IW_CN h.2.1 h.1 h.2.2.1) zw y3 z10 (by decide) (fun i hi hb => ((zW i hi).2 hb).2), ⟨by decide, by decide⟩, fun r1 u1 c1 => ?_⟩
  have hw : w = u1.2 := congrArg Prod.snd c1.2.1
  have hf := frI_C c1.2.2
  have h1 : INV u1.1 u1.2 n k a cc Ls := by rw [← hw]; exact INV_fr hf h
  have f1 : ∀ i, i = 116 ∨ (132 ≤ i ∧ i ≤ 137) → u1.1 i = v i := fun i hi => frI_at hf (by omega) (by omega) (by omega) (by omega) (by omega)
  refine ⟨_, _, _, c_X8_gone gl Z u1.1 u1.2 x0 n 9999 (LLs Ls a) (IW_DM h1.2.1 h1.1 h1.2.2.1) zw (by rw [f1 116 (Or.inl rfl)]; exact y4) z10 (by decide) (fun i hi hb => by rw [f1 134 (by omega)] at hb; rw [f1 135 (by omega)]; obtain ⟨g1, g2⟩ := (zW i hi).2 ((zW i hi).1.trans hb); rw [← g1]; exact g2), ⟨by decide, by decide⟩, fun r2 u2 c2 => ?_⟩
  have hw2 : u1.2 = u2.2 := by have q := congrArg Prod.snd c2.2.1; exact q
  exact ⟨by rw [c1.1, c2.1, INV_X hf h, f1 134 (by omega), f1 135 (by omega)]; exact sGone_cong (fun i hi => ⟨(zW i hi).1, fun hb => ((zW i hi).2 hb).1⟩), ⟨n, k, a, cc, Ls, by rw [← hw2]; exact INV_fr (frI_M c2.2.2) h1⟩⟩
theorem sim_looked (gl : Launch) (Z : PL) {v : VV} {w : WV} (hok : OKv (v, w)) : SimI gl Z yX7_looked cX7_looked 3 yX8_looked cX8_looked 2 [] v w := by
  obtain ⟨n, k, a, cc, Ls, h⟩ := hok
  have h : INV v w n k a cc Ls := h
  obtain ⟨zs, zw, zb, ⟨y1, y2⟩, ⟨y3, y4⟩, ⟨y5, y6⟩, ⟨z5, zS⟩, ⟨z10, zW⟩, ⟨z8, zB⟩⟩ := IC_at h.2.2.2.2.1
  refine ⟨_, _, _, c_X7_looked gl Z v w n (IW_n h.2.2.1) h.2.2.1.1.2 zb y5 z8 (fun i hi => (zB i hi).2.2), ⟨by decide, by decide⟩, fun r1 u1 c1 => ?_⟩
  obtain ⟨e1, e2⟩ := c1
  subst e2
  refine ⟨_, _, _, c_X8_looked gl Z v w zb y6 z8 (fun i hi => by obtain ⟨q, q1, q2⟩ := (zB i hi).2.2; exact ⟨q, by have := h.2.2.1.1.2; omega, (zB i hi).1.symm.trans q2⟩), ⟨by decide, by decide⟩, fun r2 u2 c2 => ?_⟩
  obtain ⟨e3, e4⟩ := c2
  subst e4
  exact ⟨by rw [e1, e3]; exact lookF_cong (n := n) (z := zb) (fun q hq => IW_th h.2.2.1 (by have := h.2.2.1.1.2; omega)) h.2.2.1.1.2 (fun i hi => zB i hi) zb 0 (by omega), ⟨n, k, a, cc, Ls, h⟩⟩
theorem sim_judge (gl : Launch) (Z : PL) {v : VV} {w : WV} (hok : OKv (v, w)) (x0 : Int32) (x1 : Int32) : SimI gl Z yX7_judge cX7_judge 4 yX8_judge cX8_judge 4 [.int x0, .int x1] v w := by
  obtain ⟨n, k, a, cc, Ls, h⟩ := hok
  have h : INV v w n k a cc Ls := h
  refine ⟨_, _, _, c_X7_judge gl Z v w x0 x1 n (IW_n h.2.2.1) h.2.2.1.1.2 (by rw [h.2.2.2.2.2.2.2.1, h.2.2.2.2.2.2.2.2.1]; exact h.2.2.2.2.2.2.2.2.2.1), ⟨by decide, by decide⟩, fun r1 u1 c1 => ?_⟩
  obtain ⟨e1, e2⟩ := c1
  subst e2
  refine ⟨_, _, _, c_X8_judge gl Z v w x0 x1 n h.2.2.1.1.1 h.2.2.1.1.2 h.2.2.2.2.2.2.2.2.2.1, ⟨by decide, by decide⟩, fun r2 u2 c2 => ?_⟩
  obtain ⟨e3, e4⟩ := c2
  subst e4
  exact ⟨by rw [e1, e3]; exact sJudge_eq h.2.2.1 h.2.2.2.2.2.2.2 x0 x1, ⟨n, k, a, cc, Ls, h⟩⟩
theorem sim_trace (gl : Launch) (Z : PL) {v : VV} {w : WV} (hok : OKv (v, w)) (x0 : Int32) : SimI gl Z yX7_trace cX7_trace 2 yX8_trace cX8_trace 2 [.int x0] v w := by
  obtain ⟨n, k, a, cc, Ls, h⟩ := hok
  have h : INV v w n k a cc Ls := h
  obtain ⟨t, t1, t2, t3, t4⟩ : ∃ t : Nat, v 110 1 = nI t ∧ v 116 43 = nI t ∧ t < 1000 ∧ ∀ i, i < min t 20 → v 111 i = v 141 i := h.2.2.2.2.2.2.1
  refine ⟨_, _, _, c_X7_trace gl Z v w x0 t t1 t3, ⟨by decide, by decide⟩, fun r1 u1 c1 => ?_⟩
  obtain ⟨e1, e2⟩ := c1
  subst e2
  refine ⟨_, _, _, c_X8_trace gl Z v w x0 t t2 t3, ⟨by decide, by decide⟩, fun r2 u2 c2 => ?_⟩
  obtain ⟨e3, e4⟩ := c2
  subst e4
  exact ⟨by rw [e1, e3]; exact sTrace_cong t4 x0, ⟨n, k, a, cc, Ls, h⟩⟩
theorem sim_taken (gl : Launch) (Z : PL) {v : VV} {w : WV} (hok : OKv (v, w)) (x0 : Int32) (x1 : Int32) : SimI gl Z yX7_taken cX7_taken 4 yX8_taken cX8_taken 4 [.int x0, .int x1] v w := by
  obtain ⟨n, k, a, cc, Ls, h⟩ := hok
  have h : INV v w n k a cc Ls := h
  refine ⟨_, _, _, c_X7_taken gl Z v w x0 x1 n (IW_n h.2.2.1) h.2.2.1.1.2 (fun q hq => IW_c6 h.2.2.1 hq), ⟨by decide, by decide⟩, fun r1 u1 c1 => ?_⟩
  obtain ⟨e1, e2⟩ := c1
  subst e2
  refine ⟨_, _, _, c_X8_taken gl Z v w x0 x1 n h.2.2.1.1.1 h.2.2.1.1.2 (fun q hq => IW_k6 h.2.2.1 hq), ⟨by decide, by decide⟩, fun r2 u2 c2 => ?_⟩
  obtain ⟨e3, e4⟩ := c2
  subst e4
  exact ⟨by rw [e1, e3]; exact sTaken_cong h.2.2.1.1.2 (fun q hq => IW_kd h.2.2.1 hq) x0 x1, ⟨n, k, a, cc, Ls, h⟩⟩
theorem sim_count (gl : Launch) (Z : PL) {v : VV} {w : WV} (hok : OKv (v, w)) (x0 : Int32) : SimI gl Z yX7_count cX7_count 2 yX8_count cX8_count 2 [.int x0] v w := by
  obtain ⟨n, k, a, cc, Ls, h⟩ := hok
  have h : INV v w n k a cc Ls := h
  refine ⟨_, _, _, c_X7_count gl Z v w x0, ⟨by decide, by decide⟩, fun r1 u1 c1 => ?_⟩
  obtain ⟨e1, e2⟩ := c1
  subst e2
  refine ⟨_, _, _, c_X8_count gl Z v w x0, ⟨by decide, by decide⟩, fun r2 u2 c2 => ?_⟩
  obtain ⟨e3, e4⟩ := c2
  subst e4
  exact ⟨by rw [e1, e3]; exact sCount_eq h x0, ⟨n, k, a, cc, Ls, h⟩⟩
theorem sim_read (gl : Launch) (Z : PL) {v : VV} {w : WV} (hok : OKv (v, w)) (x0 : Int32) (x1 : Int32) : SimL gl Z yX7_read cX7_read 3 yX8_read cX8_read 3 [.int x0, .int x1] v w := by
  obtain ⟨n, k, a, cc, Ls, h⟩ := hok
  have h : INV v w n k a cc Ls := h
  refine ⟨_, _, _, c_X7_read gl Z v w x0 x1 (by rw [h.2.2.2.2.2.2.2.1, h.2.2.2.2.2.2.2.2.1]; exact h.2.2.2.2.2.2.2.2.2.1), ⟨by decide, by decide⟩, fun r1 u1 c1 => ?_⟩
  obtain ⟨e1, e2⟩ := c1
  subst e2
  refine ⟨_, _, _, c_X8_read gl Z v w x0 x1 h.2.2.2.2.2.2.2.2.2.1, ⟨by decide, by decide⟩, fun r2 u2 c2 => ?_⟩
  obtain ⟨e3, e4⟩ := c2
  subst e4
  exact ⟨by rw [e1, e3]; exact sRead_eq h.2.2.2.2.2.2.2 x0 x1, ⟨n, k, a, cc, Ls, h⟩⟩
theorem sim_thanks (gl : Launch) (Z : PL) {v : VV} {w : WV} (hok : OKv (v, w)) (x0 : Int32) (x1 : Int32) : SimI gl Z yX7_thanks cX7_thanks 4 yX8_thanks cX8_thanks 4 [.int x0, .int x1] v w := by
  obtain ⟨n, k, a, cc, Ls, h⟩ := hok
  have h : INV v w n k a cc Ls := h
  refine ⟨_, _, _, c_X7_thanks gl Z v w x0 x1 n (IW_n h.2.2.1) h.2.2.1.1.2, ⟨by decide, by decide⟩, fun r1 u1 c1 => ?_⟩
  obtain ⟨pr, fin⟩ := st_thanks h c1
  refine ⟨_, _, _, c_X8_thanks gl Z u1.1 u1.2 x0 x1 n pr h.2.2.1.1.2, ⟨by decide, by decide⟩, fun r2 u2 c2 => ?_⟩
  exact ⟨(fin r2 u2 c2).1, ⟨n, k, a, cc, Ls, (fin r2 u2 c2).2⟩⟩
theorem sim_kill (gl : Launch) (Z : PL) {v : VV} {w : WV} (hok : OKv (v, w)) (x0 : Int32) (x1 : Int32) : SimI gl Z yX7_kill cX7_kill 4 yX8_kill cX8_kill 4 [.int x0, .int x1] v w := by
  obtain ⟨n, k, a, cc, Ls, h⟩ := hok
  have h : INV v w n k a cc Ls := h
  refine ⟨_, _, _, c_X7_kill gl Z v w x0 x1 n (IW_n h.2.2.1) h.2.2.1.1.2, ⟨by decide, by decide⟩, fun r1 u1 c1 => ?_⟩
  obtain ⟨pr, fin⟩ := st_kill h c1
  refine ⟨_, _, _, c_X8_kill gl Z u1.1 u1.2 x0 x1 n pr h.2.2.1.1.2, ⟨by decide, by decide⟩, fun r2 u2 c2 => ?_⟩
  exact ⟨(fin r2 u2 c2).1, ⟨n, k, a, cc, Ls, (fin r2 u2 c2).2⟩⟩
theorem sim_row (gl : Launch) (Z : PL) {v : VV} {w : WV} (hok : OKv (v, w)) (x0 : Int32) (x1 : Int32) (x2 : Int32) : SimI gl Z yX7_row cX7_row 6 yX8_row cX8_row 5 [.int x0, .int x1, .int x2] v w := by
  obtain ⟨n, k, a, cc, Ls, h⟩ := hok
  have h : INV v w n k a cc Ls := h
  refine ⟨_, _, _, c_X7_row gl Z v w x0 x1 x2 n (IW_n h.2.2.1) h.2.2.1.1.2, ⟨by decide, by decide⟩, fun r1 u1 c1 => ?_⟩
  obtain ⟨pr, fin⟩ := st_row h c1
  refine ⟨_, _, _, c_X8_row gl Z u1.1 u1.2 x0 x1 x2 n pr h.2.2.1.1.2, ⟨by decide, by decide⟩, fun r2 u2 c2 => ?_⟩
  exact ⟨(fin r2 u2 c2).1, ⟨n, k, a, cc, Ls, (fin r2 u2 c2).2⟩⟩
theorem sim_soldier (gl : Launch) (Z : PL) {v : VV} {w : WV} (hok : OKv (v, w)) (x0 : Int32) (x1 : Int32) : SimI gl Z yX7_soldier cX7_soldier 4 yX8_soldier cX8_soldier 4 [.int x0, .int x1] v w := by
  obtain ⟨n, k, a, cc, Ls, h⟩ := hok
  have h : INV v w n k a cc Ls := h
  refine ⟨_, _, _, c_X7_soldier gl Z v w x0 x1, ⟨by decide, by decide⟩, fun r1 u1 c1 => ?_⟩
  refine ⟨_, _, _, c_X8_soldier gl Z u1.1 u1.2 x0 x1, ⟨by decide, by decide⟩, fun r2 u2 c2 => ?_⟩
  exact ⟨(st_soldier h c1 r2 u2 c2).1, ⟨n, k, a, cc, Ls, (st_soldier h c1 r2 u2 c2).2⟩⟩
theorem sim_round (gl : Launch) (Z : PL) {v : VV} {w : WV} (hok : OKv (v, w)) (x0 : Int32) : SimI gl Z yX7_round cX7_round 2 yX8_round cX8_round 2 [.int x0] v w := by
  obtain ⟨n, k, a, cc, Ls, h⟩ := hok
  have h : INV v w n k a cc Ls := h
  obtain ⟨q, q1, q2, q3⟩ := IW_q h.2.2.1
  refine ⟨_, _, _, c_X7_round gl Z v w x0 n (IW_n h.2.2.1) h.2.2.1.1.2 q q2 q1, ⟨by decide, by decide⟩, fun r1 u1 c1 => ?_⟩
  obtain ⟨pr, fin⟩ := st_round h q1 q3 c1
  refine ⟨_, _, _, c_X8_round gl Z u1.1 u1.2 x0 n pr.1 h.2.2.1.1.2 q pr.2 q1, ⟨by decide, by decide⟩, fun r2 u2 c2 => ?_⟩
  exact ⟨(fin r2 u2 c2).1, ⟨n, k, a, cc, Ls, (fin r2 u2 c2).2⟩⟩
theorem sim_pass (gl : Launch) (Z : PL) {v : VV} {w : WV} (hok : OKv (v, w)) (x0 : Int32) : SimI gl Z yX7_pass cX7_pass 2 yX8_pass cX8_pass 2 [.int x0] v w := by
  obtain ⟨n, k, a, cc, Ls, h⟩ := hok
  have h : INV v w n k a cc Ls := h
  refine ⟨_, _, _, c_X7_pass gl Z v w x0 n 9999 a (LLs Ls a) (IW_CN h.2.1 h.1 h.2.2.1) (by decide), ⟨by decide, by decide⟩, fun r1 u1 c1 => ?_⟩
  obtain ⟨pr, fin⟩ := st_pass h c1
  refine ⟨_, _, _, c_X8_pass gl Z u1.1 u1.2 x0 n 9999 (LLs Ls a) pr (by decide), ⟨by decide, by decide⟩, fun r2 u2 c2 => ?_⟩
  exact ⟨(fin r2 u2 c2).1, ⟨n, k, a, cc, Ls, (fin r2 u2 c2).2⟩⟩
theorem sim_feed (gl : Launch) (Z : PL) {v : VV} {w : WV} (hok : OKv (v, w)) (x0 : Int32) : SimI gl Z yX7_feed cX7_feed 2 yX8_feed cX8_feed 2 [.int x0] v w := by
  obtain ⟨n, k, a, cc, Ls, h⟩ := hok
  have h : INV v w n k a cc Ls := h
  obtain ⟨hx1, z, z1, z2, z3, z4⟩ := h.2.2.2.1
  refine ⟨_, _, _, c_X7_feed gl Z v w x0 z z1 z3, ⟨by decide, by decide⟩, fun r1 u1 c1 => ?_⟩
  obtain ⟨pr, fin⟩ := st_feed h z1 z3 c1
  refine ⟨_, _, _, c_X8_feed gl Z u1.1 u1.2 x0 z pr z3, ⟨by decide, by decide⟩, fun r2 u2 c2 => ?_⟩
  exact ⟨(fin r2 u2 c2).1, ⟨n, k, a, cc, Ls, (fin r2 u2 c2).2⟩⟩
theorem sim_see (gl : Launch) (Z : PL) {v : VV} {w : WV} (hok : OKv (v, w)) (x0 : Int32) (x1 : Int32) : SimI gl Z yX7_see cX7_see 3 yX8_see cX8_see 3 [.int x0, .int x1] v w := by
  obtain ⟨n, k, a, cc, Ls, h⟩ := hok
  have h : INV v w n k a cc Ls := h
  obtain ⟨zs, zw, zb, ⟨y1, y2⟩, ⟨y3, y4⟩, ⟨y5, y6⟩, ⟨z5, zS⟩, ⟨z10, zW⟩, ⟨z8, zB⟩⟩ := IC_at h.2.2.2.2.1
  refine ⟨_, _, _, c_X7_see gl Z v w x0 x1 zs y1 z5, ⟨by decide, by decide⟩, fun r1 u1 c1 => ?_⟩
  obtain ⟨pr, fin⟩ := st_see h y1 z5 c1
  refine ⟨_, _, _, c_X8_see gl Z u1.1 u1.2 x0 x1 zs pr.1 z5, ⟨by decide, by decide⟩, fun r2 u2 c2 => ?_⟩
  exact ⟨(fin r2 u2 c2).1, ⟨n, k, a, cc, Ls, (fin r2 u2 c2).2⟩⟩
theorem sim_winter (gl : Launch) (Z : PL) {v : VV} {w : WV} (hok : OKv (v, w)) (x0 : Int32) (x1 : Int32) : SimI gl Z yX7_winter cX7_winter 3 yX8_winter cX8_winter 3 [.int x0, .int x1] v w := by
  obtain ⟨n, k, a, cc, Ls, h⟩ := hok
  have h : INV v w n k a cc Ls := h
  obtain ⟨zs, zw, zb, ⟨y1, y2⟩, ⟨y3, y4⟩, ⟨y5, y6⟩, ⟨z5, zS⟩, ⟨z10, zW⟩, ⟨z8, zB⟩⟩ := IC_at h.2.2.2.2.1
  refine ⟨_, _, _, c_X7_winter gl Z v w x0 x1 n (IW_n h.2.2.1) h.2.2.1.1.2 zw y3 z10, ⟨by decide, by decide⟩, fun r1 u1 c1 => ?_⟩
  obtain ⟨pr, fin⟩ := st_winter h y3 z10 c1
  refine ⟨_, _, _, c_X8_winter gl Z u1.1 u1.2 x0 x1 n pr.2 h.2.2.1.1.2 zw pr.1 z10, ⟨by decide, by decide⟩, fun r2 u2 c2 => ?_⟩
  exact ⟨(fin r2 u2 c2).1, ⟨n, k, a, cc, Ls, (fin r2 u2 c2).2⟩⟩
theorem sim_book (gl : Launch) (Z : PL) {v : VV} {w : WV} (hok : OKv (v, w)) (x0 : Int32) (x1 : Int32) : SimI gl Z yX7_book cX7_book 3 yX8_book cX8_book 3 [.int x0, .int x1] v w := by
  obtain ⟨n, k, a, cc, Ls, h⟩ := hok
  have h : INV v w n k a cc Ls := h
  obtain ⟨zs, zw, zb, ⟨y1, y2⟩, ⟨y3, y4⟩, ⟨y5, y6⟩, ⟨z5, zS⟩, ⟨z10, zW⟩, ⟨z8, zB⟩⟩ := IC_at h.2.2.2.2.1
  refine ⟨_, _, _, c_X7_book gl Z v w x0 x1 n (IW_n h.2.2.1) h.2.2.1.1.2 zb y5 z8, ⟨by decide, by decide⟩, fun r1 u1 c1 => ?_⟩
  obtain ⟨pr, fin⟩ := st_book h y5 z8 c1
  refine ⟨_, _, _, c_X8_book gl Z u1.1 u1.2 x0 x1 n pr.2 h.2.2.1.1.2 zb pr.1 z8, ⟨by decide, by decide⟩, fun r2 u2 c2 => ?_⟩
  exact ⟨(fin r2 u2 c2).1, ⟨n, k, a, cc, Ls, (fin r2 u2 c2).2⟩⟩
theorem sim_tape (gl : Launch) (Z : PL) {v : VV} {w : WV} (hok : OKv (v, w)) (x0 : Int32) (x1 : Int32) (x2 : Int32) : SimI gl Z yX7_tape cX7_tape 4 yX8_tape cX8_tape 5 [.int x0, .int x1, .int x2] v w := by
  obtain ⟨n, k, a, cc, Ls, h⟩ := hok
  have h : INV v w n k a cc Ls := h
  refine ⟨_, _, _, c_X7_tape gl Z v w x0 x1 x2, ⟨by decide, by decide⟩, fun r1 u1 c1 => ?_⟩
  refine ⟨_, _, _, c_X8_tape gl Z u1.1 u1.2 x0 x1 x2, ⟨by decide, by decide⟩, fun r2 u2 c2 => ?_⟩
  exact ⟨(st_tape h c1 r2 u2 c2).1, ⟨n, k, a, cc, Ls, (st_tape h c1 r2 u2 c2).2⟩⟩
theorem sim_item (gl : Launch) (Z : PL) {v : VV} {w : WV} (hok : OKv (v, w)) (x0 : Int32) (x1 : Int32) (x2 : Int64) : SimI gl Z yX7_item cX7_item 5 yX8_item cX8_item 5 [.int x0, .int x1, .long x2] v w := by
  obtain ⟨n, k, a, cc, Ls, h⟩ := hok
  have h : INV v w n k a cc Ls := h
  refine ⟨_, _, _, c_X7_item gl Z v w x0 x1 x2 (by rw [h.2.2.2.2.2.2.2.1, h.2.2.2.2.2.2.2.2.1]; exact h.2.2.2.2.2.2.2.2.2.1), ⟨by decide, by decide⟩, fun r1 u1 c1 => ?_⟩
  have TT : TIv (u1.1 142) (u1.1 143) := by rw [← c1.2]; exact h.2.2.2.2.2.2.2.2.2.1
  refine ⟨_, _, _, c_X8_item gl Z u1.1 u1.2 x0 x1 x2 (by exact TT), ⟨by decide, by decide⟩, fun r2 u2 c2 => ?_⟩
  exact ⟨(st_item h c1 r2 u2 c2).1, ⟨n, k, a, cc, Ls, (st_item h c1 r2 u2 c2).2⟩⟩
theorem sim_shift (gl : Launch) (Z : PL) {v : VV} {w : WV} (hok : OKv (v, w)) (x0 : Int32) (x1 : Int32) (x2 : Int32) (x3 : Int32) (x4 : Int32) : SimI gl Z yX7_shift cX7_shift 6 yX8_shift cX8_shift 7 [.int x0, .int x1, .int x2, .int x3, .int x4] v w := by
  obtain ⟨n, k, a, cc, Ls, h⟩ := hok
  have h : INV v w n k a cc Ls := h
  refine ⟨_, _, _, c_X7_shift gl Z v w x0 x1 x2 x3 x4 (by rw [h.2.2.2.2.2.2.2.1, h.2.2.2.2.2.2.2.2.1]; exact h.2.2.2.2.2.2.2.2.2.1), ⟨by decide, by decide⟩, fun r1 u1 c1 => ?_⟩
  have TT : TIv (u1.1 142) (u1.1 143) := by rw [← c1.2]; exact h.2.2.2.2.2.2.2.2.2.1
  refine ⟨_, _, _, c_X8_shift gl Z u1.1 u1.2 x0 x1 x2 x3 x4 (by exact TT), ⟨by decide, by decide⟩, fun r2 u2 c2 => ?_⟩
  exact ⟨(st_shift h c1 r2 u2 c2).1, ⟨n, k, a, cc, Ls, (st_shift h c1 r2 u2 c2).2⟩⟩
theorem sim_act (gl : Launch) (Z : PL) {v : VV} {w : WV} (hok : OKv (v, w)) (x0 : Int32) (x1 : Int32) (x2 : Int32) : SimI gl Z yX7_act cX7_act 4 yX8_act cX8_act 5 [.int x0, .int x1, .int x2] v w := by
  obtain ⟨n, k, a, cc, Ls, h⟩ := hok
  have h : INV v w n k a cc Ls := h
  refine ⟨_, _, _, c_X7_act gl Z v w x0 x1 x2 n (IW_n h.2.2.1) h.2.2.1.1.2 (fun q hq => IW_c6 h.2.2.1 hq), ⟨by decide, by decide⟩, fun r1 u1 c1 => ?_⟩
  obtain ⟨pr, fin⟩ := st_act h c1
  refine ⟨_, _, _, c_X8_act gl Z u1.1 u1.2 x0 x1 x2 n pr.1 h.2.2.1.1.2 pr.2, ⟨by decide, by decide⟩, fun r2 u2 c2 => ?_⟩
  exact ⟨(fin r2 u2 c2).1, ⟨n, k, a, cc, Ls, (fin r2 u2 c2).2⟩⟩
theorem sim_person (gl : Launch) (Z : PL) {v : VV} {w : WV} (hok : OKv (v, w)) (x0 : Int32) (x1 : Int32) (x2 : Int32) : SimI gl Z yX7_person cX7_person 4 yX8_person cX8_person 5 [.int x0, .int x1, .int x2] v w := by
  obtain ⟨n, k, a, cc, Ls, h⟩ := hok
  have h : INV v w n k a cc Ls := h
  refine ⟨_, _, _, c_X7_person gl Z v w x0 x1 x2 n (IW_n h.2.2.1) h.2.2.1.1.2, ⟨by decide, by decide⟩, fun r1 u1 c1 => ?_⟩
  obtain ⟨pr, fin⟩ := st_person h c1
  refine ⟨_, _, _, c_X8_person gl Z u1.1 u1.2 x0 x1 x2 n pr h.2.2.1.1.2, ⟨by decide, by decide⟩, fun r2 u2 c2 => ?_⟩
  exact ⟨(fin r2 u2 c2).1, by obtain ⟨n2, q⟩ := (fin r2 u2 c2).2; exact ⟨n2, k, a, cc, Ls, q⟩⟩
theorem sim_land (gl : Launch) (Z : PL) {v : VV} {w : WV} (hok : OKv (v, w)) : SimI gl Z yX7_land cX7_land 3 yX8_land cX8_land 5 [] v w := by
  obtain ⟨n, k, a, cc, Ls, h⟩ := hok
  have h : INV v w n k a cc Ls := h
  obtain ⟨hx1, z, z1, z2, z3, z4⟩ := h.2.2.2.1
  refine ⟨_, _, _, c_X7_land gl Z v w k h.2.1.1.1 h.2.1.1.2.2 (v 109) z rfl z1 z3 (fun i hi => by rw [hx1]; exact z4 i hi), ⟨by decide, by decide⟩, fun r1 u1 c1 => ?_⟩
  obtain ⟨pr, fin⟩ := st_land h z1 z3 c1
  obtain ⟨o, ho⟩ := pr.2.2.2.2.2
  refine ⟨_, _, _, c_X8_land gl Z u1.1 u1.2 k pr.1 pr.2.1 z pr.2.2.1 z3 cc pr.2.2.2.1 pr.2.2.2.2.1 o ho, ⟨by decide, by decide⟩, fun r2 u2 c2 => ?_⟩
  exact ⟨(fin r2 u2 c2).1, by obtain ⟨k2, a2, c2, L2, q⟩ := (fin r2 u2 c2).2; exact ⟨n, k2, a2, c2, L2, q⟩⟩
theorem sim_image (gl : Launch) (Z : PL) {v : VV} {w : WV} (hok : OKv (v, w)) : SimI gl Z yX7_image cX7_image 1 yX8_image cX8_image 2 [] v w := by
  obtain ⟨n, k, a, cc, Ls, h⟩ := hok
  have h : INV v w n k a cc Ls := h
  obtain ⟨zs, zw, zb, ⟨y1, y2⟩, ⟨y3, y4⟩, ⟨y5, y6⟩, ⟨z5, zS⟩, ⟨z10, zW⟩, ⟨z8, zB⟩⟩ := IC_at h.2.2.2.2.1
  refine ⟨_, _, _, c_X7_image gl Z v w n 9999 a (LLs Ls a) (IW_CN h.2.1 h.1 h.2.2.1) zs zw zb ⟨y1, z5⟩ ⟨y3, z10⟩ ⟨y5, z8⟩, ⟨by decide, by decide⟩, fun r1 u1 c1 => ?_⟩
  obtain ⟨pr, fin⟩ := st_image h ⟨y1, y2⟩ ⟨y3, y4⟩ ⟨y5, y6⟩ ⟨⟨z5, zS⟩, ⟨z10, zW⟩, ⟨z8, zB⟩⟩ c1
  refine ⟨_, _, _, c_X8_image gl Z u1.1 u1.2 n pr h.2.2.1.1.2, ⟨by decide, by decide⟩, fun r2 u2 c2 => ?_⟩
  exact ⟨(fin r2 u2 c2).1, ⟨n, k, a, cc, Ls, (fin r2 u2 c2).2⟩⟩
theorem sim_undo (gl : Launch) (Z : PL) {v : VV} {w : WV} (hok : OKv (v, w)) : SimI gl Z yX7_undo cX7_undo 1 yX8_undo cX8_undo 2 [] v w := by
  obtain ⟨n, k, a, cc, Ls, h⟩ := hok
  have h : INV v w n k a cc Ls := h
  have hk := h.2.2.2.2.2.1
  rcases hk with ⟨k1, k2⟩ | ⟨k1, k2, m, b, zs, zw, zb, hk1⟩
  · refine ⟨_, _, _, c_X7_undo_n gl Z v w k1, ⟨by decide, by decide⟩, fun r1 u1 c1 => ?_⟩
    refine ⟨_, _, _, c_X8_undo gl Z u1.1 u1.2, ⟨by decide, by decide⟩, fun r2 u2 c2 => ?_⟩
    obtain ⟨g1, g2⟩ := st_undo_n h k1 c1 c2
    exact ⟨g1, ⟨n, k, a, cc, Ls, g2⟩⟩
  · have hk2 := hk1
    have hk6 := h.2.1.1.2.2
    have h6 := h.2.2.1.1.2
    obtain ⟨⟨m1, m2⟩, ⟨m3, m4⟩, m5, m6, ⟨m7, m8, m9⟩, ⟨⟨y1, y2⟩, ⟨y3, y4⟩, ⟨y5, y6⟩⟩, ⟨z5, zS⟩, ⟨z10, zW⟩, ⟨z8, zB⟩⟩ := hk1
    refine ⟨_, _, _, c_X7_undo_y gl Z v w m b (by omega) (by omega) m3 m7 m9 zs zw zb ⟨y1, z5⟩ ⟨y3, z10⟩ ⟨y5, z8⟩ k1, ⟨by decide, by decide⟩, fun r1 u1 c1 => ?_⟩
    refine ⟨_, _, _, c_X8_undo gl Z u1.1 u1.2, ⟨by decide, by decide⟩, fun r2 u2 c2 => ?_⟩
    obtain ⟨g1, g2⟩ := st_undo_y h k2 hk2 c1 r2 u2 c2
    exact ⟨g1, ⟨m, k, b, cc, Ls, g2⟩⟩
