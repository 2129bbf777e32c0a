/-! the class: worlds -/
/-- what who-lets-in touches: WELCOME and the land's stack -/
def frL (v u : VV) (b j : Nat) : Prop := ∀ i, i ≠ b + 9 → i ≠ 2 + 7 * j + 6 → u i = v i
/-- what a day touches -/
def frD (v u : VV) (b j : Nat) : Prop := (∀ i, i ≠ b → i ≠ b + 5 → i ≠ b + 6 → i ≠ b + 9 → i ≠ 2 + 7 * j + 6 → u i = v i) ∧ ∀ k, k ≠ 1 → k ≠ 2 → k ≠ 3 → u b k = v b k
theorem frL_refl (v : VV) (b j : Nat) : frL v v b j := fun _ _ _ => rfl
theorem frD_refl (v : VV) (b j : Nat) : frD v v b j := ⟨fun _ _ _ _ _ _ => rfl, fun _ _ _ _ => rfl⟩
theorem frL_trans {v u x : VV} {b j : Nat} (h1 : frL v u b j) (h2 : frL u x b j) : frL v x b j := fun i a c => (h2 i a c).trans (h1 i a c)
theorem frD_trans {v u x : VV} {b j : Nat} (h1 : frD v u b j) (h2 : frD u x b j) : frD v x b j := ⟨fun i a c d e f => (h2.1 i a c d e f).trans (h1.1 i a c d e f), fun k a c d => (h2.2 k a c d).trans (h1.2 k a c d)⟩
theorem frL_w {v u : VV} {b j k : Nat} {x : Int32} (h : frL v u b j) : frL v (up2 u (b + 9) k x) b j := fun i a c => (up2_ne a).trans (h i a c)
theorem frL_s {v u : VV} {b j : Nat} {f : Nat → Int32} (h : frL v u b j) : frL v (upc u (2 + 7 * j + 6) f) b j := fun i a c => (upc_ne c).trans (h i a c)
theorem frL_D {v u : VV} {b j : Nat} (hb : 51 ≤ b) (hj : j < 7) (h : frL v u b j) : frD v u b j := ⟨fun i _ _ _ a c => h i a c, fun k _ _ _ => by rw [h b (by omega) (by omega)]⟩
theorem frD_num {v u : VV} {b j k : Nat} {x : Int32} (hk : k = 1 ∨ k = 2 ∨ k = 3) (h : frD v u b j) : frD v (up2 u b k x) b j := ⟨fun i a c d e f => (up2_ne a).trans (h.1 i a c d e f), fun q a c d => by rw [up2_at, if_neg (by omega)]; exact h.2 q a c d⟩
theorem frD_th {v u : VV} {b j : Nat} {f : Nat → Int32} (h : frD v u b j) : frD v (upc u (b + 5) f) b j := ⟨fun i a c d e f => (upc_ne c).trans (h.1 i a c d e f), fun q a c d => by rw [upc_ne (by omega)]; exact h.2 q a c d⟩
theorem frD_th2 {v u : VV} {b j k : Nat} {x : Int32} (h : frD v u b j) : frD v (up2 u (b + 5) k x) b j := ⟨fun i a c d e f => (up2_ne c).trans (h.1 i a c d e f), fun q a c d => by rw [up2_ne (by omega)]; exact h.2 q a c d⟩
theorem frD_got {v u : VV} {b j k : Nat} {x : Int32} (h : frD v u b j) : frD v (up2 u (b + 6) k x) b j := ⟨fun i a c d e f => (up2_ne d).trans (h.1 i a c d e f), fun q a c d => by rw [up2_ne (by omega)]; exact h.2 q a c d⟩
theorem xC_frL {v u : VV} {b n j : Nat} (hb : 51 ≤ b) (hj : j < 7) (h : frL v u b j) : xC u b n = xC v b n := xC_cong (fun k _ => by rw [h b (by omega) (by omega)]) (fun i _ _ _ => h i (by omega) (by omega))
theorem CW_tr {v va : VV} {b n B B' j q : Nat} {L : LND} (hb : 51 ≤ b) (hq : q < 7) (h : CW v b n B j L) (h1 : frD v va b q) (hr : RX n B' (xC va b n)) (hB : B' < 1000000) : CW va b n B' j L := by
  obtain ⟨⟨c1, c2⟩, c3, ⟨c4, c5, c6⟩, c7, c8, c9⟩ := h
  exact ⟨⟨by rw [h1.1 _ (by omega) (by omega) (by omega) (by omega) (by omega)]; exact c1, c2⟩, c3, ⟨c4, by rw [h1.2 6 (by omega) (by omega) (by omega)]; exact c5, repC_cong (fun i _ _ => h1.1 i (by omega) (by omega) (by omega) (by omega) (by omega)) c6⟩, (fun p hp => by rw [h1.1 _ (by omega) (by omega) (by omega) (by omega) (by omega)]; exact c7 p hp), hr, hB⟩
theorem CW_frL {v va : VV} {b n B j q : Nat} {L : LND} (hb : 51 ≤ b) (hq : q < 7) (h : CW v b n B j L) (h1 : frL v va b q) : CW va b n B j L := CW_tr hb hq h (frL_D hb hq h1) (by rw [xC_frL hb hq h1]; exact h.2.2.2.2.1) h.2.2.2.2.2
/-! rows of the view -/
def xR (h p kd y th g rw rd : Nat → Int32) (n : Nat) : VV := fun i k => match i with
  | 0 => (match k with
    | 0 => p 0
    | 1 => h 1
    | 2 => h 2
    | 3 => h 3
    | 4 => h 5
    | 5 => h 7
    | 6 => h 8
    | 7 => h 9
    | _ => 0)
  | 1 => if k < n then kd k else 0
  | 2 => if k < 6 then y k else 0
  | 3 => if k < 6 then th k else 0
  | 4 => if k < 6 then g k else 0
  | 5 => if k < 6 then dB (p 7) k else 0
  | 6 => if k < 24 then rw k else 0
  | 7 => if k < 6 then rd k else 0
  | _ => 0
theorem xC_R (v : VV) (b n : Nat) : xC v b n = xR (v b) (v (b + 1)) (v (b + 3)) (v (b + 4)) (v (b + 5)) (v (b + 6)) (v (b + 7)) (v (b + 8)) n := rfl
section XR
variable {h p kd y th g rw rd : Nat → Int32} {n k : Nat} {x : Int32}
theorem xR_v (hk : k < 6) : xR h p kd (upd y k x) th g rw rd n = up2 (xR h p kd y th g rw rd n) 2 k x := by
  funext i j
  match i with
  | 0 => match j with
    | 0 => simp [xR, up2, upd]
    | 1 => simp [xR, up2, upd]
    | 2 => simp [xR, up2, upd]
    | 3 => simp [xR, up2, upd]
    | 4 => simp [xR, up2, upd]
    | 5 => simp [xR, up2, upd]
    | 6 => simp [xR, up2, upd]
    | 7 => simp [xR, up2, upd]
    | j + 8 => simp [xR, up2, upd]
  | 1 => simp [xR, up2]
  | 2 =>
    by_cases e : j = k
    · subst e; simp [xR, up2, upd, hk]
    · simp [xR, up2, upd, e]
  | 3 => simp [xR, up2]
  | 4 => simp [xR, up2]
  | 5 => simp [xR, up2]
  | 6 => simp [xR, up2]
  | 7 => simp [xR, up2]
  | i + 8 => simp [xR, up2]
theorem xR_th (hk : k < 6) : xR h p kd y (upd th k x) g rw rd n = up2 (xR h p kd y th g rw rd n) 3 k x := by
  funext i j
  match i with
  | 0 => match j with
    | 0 => simp [xR, up2, upd]
    | 1 => simp [xR, up2, upd]
    | 2 => simp [xR, up2, upd]
    | 3 => simp [xR, up2, upd]
    | 4 => simp [xR, up2, upd]
    | 5 => simp [xR, up2, upd]
    | 6 => simp [xR, up2, upd]
    | 7 => simp [xR, up2, upd]
    | j + 8 => simp [xR, up2, upd]
  | 1 => simp [xR, up2]
  | 2 => simp [xR, up2]
  | 3 =>
    by_cases e : j = k
    · subst e; simp [xR, up2, upd, hk]
    · simp [xR, up2, upd, e]
  | 4 => simp [xR, up2]
  | 5 => simp [xR, up2]
  | 6 => simp [xR, up2]
  | 7 => simp [xR, up2]
  | i + 8 => simp [xR, up2]
theorem xR_got (hk : k < 6) : xR h p kd y th (upd g k x) rw rd n = up2 (xR h p kd y th g rw rd n) 4 k x := by
  funext i j
  match i with
  | 0 => match j with
    | 0 => simp [xR, up2, upd]
    | 1 => simp [xR, up2, upd]
    | 2 => simp [xR, up2, upd]
    | 3 => simp [xR, up2, upd]
    | 4 => simp [xR, up2, upd]
    | 5 => simp [xR, up2, upd]
    | 6 => simp [xR, up2, upd]
    | 7 => simp [xR, up2, upd]
    | j + 8 => simp [xR, up2, upd]
  | 1 => simp [xR, up2]
  | 2 => simp [xR, up2]
  | 3 => simp [xR, up2]
  | 4 =>
    by_cases e : j = k
    · subst e; simp [xR, up2, upd, hk]
    · simp [xR, up2, upd, e]
  | 5 => simp [xR, up2]
  | 6 => simp [xR, up2]
  | 7 => simp [xR, up2]
  | i + 8 => simp [xR, up2]
theorem xR_row (hk : k < 24) : xR h p kd y th g (upd rw k x) rd n = up2 (xR h p kd y th g rw rd n) 6 k x := by
  funext i j
  match i with
  | 0 => match j with
    | 0 => simp [xR, up2, upd]
    | 1 => simp [xR, up2, upd]
    | 2 => simp [xR, up2, upd]
    | 3 => simp [xR, up2, upd]
    | 4 => simp [xR, up2, upd]
    | 5 => simp [xR, up2, upd]
    | 6 => simp [xR, up2, upd]
    | 7 => simp [xR, up2, upd]
    | j + 8 => simp [xR, up2, upd]
  | 1 => simp [xR, up2]
  | 2 => simp [xR, up2]
  | 3 => simp [xR, up2]
  | 4 => simp [xR, up2]
  | 5 => simp [xR, up2]
  | 6 =>
    by_cases e : j = k
    · subst e; simp [xR, up2, upd, hk]
    · simp [xR, up2, upd, e]
  | 7 => simp [xR, up2]
  | i + 8 => simp [xR, up2]
theorem xR_rnd (hk : k < 6) : xR h p kd y th g rw (upd rd k x) n = up2 (xR h p kd y th g rw rd n) 7 k x := by
  funext i j
  match i with
  | 0 => match j with
    | 0 => simp [xR, up2, upd]
    | 1 => simp [xR, up2, upd]
    | 2 => simp [xR, up2, upd]
    | 3 => simp [xR, up2, upd]
    | 4 => simp [xR, up2, upd]
    | 5 => simp [xR, up2, upd]
    | 6 => simp [xR, up2, upd]
    | 7 => simp [xR, up2, upd]
    | j + 8 => simp [xR, up2, upd]
  | 1 => simp [xR, up2]
  | 2 => simp [xR, up2]
  | 3 => simp [xR, up2]
  | 4 => simp [xR, up2]
  | 5 => simp [xR, up2]
  | 6 => simp [xR, up2]
  | 7 =>
    by_cases e : j = k
    · subst e; simp [xR, up2, upd, hk]
    · simp [xR, up2, upd, e]
  | i + 8 => simp [xR, up2]
theorem xR_he : xR (upd h 1 x) p kd y th g rw rd n = up2 (xR h p kd y th g rw rd n) 0 1 x := by
  funext i j
  match i with
  | 0 => match j with
    | 0 => simp [xR, up2, upd]
    | 1 => simp [xR, up2, upd]
    | 2 => simp [xR, up2, upd]
    | 3 => simp [xR, up2, upd]
    | 4 => simp [xR, up2, upd]
    | 5 => simp [xR, up2, upd]
    | 6 => simp [xR, up2, upd]
    | 7 => simp [xR, up2, upd]
    | j + 8 => simp [xR, up2, upd]
  | 1 => simp [xR, up2]
  | 2 => simp [xR, up2]
  | 3 => simp [xR, up2]
  | 4 => simp [xR, up2]
  | 5 => simp [xR, up2]
  | 6 => simp [xR, up2]
  | 7 => simp [xR, up2]
  | i + 8 => simp [xR, up2]
theorem xR_sm : xR (upd h 2 x) p kd y th g rw rd n = up2 (xR h p kd y th g rw rd n) 0 2 x := by
  funext i j
  match i with
  | 0 => match j with
    | 0 => simp [xR, up2, upd]
    | 1 => simp [xR, up2, upd]
    | 2 => simp [xR, up2, upd]
    | 3 => simp [xR, up2, upd]
    | 4 => simp [xR, up2, upd]
    | 5 => simp [xR, up2, upd]
    | 6 => simp [xR, up2, upd]
    | 7 => simp [xR, up2, upd]
    | j + 8 => simp [xR, up2, upd]
  | 1 => simp [xR, up2]
  | 2 => simp [xR, up2]
  | 3 => simp [xR, up2]
  | 4 => simp [xR, up2]
  | 5 => simp [xR, up2]
  | 6 => simp [xR, up2]
  | 7 => simp [xR, up2]
  | i + 8 => simp [xR, up2]
theorem xR_dy : xR (upd h 3 x) p kd y th g rw rd n = up2 (xR h p kd y th g rw rd n) 0 3 x := by
  funext i j
  match i with
  | 0 => match j with
    | 0 => simp [xR, up2, upd]
    | 1 => simp [xR, up2, upd]
    | 2 => simp [xR, up2, upd]
    | 3 => simp [xR, up2, upd]
    | 4 => simp [xR, up2, upd]
    | 5 => simp [xR, up2, upd]
    | 6 => simp [xR, up2, upd]
    | 7 => simp [xR, up2, upd]
    | j + 8 => simp [xR, up2, upd]
  | 1 => simp [xR, up2]
  | 2 => simp [xR, up2]
  | 3 => simp [xR, up2]
  | 4 => simp [xR, up2]
  | 5 => simp [xR, up2]
  | 6 => simp [xR, up2]
  | 7 => simp [xR, up2]
  | i + 8 => simp [xR, up2]
theorem xR_pl : xR (upd h 5 x) p kd y th g rw rd n = up2 (xR h p kd y th g rw rd n) 0 4 x := by
  funext i j
  match i with
  | 0 => match j with
    | 0 => simp [xR, up2, upd]
    | 1 => simp [xR, up2, upd]
    | 2 => simp [xR, up2, upd]
    | 3 => simp [xR, up2, upd]
    | 4 => simp [xR, up2, upd]
    | 5 => simp [xR, up2, upd]
    | 6 => simp [xR, up2, upd]
    | 7 => simp [xR, up2, upd]
    | j + 8 => simp [xR, up2, upd]
  | 1 => simp [xR, up2]
  | 2 => simp [xR, up2]
  | 3 => simp [xR, up2]
  | 4 => simp [xR, up2]
  | 5 => simp [xR, up2]
  | 6 => simp [xR, up2]
  | 7 => simp [xR, up2]
  | i + 8 => simp [xR, up2]
theorem xR_cd : xR (upd h 7 x) p kd y th g rw rd n = up2 (xR h p kd y th g rw rd n) 0 5 x := by
  funext i j
  match i with
  | 0 => match j with
    | 0 => simp [xR, up2, upd]
    | 1 => simp [xR, up2, upd]
    | 2 => simp [xR, up2, upd]
    | 3 => simp [xR, up2, upd]
    | 4 => simp [xR, up2, upd]
    | 5 => simp [xR, up2, upd]
    | 6 => simp [xR, up2, upd]
    | 7 => simp [xR, up2, upd]
    | j + 8 => simp [xR, up2, upd]
  | 1 => simp [xR, up2]
  | 2 => simp [xR, up2]
  | 3 => simp [xR, up2]
  | 4 => simp [xR, up2]
  | 5 => simp [xR, up2]
  | 6 => simp [xR, up2]
  | 7 => simp [xR, up2]
  | i + 8 => simp [xR, up2]
theorem xR_pk : xR (upd h 8 x) p kd y th g rw rd n = up2 (xR h p kd y th g rw rd n) 0 6 x := by
  funext i j
  match i with
  | 0 => match j with
    | 0 => simp [xR, up2, upd]
    | 1 => simp [xR, up2, upd]
    | 2 => simp [xR, up2, upd]
    | 3 => simp [xR, up2, upd]
    | 4 => simp [xR, up2, upd]
    | 5 => simp [xR, up2, upd]
    | 6 => simp [xR, up2, upd]
    | 7 => simp [xR, up2, upd]
    | j + 8 => simp [xR, up2, upd]
  | 1 => simp [xR, up2]
  | 2 => simp [xR, up2]
  | 3 => simp [xR, up2]
  | 4 => simp [xR, up2]
  | 5 => simp [xR, up2]
  | 6 => simp [xR, up2]
  | 7 => simp [xR, up2]
  | i + 8 => simp [xR, up2]

theorem xR_dead (hk : k < 6) : xR h (upd p 7 (sdB (p 7) k x)) kd y th g rw rd n = up2 (xR h p kd y th g rw rd n) 5 k (if x = 0 then 0 else 1) := by
  funext i j
  match i with
  | 0 => match j with
    | 0 => simp [xR, up2, upd]
    | 1 => simp [xR, up2, upd]
    | 2 => simp [xR, up2, upd]
    | 3 => simp [xR, up2, upd]
    | 4 => simp [xR, up2, upd]
    | 5 => simp [xR, up2, upd]
    | 6 => simp [xR, up2, upd]
    | 7 => simp [xR, up2, upd]
    | j + 8 => simp [xR, up2, upd]
  | 1 => simp [xR, up2]
  | 2 => simp [xR, up2]
  | 3 => simp [xR, up2]
  | 4 => simp [xR, up2]
  | 5 =>
    by_cases e : j < 6
    · simp only [xR, up2, upd, if_pos e, dB, if_true]
      rw [sdB_b (by omega) (by omega)]
      by_cases e2 : j = k
      · by_cases e3 : x = 0 <;> simp [e2, e3, bI]
      · simp [e2]
    · have : j ≠ k := by omega
      simp [xR, up2, e, this]
  | 6 => simp [xR, up2]
  | 7 => simp [xR, up2]
  | i + 8 => simp [xR, up2]
end XR
section XCU
variable {v : VV} {b n k : Nat} {x : Int32}
theorem xC_up_v (hk : k < 6) : xC (up2 v (b + 4) k x) b n = up2 (xC v b n) 2 k x := by
  rw [xC_R, xC_R, up2_ne (j := b) (by omega), up2_ne (j := b + 1) (by omega), up2_ne (j := b + 3) (by omega), up2_ne (j := b + 5) (by omega), up2_ne (j := b + 6) (by omega), up2_ne (j := b + 7) (by omega), up2_ne (j := b + 8) (by omega), up2_row, xR_v hk]
theorem xC_up_th (hk : k < 6) : xC (up2 v (b + 5) k x) b n = up2 (xC v b n) 3 k x := by
  rw [xC_R, xC_R, up2_ne (j := b) (by omega), up2_ne (j := b + 1) (by omega), up2_ne (j := b + 3) (by omega), up2_ne (j := b + 4) (by omega), up2_ne (j := b + 6) (by omega), up2_ne (j := b + 7) (by omega), up2_ne (j := b + 8) (by omega), up2_row, xR_th hk]
theorem xC_up_got (hk : k < 6) : xC (up2 v (b + 6) k x) b n = up2 (xC v b n) 4 k x := by
  rw [xC_R, xC_R, up2_ne (j := b) (by omega), up2_ne (j := b + 1) (by omega), up2_ne (j := b + 3) (by omega), up2_ne (j := b + 4) (by omega), up2_ne (j := b + 5) (by omega), up2_ne (j := b + 7) (by omega), up2_ne (j := b + 8) (by omega), up2_row, xR_got hk]
theorem xC_up_row (hk : k < 24) : xC (up2 v (b + 7) k x) b n = up2 (xC v b n) 6 k x := by
  rw [xC_R, xC_R, up2_ne (j := b) (by omega), up2_ne (j := b + 1) (by omega), up2_ne (j := b + 3) (by omega), up2_ne (j := b + 4) (by omega), up2_ne (j := b + 5) (by omega), up2_ne (j := b + 6) (by omega), up2_ne (j := b + 8) (by omega), up2_row, xR_row hk]
theorem xC_up_rnd (hk : k < 6) : xC (up2 v (b + 8) k x) b n = up2 (xC v b n) 7 k x := by
  rw [xC_R, xC_R, up2_ne (j := b) (by omega), up2_ne (j := b + 1) (by omega), up2_ne (j := b + 3) (by omega), up2_ne (j := b + 4) (by omega), up2_ne (j := b + 5) (by omega), up2_ne (j := b + 6) (by omega), up2_ne (j := b + 7) (by omega), up2_row, xR_rnd hk]
theorem xC_up_he : xC (up2 v b 1 x) b n = up2 (xC v b n) 0 1 x := by
  rw [xC_R, xC_R, up2_ne (j := b + 1) (by omega), up2_ne (j := b + 3) (by omega), up2_ne (j := b + 4) (by omega), up2_ne (j := b + 5) (by omega), up2_ne (j := b + 6) (by omega), up2_ne (j := b + 7) (by omega), up2_ne (j := b + 8) (by omega), up2_row, xR_he]
theorem xC_up_sm : xC (up2 v b 2 x) b n = up2 (xC v b n) 0 2 x := by
  rw [xC_R, xC_R, up2_ne (j := b + 1) (by omega), up2_ne (j := b + 3) (by omega), up2_ne (j := b + 4) (by omega), up2_ne (j := b + 5) (by omega), up2_ne (j := b + 6) (by omega), up2_ne (j := b + 7) (by omega), up2_ne (j := b + 8) (by omega), up2_row, xR_sm]
theorem xC_up_dy : xC (up2 v b 3 x) b n = up2 (xC v b n) 0 3 x := by
  rw [xC_R, xC_R, up2_ne (j := b + 1) (by omega), up2_ne (j := b + 3) (by omega), up2_ne (j := b + 4) (by omega), up2_ne (j := b + 5) (by omega), up2_ne (j := b + 6) (by omega), up2_ne (j := b + 7) (by omega), up2_ne (j := b + 8) (by omega), up2_row, xR_dy]
theorem xC_up_pl : xC (up2 v b 5 x) b n = up2 (xC v b n) 0 4 x := by
  rw [xC_R, xC_R, up2_ne (j := b + 1) (by omega), up2_ne (j := b + 3) (by omega), up2_ne (j := b + 4) (by omega), up2_ne (j := b + 5) (by omega), up2_ne (j := b + 6) (by omega), up2_ne (j := b + 7) (by omega), up2_ne (j := b + 8) (by omega), up2_row, xR_pl]
theorem xC_up_cd : xC (up2 v b 7 x) b n = up2 (xC v b n) 0 5 x := by
  rw [xC_R, xC_R, up2_ne (j := b + 1) (by omega), up2_ne (j := b + 3) (by omega), up2_ne (j := b + 4) (by omega), up2_ne (j := b + 5) (by omega), up2_ne (j := b + 6) (by omega), up2_ne (j := b + 7) (by omega), up2_ne (j := b + 8) (by omega), up2_row, xR_cd]
theorem xC_up_pk : xC (up2 v b 8 x) b n = up2 (xC v b n) 0 6 x := by
  rw [xC_R, xC_R, up2_ne (j := b + 1) (by omega), up2_ne (j := b + 3) (by omega), up2_ne (j := b + 4) (by omega), up2_ne (j := b + 5) (by omega), up2_ne (j := b + 6) (by omega), up2_ne (j := b + 7) (by omega), up2_ne (j := b + 8) (by omega), up2_row, xR_pk]

theorem xC_up_dead (hk : k < 6) : xC (up2 v (b + 1) 7 (sdB (v (b + 1) 7) k x)) b n = up2 (xC v b n) 5 k (if x = 0 then 0 else 1) := by
  rw [xC_R, xC_R, up2_ne (j := b) (by omega), up2_row, up2_ne (j := b + 3) (by omega), up2_ne (j := b + 4) (by omega), up2_ne (j := b + 5) (by omega), up2_ne (j := b + 6) (by omega), up2_ne (j := b + 7) (by omega), up2_ne (j := b + 8) (by omega), xR_dead hk]
end XCU
theorem fgC_at {f : Nat → Int32} {n k : Nat} (h : k < n) : fgC f n k = imax 0 (f k - 1) := if_pos h
theorem xC_fg {v : VV} {b n : Nat} (h6 : n ≤ 6) : xC (upc v (b + 5) (fgC (v (b + 5)) n)) b n = fgS (xC v b n) n := by
  have e : ∀ i, i ≠ b + 5 → upc v (b + 5) (fgC (v (b + 5)) n) i = v i := fun i hi => upc_ne hi
  rw [xC_R, e b (by omega), e (b + 1) (by omega), e (b + 3) (by omega), e (b + 4) (by omega), e (b + 6) (by omega), e (b + 7) (by omega), e (b + 8) (by omega), upc_at]
  funext i j
  by_cases hi : i = 3
  · subst hi
    by_cases hj : j < n
    · rw [fgS_at n j hj, xC_th (by omega)]
      show (if j < 6 then fgC (v (b + 5)) n j else 0) = _
      rw [if_pos (by omega), fgC_at hj]
    · rw [fgS_ne n (Or.inr (by omega))]
      show (if j < 6 then fgC (v (b + 5)) n j else 0) = (if j < 6 then v (b + 5) j else 0)
      unfold fgC
      rw [if_neg hj]
  · rw [fgS_ne n (Or.inl hi)]
    match i with
    | 0 => rfl
    | 1 => rfl
    | 2 => rfl
    | 3 => exact absurd rfl hi
    | 4 => rfl
    | 5 => rfl
    | 6 => rfl
    | 7 => rfl
    | i + 8 => rfl
/-! the door, by the doors' clauses alone -/
theorem lsum_filter (X : VV) (p : Nat) : ∀ L : LND, lsum (fun i => ctr X p (L.getD i dC)) L.length = lsum (fun i => ctr X p ((DLs L).getD i dC)) (DLs L).length := by
  have snoc : ∀ (l : LND) (c : CLA), lsum (fun i => ctr X p ((l ++ [c]).getD i dC)) (l ++ [c]).length = lsum (fun i => ctr X p (l.getD i dC)) l.length + ctr X p c := by
    intro l c
    have e : ∀ k, k ≤ l.length → lsum (fun i => ctr X p ((l ++ [c]).getD i dC)) k = lsum (fun i => ctr X p (l.getD i dC)) k := by
      intro k
      induction k with
      | zero => intro _; rfl
      | succ k ih =>
        intro hk
        show lsum _ k + ctr X p ((l ++ [c]).getD k dC) = lsum _ k + ctr X p (l.getD k dC)
        rw [ih (by omega)]
        simp [List.getD, List.getElem?_append_left (show k < l.length by omega)]
    rw [List.length_append, List.length_singleton]
    show lsum _ l.length + ctr X p ((l ++ [c]).getD l.length dC) = _
    rw [e _ (Nat.le_refl _)]
    simp [List.getD]
  intro L
  have rev : ∀ M : LND, lsum (fun i => ctr X p (M.reverse.getD i dC)) M.reverse.length = lsum (fun i => ctr X p ((DLs M.reverse).getD i dC)) (DLs M.reverse).length := by
    intro M
    induction M with
    | nil => rfl
    | cons c M ih =>
      rw [List.reverse_cons, snoc]
      by_cases hc : c.1 < 2
      · have e : DLs (M.reverse ++ [c]) = DLs M.reverse ++ [c] := by unfold DLs; rw [List.filter_append]; simp [hc]
        rw [e, snoc, ih]
      · have e : DLs (M.reverse ++ [c]) = DLs M.reverse := by unfold DLs; rw [List.filter_append]; simp [hc]
        have e2 : ctr X p c = 0 := by unfold ctr; rw [if_neg (fun q => hc q.1)]
        rw [e, ih, e2, Int32.add_zero]
  have := rev L.reverse
  rwa [List.reverse_reverse] at this
theorem wel_D (X : VV) (L : LND) (p : Nat) : welS X L p = X 3 p - X 0 2 / 10 + lsum (fun i => ctr X p ((DLs L).getD i dC)) (DLs L).length := by
  rw [welS, doorS, lsum_filter]
  simp only [Int32.sub_eq_add_neg]
  ac_rfl
theorem ctr_w {X : VV} {p : Nat} {c : CLA} (h : c.1 < 2) : bI (hldS X p c.2.2) * wtC c = ctr X p c := by
  unfold ctr
  cases hh : hldS X p c.2.2 with
  | true => rw [if_pos ⟨h, rfl⟩]; show 1 * _ = _; rw [Int32.one_mul]; rfl
  | false => rw [if_neg (fun q => by cases q.2)]; show 0 * _ = _; rw [Int32.zero_mul]
theorem gone_le {n B : Nat} {X : VV} (h : RX n B X) (h0 : X 0 1 ≤ 0) : X 0 1 = 0 := by
  have := h.2.1.1
  rw [i_le] at h0
  rw [i_eq]
  have e : (0 : Int32).toInt = 0 := rfl
  omega
theorem dB_0 {D : Int32} {k : Nat} : (dB D k = 0 ↔ bt D k = false) := bI_0
theorem days_gone {X : VV} {L : LND} {n i : Nat} (h : daysS X L n i 0 1 = 0) : ∀ k, daysS X L n (i + k) = daysS X L n i
  | 0 => rfl
  | k + 1 => by
    show dayS (daysS X L n (i + k)) L n = _
    rw [days_gone h k, dayS_no h]
theorem bits_b {X : VV} {L : LND} : ∀ n, n ≤ 32 → ∀ p, p < 32 → bt (bitsS X L n) p = (decide (p < n) && letS X L p)
  | 0, _ => bs_0
  | n + 1, hn => by
    intro p hp
    have ih := bits_b (X := X) (L := L) n (by omega)
    rw [bitsS]
    cases h : letS X L n with
    | true => rw [if_pos rfl]; exact bs_yes (P := letS X L) (by omega) ih h p hp
    | false => rw [if_neg (by decide)]; exact bs_no (P := letS X L) ih h p hp
/-- a land holds -/
def stlS (v : VV) (b j : Nat) : VV := up2 (up2 (up2 (up2 v b 6 (nI j)) b 7 (v (2 + 7 * j) 0)) b 8 (v (2 + 7 * j) 1)) b 9 (v (2 + 7 * j) 2)
theorem ifs_ne {p i : Nat} {a : Int32} (e : ¬ p = i) : (if p < i then a else 0) = (if p < i + 1 then a else 0) := by
  by_cases e2 : p < i
  · rw [if_pos e2, if_pos (by omega)]
  · rw [if_neg e2, if_neg (by omega)]
set_option maxRecDepth 100000 in
set_option maxHeartbeats 1000000 in
theorem c_X6_isGone (gl : Launch) (Z : PL) (v : VV) (w : WV) (b : Nat) (hW : isW b) (n : Nat) (B : Nat) (hrx : RX n B (xC v b n)) : CT gl yX6_isGone cX6_isGone 1 (some .boolean) 0 0 Z [.ref (zg Z b)] v w (Qi Z (fun r u => r = bI (decide (xC v b n 0 1 = 0)) ∧ (v, w) = u)) := by
  refine g_met (by decide) (Nat.le_of_ble_eq_true rfl) ?_
  intro gp ge gs gm ga gb gh gc X h ls hl
  have hx := X.1
  have hb := X.2.1
  have hl : lv_has ls 1 [(0, .ref (zg Z b))] := hl
  refine lv_aload_n hx hb dX6_isGone_0 rfl (lv_at hl 0 rfl) ?_
  refine g_geti X h (k := 1) (cW_0 hW) fr_RX6_18 rfl (by decide) dX6_isGone_1 ?_
  refine lv_if_gt (tgt := 11) hx hb dX6_isGone_4 (by decide) (fun c_4 => ?_) (fun c_4 => ?_)
  · skip
    refine lv_iconst (v := 0) hx hb dX6_isGone_11 (by decide) ?_
    exact g_nret X h dX6_isGone_12 rfl ⟨by rw [decide_eq_false (fun z => absurd c_4 (by rw [show v b 1 = 0 from z]; decide))]; rfl, rfl⟩
  · skip
    refine lv_iconst (v := 1) hx hb dX6_isGone_7 (by decide) ?_
    refine lv_goto (tgt := 12) hx hb dX6_isGone_8 (by decide) ?_
    exact g_nret X h dX6_isGone_12 rfl ⟨by rw [decide_eq_true (gone_le hrx (Int32.not_lt.mp c_4))]; rfl, rfl⟩

set_option maxRecDepth 100000 in
set_option maxHeartbeats 1000000 in
theorem c_X6_settle (gl : Launch) (Z : PL) (v : VV) (w : WV) (b : Nat) (hW : isW b) (j : Nat) (hj7 : j < 7) : CT gl yX6_settle cX6_settle 2 none 0 0 Z [.ref (zg Z b), .ref (zg Z (2 + 7 * j))] v w (Qv Z (fun u => (stlS v b j, w) = u)) := by
  refine g_met (by decide) (Nat.le_of_ble_eq_true rfl) ?_
  intro gp ge gs gm ga gb gh gc X h ls hl
  have hx := X.1
  have hb := X.2.1
  have hl : lv_has ls 2 [(0, .ref (zg Z b)), (1, .ref (zg Z (2 + 7 * j)))] := hl
  have hbr := isW_r hW
  have hL : isL (2 + 7 * j) := isLj hj7
  refine lv_aload_n hx hb dX6_settle_0 rfl (lv_at hl 0 rfl) ?_
  refine lv_aload_n hx hb dX6_settle_1 rfl (lv_at hl 1 rfl) ?_
  refine g_putl X h (k := 6) (j := j) (cW_0 hW) fp_RX6_48 rfl (by decide) (by omega) dX6_settle_2 (fun v2 H locs ev2 h => ?_)
  refine lv_aload_n hx hb dX6_settle_5 rfl (lv_at hl 0 rfl) ?_
  refine lv_aload_n hx hb dX6_settle_6 rfl (lv_at hl 1 rfl) ?_
  refine g_geti X h (k := 0) (cL_0 hL) fr_RX6_52 rfl (by decide) dX6_settle_7 ?_
  refine g_tr (y := (v (2 + 7 * j) 0)) (by rw [ev2, up2_ne (by omega)]) ?_
  refine g_puti X h (k := 7) (cW_0 hW) fp_RX6_57 rfl (by decide) dX6_settle_10 (fun v10 H locs ev10 h => ?_)
  refine lv_aload_n hx hb dX6_settle_13 rfl (lv_at hl 0 rfl) ?_
  refine lv_aload_n hx hb dX6_settle_14 rfl (lv_at hl 1 rfl) ?_
  refine g_geti X h (k := 1) (cL_0 hL) fr_RX6_58 rfl (by decide) dX6_settle_15 ?_
  refine g_tr (y := (v (2 + 7 * j) 1)) (by rw [ev10, up2_ne (by omega), ev2, up2_ne (by omega)]) ?_
  refine g_puti X h (k := 8) (cW_0 hW) fp_RX6_61 rfl (by decide) dX6_settle_18 (fun v18 H locs ev18 h => ?_)
  refine lv_aload_n hx hb dX6_settle_21 rfl (lv_at hl 0 rfl) ?_
  refine lv_aload_n hx hb dX6_settle_22 rfl (lv_at hl 1 rfl) ?_
  refine g_geti X h (k := 2) (cL_0 hL) fr_RX6_62 rfl (by decide) dX6_settle_23 ?_
  refine g_tr (y := (v (2 + 7 * j) 2)) (by rw [ev18, up2_ne (by omega), ev10, up2_ne (by omega), ev2, up2_ne (by omega)]) ?_
  refine g_puti X h (k := 9) (cW_0 hW) fp_RX6_65 rfl (by decide) dX6_settle_26 (fun v26 H locs ev26 h => ?_)
  exact g_vret X h dX6_settle_29 (by rw [ev26, ev18, ev10, ev2]; rfl)

set_option maxRecDepth 100000 in
set_option maxHeartbeats 1000000 in
theorem c_X6_letIn (gl : Launch) (Z : PL) (v : VV) (w : WV) (b : Nat) (hW : isW b) (n : Nat) (B : Nat) (j : Nat) (L : LND) (hcw : CW v b n B j L) : CT gl yX6_letIn cX6_letIn 4 (some .int) 2 56 Z [.ref (zg Z b)] v w (Qi Z (fun r u => r = bitsS (xC v b n) L n ∧ (u.1, w) = u ∧ frL v u.1 b j ∧ ∀ p, p < n → u.1 (b + 9) p = welS (xC v b n) L p)) := by
  refine g_met (by decide) (Nat.le_of_ble_eq_true rfl) ?_
  intro gp ge gs gm ga gb gh gc X h ls hl
  have hx := X.1
  have hb := X.2.1
  have hl : lv_has ls 4 [(0, .ref (zg Z b))] := hl
  obtain ⟨⟨hn, h6⟩, hwf, ⟨hj7, hland, hrep⟩, hnum, hrx, hB⟩ := id hcw
  have hbr := isW_r hW
  have hL : isL (2 + 7 * j) := isLj hj7
  have hE : isE (b + 1) := isWE hW
  have hland2 : (v b 6).toNatClampNeg = j := by rw [hland]; exact nI_clamp (by omega)
  obtain ⟨-, hd3, -, hcls⟩ := id hrep
  obtain ⟨hD10, hDw⟩ := DLs_wf hwf
  refine lv_iconst (v := 0) hx hb dX6_letIn_0 (by decide) ?_
  refine lv_istore_n (lv' := [(1, .int 0), (0, .ref (zg Z b))]) hx hb dX6_letIn_1 rfl hl (by decide) rfl (fun ls hl => ?_)
  have L2 : ∀ (n2 : Nat) (i : Nat) (x1 : Int32) (va : VV), (x1 = nI i) → (i ≤ n) → (frL v va b j) → (∀ p, p < i → va (b + 9) p = xC v b n 3 p - xC v b n 0 2 / 10) → n - i < n2 → ∀ (H : Heap) (locs : List Loc), HS Z gs va w H locs → ∀ ls : Array Slot, lv_has ls 4 [(0, .ref (zg Z b)), (1, .int x1)] → W gp gl ge (rmm 2 56) gs gm ga gb gh gc H locs 0 0 (MQ gb (Qi Z (fun r u => r = bitsS (xC v b n) L n ∧ (u.1, w) = u ∧ frL v u.1 b j ∧ ∀ p, p < n → u.1 (b + 9) p = welS (xC v b n) L p)) ga gs 0 0 (zA Z)) (F0 gm 2 ls []) := by
    intro n2
    induction n2 with
    | zero => intro i x1 va hx1 hi hfa hf hmu; exact absurd hmu (Nat.not_lt_zero _)
    | succ n2 ih2 =>
      intro i x1 va hx1 hi hfa hf hmu2 H locs h ls hl
      refine lv_iload_n hx hb dX6_letIn_2 rfl (lv_at hl 1 rfl) ?_
      refine lv_aload_n hx hb dX6_letIn_3 rfl (lv_at hl 0 rfl) ?_
      refine g_getr X h (k := 0) (t := (b + 1)) (cW_0 hW) fr_RX6_12 rfl (by decide) (by decide) (by decide) dX6_letIn_4 ?_
      refine g_geti X h (k := 0) (cW_1 hW) fr_RX6_66 rfl (by decide) dX6_letIn_7 ?_
      refine g_tr (y := (v (b + 1) 0)) (by rw [hfa (b + 1) (by omega) (by omega)]) ?_
      refine lv_icmp_ge (tgt := 42) hx hb dX6_letIn_10 (by decide) (fun c_10 => ?_) (fun c_10 => ?_)
      · skip
        have hin := nI_le1 (a := n) (b := i) hn hx1 (by omega) (by omega) c_10
        refine lv_iconst (v := 0) hx hb dX6_letIn_42 (by decide) ?_
        refine lv_istore_n (lv' := [(1, .int 0), (0, .ref (zg Z b))]) hx hb dX6_letIn_43 rfl hl (by decide) rfl (fun ls hl => ?_)
        have L44 : ∀ (n44 : Nat) (ci : Nat) (x1 : Int32) (va : VV), (x1 = nI ci) → (ci ≤ (DLs L).length) → (frL v va b j) → (∀ p, p < n → va (b + 9) p = xC v b n 3 p - xC v b n 0 2 / 10 + lsum (fun i => ctr (xC v b n) p ((DLs L).getD i dC)) ci) → (DLs L).length - ci < n44 → ∀ (H : Heap) (locs : List Loc), HS Z gs va w H locs → ∀ ls : Array Slot, lv_has ls 4 [(0, .ref (zg Z b)), (1, .int x1)] → W gp gl ge (rmm 2 56) gs gm ga gb gh gc H locs 0 0 (MQ gb (Qi Z (fun r u => r = bitsS (xC v b n) L n ∧ (u.1, w) = u ∧ frL v u.1 b j ∧ ∀ p, p < n → u.1 (b + 9) p = welS (xC v b n) L p)) ga gs 0 0 (zA Z)) (F0 gm 44 ls []) := by
          intro n44
          induction n44 with
          | zero => intro ci x1 va hx1 hci hfa hwl hmu; exact absurd hmu (Nat.not_lt_zero _)
          | succ n44 ih44 =>
            intro ci x1 va hx1 hci hfa hwl hmu44 H locs h ls hl
            refine lv_iload_n hx hb dX6_letIn_44 rfl (lv_at hl 1 rfl) ?_
            refine lv_aload_n hx hb dX6_letIn_45 rfl (lv_at hl 0 rfl) ?_
            refine g_getl X h (k := 6) (j := j) (cW_0 hW) fr_RX6_48 rfl (by decide) (by rw [hfa b (by omega) (by omega)]; exact hland2) dX6_letIn_46 ?_
            refine g_geti X h (k := 3) (cL_0 hL) fr_RX6_75 rfl (by decide) dX6_letIn_49 ?_
            refine g_tr (y := (v (2 + 7 * j) 3)) (by rw [hfa (2 + 7 * j) (by omega) (by omega)]) ?_
            refine lv_icmp_ge (tgt := 125) hx hb dX6_letIn_52 (by decide) (fun c_52 => ?_) (fun c_52 => ?_)
            · skip
              have hcl := nI_le1 (a := (DLs L).length) (b := ci) hd3 hx1 (by omega) (by omega) c_52
              have hwE : ∀ p, p < n → va (b + 9) p = welS (xC v b n) L p := fun p hp => by rw [hwl p hp, wel_D, show ci = (DLs L).length by omega]
              refine lv_iconst (v := 0) hx hb dX6_letIn_125 (by decide) ?_
              refine lv_istore_n (lv' := [(1, .int 0), (0, .ref (zg Z b))]) hx hb dX6_letIn_126 rfl hl (by decide) rfl (fun ls hl => ?_)
              refine lv_iconst (v := 0) hx hb dX6_letIn_127 (by decide) ?_
              refine lv_istore_n (lv' := [(2, .int 0), (1, .int 0), (0, .ref (zg Z b))]) hx hb dX6_letIn_128 rfl hl (by decide) rfl (fun ls hl => ?_)
              have L129 : ∀ (n129 : Nat) (i : Nat) (x1 x2 : Int32), (x2 = nI i) → (i ≤ n) → (x1 = bitsS (xC v b n) L i) → n - i < n129 → ∀ (H : Heap) (locs : List Loc), HS Z gs va w H locs → ∀ ls : Array Slot, lv_has ls 4 [(0, .ref (zg Z b)), (1, .int x1), (2, .int x2)] → W gp gl ge (rmm 2 56) gs gm ga gb gh gc H locs 0 0 (MQ gb (Qi Z (fun r u => r = bitsS (xC v b n) L n ∧ (u.1, w) = u ∧ frL v u.1 b j ∧ ∀ p, p < n → u.1 (b + 9) p = welS (xC v b n) L p)) ga gs 0 0 (zA Z)) (F0 gm 129 ls []) := by
                intro n129
                induction n129 with
                | zero => intro i x1 x2 hx2 hi hx1 hmu; exact absurd hmu (Nat.not_lt_zero _)
                | succ n129 ih129 =>
                  intro i x1 x2 hx2 hi hx1 hmu129 H locs h ls hl
                  refine lv_iload_n hx hb dX6_letIn_129 rfl (lv_at hl 2 rfl) ?_
                  refine lv_aload_n hx hb dX6_letIn_130 rfl (lv_at hl 0 rfl) ?_
                  refine g_getr X h (k := 0) (t := (b + 1)) (cW_0 hW) fr_RX6_12 rfl (by decide) (by decide) (by decide) dX6_letIn_131 ?_
                  refine g_geti X h (k := 0) (cW_1 hW) fr_RX6_66 rfl (by decide) dX6_letIn_134 ?_
                  refine g_tr (y := (v (b + 1) 0)) (by rw [hfa (b + 1) (by omega) (by omega)]) ?_
                  refine lv_icmp_ge (tgt := 204) hx hb dX6_letIn_137 (by decide) (fun c_137 => ?_) (fun c_137 => ?_)
                  · skip
                    have hpn := nI_le1 (a := n) (b := i) hn hx2 (by omega) (by omega) c_137
                    refine lv_iload_n hx hb dX6_letIn_204 rfl (lv_at hl 1 rfl) ?_
                    exact g_iret X h dX6_letIn_205 ⟨(by rw [hx1, show i = n by omega]), rfl, hfa, hwE⟩
                  · skip
                    have hpn := nI_le0 (a := n) (b := i) hn hx2 (by omega) (by omega) c_137
                    refine lv_aload_n hx hb dX6_letIn_140 rfl (lv_at hl 0 rfl) ?_
                    refine g_getr X h (k := 0) (t := (b + 1)) (cW_0 hW) fr_RX6_12 rfl (by decide) (by decide) (by decide) dX6_letIn_141 ?_
                    refine g_getr X h (k := 2) (t := (b + 3)) (cW_1 hW) fr_RX6_88 rfl (by decide) (by decide) (by decide) dX6_letIn_144 ?_
                    refine lv_iload_n hx hb dX6_letIn_147 rfl (lv_at hl 2 rfl) ?_
                    refine g_iald X h (k := i) (cW_3 hW) hx2 (by omega) (by decide) dX6_letIn_148 ?_
                    refine g_tr (y := (v (b + 3) i)) (by rw [hfa (b + 3) (by omega) (by omega)]) ?_
                    refine lv_iconst (v := 2) hx hb dX6_letIn_149 (by decide) ?_
                    refine lv_icmp_ne (tgt := 166) hx hb dX6_letIn_150 (by decide) (fun c_150 => ?_) (fun c_150 => ?_)
                    · skip
                      refine lv_iconst (v := 0) hx hb dX6_letIn_166 (by decide) ?_
                      refine lv_istore_n (lv' := [(3, .int 0), (0, .ref (zg Z b)), (1, .int x1), (2, .int x2)]) hx hb dX6_letIn_167 rfl hl (by decide) rfl (fun ls hl => ?_)
                      refine lv_aload_n hx hb dX6_letIn_168 rfl (lv_at hl 1 rfl) ?_
                      refine g_getr X h (k := 10) (t := (b + 9)) (cW_0 hW) fr_RX6_26 rfl (by decide) (by decide) (by decide) dX6_letIn_169 ?_
                      refine lv_iload_n hx hb dX6_letIn_172 rfl (lv_at hl 3 rfl) ?_
                      refine g_iald X h (k := i) (cW_9 hW) hx2 (by omega) (by decide) dX6_letIn_173 ?_
                      refine lv_if_lt (tgt := 198) hx hb dX6_letIn_174 (by decide) (fun c_174 => ?_) (fun c_174 => ?_)
                      · skip
                        refine lv_iinc (v := (x2 + 1)) (lv' := [(2, .int (x2 + 1)), (3, .int 0), (0, .ref (zg Z b)), (1, .int x1)]) hx hb dX6_letIn_198 hl (k := 3) rfl rfl (by decide) rfl (fun ls hl => ?_)
                        refine lv_goto (tgt := 129) hx hb dX6_letIn_201 (by decide) ?_
                        exact ih129 (i + 1) x1 (x2 + 1) (by rw [hx2]; exact nI_1 _) (by omega) (by rw [hx1]; show _ = bitsS _ _ (i + 1); rw [bitsS, if_neg (by rw [letS, xC_dead (by omega), xC_kd hpn, ← hwE i hpn, show xC v b n 0 2 = v b 2 from rfl]; have z := Int32.not_le.mpr c_174; simp [z])]) (by omega) _ _ h ls (lv_sub hl [2, 3, 0] rfl)
                      · skip
                        refine lv_iload_n hx hb dX6_letIn_177 rfl (lv_at hl 0 rfl) ?_
                        refine lv_if_ne (tgt := 198) hx hb dX6_letIn_178 (by decide) (fun c_178 => ?_) (fun c_178 => ?_)
                        · exact absurd rfl c_178
                        · skip
                          refine lv_aload_n hx hb dX6_letIn_181 rfl (lv_at hl 1 rfl) ?_
                          refine g_getr X h (k := 0) (t := (b + 1)) (cW_0 hW) fr_RX6_12 rfl (by decide) (by decide) (by decide) dX6_letIn_182 ?_
                          refine lv_iload_n hx hb dX6_letIn_185 rfl (lv_at hl 3 rfl) ?_
                          refine g_ki h (g_runV X h (As := [.int x2]) (rest := []) (c_X3_isDead gl Z va w x2 i hx2 (by omega) (b + 1) hE) mi_X3_isDead ml_RX6_91 (cW_1 hW) (by decide) kl3 rfl ⟨Nat.le_of_ble_eq_true rfl, Nat.le_of_ble_eq_true rfl⟩ rfl hl.1 rfl (Nat.le_of_ble_eq_true rfl) dX6_letIn_186) (fun r186 v186 w186 H locs hp186 h => ?_)
                          obtain ⟨hr186, hu186⟩ := hp186; obtain ⟨rfl, rfl⟩ := Prod.mk.inj hu186
                          rw [hfa (b + 1) (by omega) (by omega)] at hr186
                          refine lv_if_ne (tgt := 198) hx hb dX6_letIn_189 (by decide) (fun c_189 => ?_) (fun c_189 => ?_)
                          · skip
                            rw [hr186, bI_n] at c_189
                            refine lv_iinc (v := (x2 + 1)) (lv' := [(2, .int (x2 + 1)), (3, .int 0), (0, .ref (zg Z b)), (1, .int x1)]) hx hb dX6_letIn_198 hl (k := 3) rfl rfl (by decide) rfl (fun ls hl => ?_)
                            refine lv_goto (tgt := 129) hx hb dX6_letIn_201 (by decide) ?_
                            exact ih129 (i + 1) x1 (x2 + 1) (by rw [hx2]; exact nI_1 _) (by omega) (by rw [hx1]; show _ = bitsS _ _ (i + 1); rw [bitsS, if_neg (by rw [letS, xC_dead (by omega), xC_kd hpn, ← hwE i hpn, show xC v b n 0 2 = v b 2 from rfl]; rw [dB, c_189]; simp [bI])]) (by omega) _ _ h ls (lv_sub hl [2, 3, 0] rfl)
                          · skip
                            rw [hr186, bI_0] at c_189
                            refine lv_iload_n hx hb dX6_letIn_192 rfl (lv_at hl 2 rfl) ?_
                            refine lv_iconst (v := 1) hx hb dX6_letIn_193 (by decide) ?_
                            refine lv_iload_n hx hb dX6_letIn_194 rfl (lv_at hl 3 rfl) ?_
                            refine lv_ishl hx hb dX6_letIn_195 ?_
                            refine lv_ior hx hb dX6_letIn_196 ?_
                            refine lv_topi (fun x1_197 ex1_197 => ?_)
                            refine lv_istore_n (lv' := [(1, .int x1_197), (3, .int 0), (0, .ref (zg Z b)), (2, .int x2)]) hx hb dX6_letIn_197 rfl hl (by decide) rfl (fun ls hl => ?_)
                            refine lv_iinc (v := (x2 + 1)) (lv' := [(2, .int (x2 + 1)), (1, .int x1_197), (3, .int 0), (0, .ref (zg Z b))]) hx hb dX6_letIn_198 hl (k := 3) rfl rfl (by decide) rfl (fun ls hl => ?_)
                            refine lv_goto (tgt := 129) hx hb dX6_letIn_201 (by decide) ?_
                            exact ih129 (i + 1) x1_197 (x2 + 1) (by rw [hx2]; exact nI_1 _) (by omega) (by rw [ex1_197, hx1, hx2]; show _ = bitsS _ _ (i + 1); rw [bitsS, if_pos (by rw [letS, xC_dead (by omega), xC_kd hpn, ← hwE i hpn, show xC v b n 0 2 = v b 2 from rfl]; rw [dB, c_189]; have z := Int32.not_lt.mp c_174; simp [z, bI, c_150])]) (by omega) _ _ h ls (lv_sub hl [3, 1, 0] rfl)
                    · skip
                      refine lv_aload_n hx hb dX6_letIn_153 rfl (lv_at hl 0 rfl) ?_
                      refine g_geti X h (k := 2) (cW_0 hW) fr_RX6_72 rfl (by decide) dX6_letIn_154 ?_
                      refine g_tr (y := (v b 2)) (by rw [hfa b (by omega) (by omega)]) ?_
                      refine lv_bipush (v := 100) hx hb dX6_letIn_157 (by decide) ?_
                      refine lv_icmp_le (tgt := 166) hx hb dX6_letIn_159 (by decide) (fun c_159 => ?_) (fun c_159 => ?_)
                      · skip
                        refine lv_iconst (v := 0) hx hb dX6_letIn_166 (by decide) ?_
                        refine lv_istore_n (lv' := [(3, .int 0), (0, .ref (zg Z b)), (1, .int x1), (2, .int x2)]) hx hb dX6_letIn_167 rfl hl (by decide) rfl (fun ls hl => ?_)
                        refine lv_aload_n hx hb dX6_letIn_168 rfl (lv_at hl 1 rfl) ?_
                        refine g_getr X h (k := 10) (t := (b + 9)) (cW_0 hW) fr_RX6_26 rfl (by decide) (by decide) (by decide) dX6_letIn_169 ?_
                        refine lv_iload_n hx hb dX6_letIn_172 rfl (lv_at hl 3 rfl) ?_
                        refine g_iald X h (k := i) (cW_9 hW) hx2 (by omega) (by decide) dX6_letIn_173 ?_
                        refine lv_if_lt (tgt := 198) hx hb dX6_letIn_174 (by decide) (fun c_174 => ?_) (fun c_174 => ?_)
                        · skip
                          refine lv_iinc (v := (x2 + 1)) (lv' := [(2, .int (x2 + 1)), (3, .int 0), (0, .ref (zg Z b)), (1, .int x1)]) hx hb dX6_letIn_198 hl (k := 3) rfl rfl (by decide) rfl (fun ls hl => ?_)
                          refine lv_goto (tgt := 129) hx hb dX6_letIn_201 (by decide) ?_
                          exact ih129 (i + 1) x1 (x2 + 1) (by rw [hx2]; exact nI_1 _) (by omega) (by rw [hx1]; show _ = bitsS _ _ (i + 1); rw [bitsS, if_neg (by rw [letS, xC_dead (by omega), xC_kd hpn, ← hwE i hpn, show xC v b n 0 2 = v b 2 from rfl]; have z := Int32.not_le.mpr c_174; simp [z])]) (by omega) _ _ h ls (lv_sub hl [2, 3, 0] rfl)
                        · skip
                          refine lv_iload_n hx hb dX6_letIn_177 rfl (lv_at hl 0 rfl) ?_
                          refine lv_if_ne (tgt := 198) hx hb dX6_letIn_178 (by decide) (fun c_178 => ?_) (fun c_178 => ?_)
                          · exact absurd rfl c_178
                          · skip
                            refine lv_aload_n hx hb dX6_letIn_181 rfl (lv_at hl 1 rfl) ?_
                            refine g_getr X h (k := 0) (t := (b + 1)) (cW_0 hW) fr_RX6_12 rfl (by decide) (by decide) (by decide) dX6_letIn_182 ?_
                            refine lv_iload_n hx hb dX6_letIn_185 rfl (lv_at hl 3 rfl) ?_
                            refine g_ki h (g_runV X h (As := [.int x2]) (rest := []) (c_X3_isDead gl Z va w x2 i hx2 (by omega) (b + 1) hE) mi_X3_isDead ml_RX6_91 (cW_1 hW) (by decide) kl3 rfl ⟨Nat.le_of_ble_eq_true rfl, Nat.le_of_ble_eq_true rfl⟩ rfl hl.1 rfl (Nat.le_of_ble_eq_true rfl) dX6_letIn_186) (fun r186 v186 w186 H locs hp186 h => ?_)
                            obtain ⟨hr186, hu186⟩ := hp186; obtain ⟨rfl, rfl⟩ := Prod.mk.inj hu186
                            rw [hfa (b + 1) (by omega) (by omega)] at hr186
                            refine lv_if_ne (tgt := 198) hx hb dX6_letIn_189 (by decide) (fun c_189 => ?_) (fun c_189 => ?_)
                            · skip
                              rw [hr186, bI_n] at c_189
                              refine lv_iinc (v := (x2 + 1)) (lv' := [(2, .int (x2 + 1)), (3, .int 0), (0, .ref (zg Z b)), (1, .int x1)]) hx hb dX6_letIn_198 hl (k := 3) rfl rfl (by decide) rfl (fun ls hl => ?_)
                              refine lv_goto (tgt := 129) hx hb dX6_letIn_201 (by decide) ?_
                              exact ih129 (i + 1) x1 (x2 + 1) (by rw [hx2]; exact nI_1 _) (by omega) (by rw [hx1]; show _ = bitsS _ _ (i + 1); rw [bitsS, if_neg (by rw [letS, xC_dead (by omega), xC_kd hpn, ← hwE i hpn, show xC v b n 0 2 = v b 2 from rfl]; rw [dB, c_189]; simp [bI])]) (by omega) _ _ h ls (lv_sub hl [2, 3, 0] rfl)
                            · skip
                              rw [hr186, bI_0] at c_189
                              refine lv_iload_n hx hb dX6_letIn_192 rfl (lv_at hl 2 rfl) ?_
                              refine lv_iconst (v := 1) hx hb dX6_letIn_193 (by decide) ?_
                              refine lv_iload_n hx hb dX6_letIn_194 rfl (lv_at hl 3 rfl) ?_
                              refine lv_ishl hx hb dX6_letIn_195 ?_
                              refine lv_ior hx hb dX6_letIn_196 ?_
                              refine lv_topi (fun x1_197 ex1_197 => ?_)
                              refine lv_istore_n (lv' := [(1, .int x1_197), (3, .int 0), (0, .ref (zg Z b)), (2, .int x2)]) hx hb dX6_letIn_197 rfl hl (by decide) rfl (fun ls hl => ?_)
                              refine lv_iinc (v := (x2 + 1)) (lv' := [(2, .int (x2 + 1)), (1, .int x1_197), (3, .int 0), (0, .ref (zg Z b))]) hx hb dX6_letIn_198 hl (k := 3) rfl rfl (by decide) rfl (fun ls hl => ?_)
                              refine lv_goto (tgt := 129) hx hb dX6_letIn_201 (by decide) ?_
                              exact ih129 (i + 1) x1_197 (x2 + 1) (by rw [hx2]; exact nI_1 _) (by omega) (by rw [ex1_197, hx1, hx2]; show _ = bitsS _ _ (i + 1); rw [bitsS, if_pos (by rw [letS, xC_dead (by omega), xC_kd hpn, ← hwE i hpn, show xC v b n 0 2 = v b 2 from rfl]; rw [dB, c_189]; have z := Int32.not_lt.mp c_174; simp [z, bI, c_159])]) (by omega) _ _ h ls (lv_sub hl [3, 1, 0] rfl)
                      · skip
                        refine lv_iconst (v := 1) hx hb dX6_letIn_162 (by decide) ?_
                        refine lv_goto (tgt := 167) hx hb dX6_letIn_163 (by decide) ?_
                        refine lv_istore_n (lv' := [(3, .int 1), (0, .ref (zg Z b)), (1, .int x1), (2, .int x2)]) hx hb dX6_letIn_167 rfl hl (by decide) rfl (fun ls hl => ?_)
                        refine lv_aload_n hx hb dX6_letIn_168 rfl (lv_at hl 1 rfl) ?_
                        refine g_getr X h (k := 10) (t := (b + 9)) (cW_0 hW) fr_RX6_26 rfl (by decide) (by decide) (by decide) dX6_letIn_169 ?_
                        refine lv_iload_n hx hb dX6_letIn_172 rfl (lv_at hl 3 rfl) ?_
                        refine g_iald X h (k := i) (cW_9 hW) hx2 (by omega) (by decide) dX6_letIn_173 ?_
                        refine lv_if_lt (tgt := 198) hx hb dX6_letIn_174 (by decide) (fun c_174 => ?_) (fun c_174 => ?_)
                        · skip
                          refine lv_iinc (v := (x2 + 1)) (lv' := [(2, .int (x2 + 1)), (3, .int 1), (0, .ref (zg Z b)), (1, .int x1)]) hx hb dX6_letIn_198 hl (k := 3) rfl rfl (by decide) rfl (fun ls hl => ?_)
                          refine lv_goto (tgt := 129) hx hb dX6_letIn_201 (by decide) ?_
                          exact ih129 (i + 1) x1 (x2 + 1) (by rw [hx2]; exact nI_1 _) (by omega) (by rw [hx1]; show _ = bitsS _ _ (i + 1); rw [bitsS, if_neg (by rw [letS, xC_dead (by omega), xC_kd hpn, ← hwE i hpn, show xC v b n 0 2 = v b 2 from rfl]; have z := Int32.not_le.mpr c_174; simp [z])]) (by omega) _ _ h ls (lv_sub hl [2, 3, 0] rfl)
                        · skip
                          refine lv_iload_n hx hb dX6_letIn_177 rfl (lv_at hl 0 rfl) ?_
                          refine lv_if_ne (tgt := 198) hx hb dX6_letIn_178 (by decide) (fun c_178 => ?_) (fun c_178 => ?_)
                          · skip
                            refine lv_iinc (v := (x2 + 1)) (lv' := [(2, .int (x2 + 1)), (3, .int 1), (0, .ref (zg Z b)), (1, .int x1)]) hx hb dX6_letIn_198 hl (k := 3) rfl rfl (by decide) rfl (fun ls hl => ?_)
                            refine lv_goto (tgt := 129) hx hb dX6_letIn_201 (by decide) ?_
                            exact ih129 (i + 1) x1 (x2 + 1) (by rw [hx2]; exact nI_1 _) (by omega) (by rw [hx1]; show _ = bitsS _ _ (i + 1); rw [bitsS, if_neg (by rw [letS, xC_dead (by omega), xC_kd hpn, ← hwE i hpn, show xC v b n 0 2 = v b 2 from rfl]; simp [c_150, c_159])]) (by omega) _ _ h ls (lv_sub hl [2, 3, 0] rfl)
                          · exact absurd c_178 (by decide)
              exact L129 (n - 0 + 1) 0 0 0 rfl (Nat.zero_le _) rfl (Nat.lt_succ_self _) _ _ h ls (lv_sub hl [2, 1, 0] rfl)
            · skip
              have hcl := nI_le0 (a := (DLs L).length) (b := ci) hd3 hx1 (by omega) (by omega) c_52
              obtain ⟨hwt, -, -⟩ := hcls ci hcl
              refine lv_aload_n hx hb dX6_letIn_55 rfl (lv_at hl 0 rfl) ?_
              refine g_getl X h (k := 6) (j := j) (cW_0 hW) fr_RX6_48 rfl (by decide) (by rw [hfa b (by omega) (by omega)]; exact hland2) dX6_letIn_56 ?_
              refine lv_iload_n hx hb dX6_letIn_59 rfl (lv_at hl 1 rfl) ?_
              refine lv_aload_n hx hb dX6_letIn_60 rfl (lv_at hl 0 rfl) ?_
              refine g_getr X h (k := 0) (t := (b + 1)) (cW_0 hW) fr_RX6_12 rfl (by decide) (by decide) (by decide) dX6_letIn_61 ?_
              refine lv_aload_n hx hb dX6_letIn_64 rfl (lv_at hl 0 rfl) ?_
              refine g_geti X h (k := 2) (cW_0 hW) fr_RX6_72 rfl (by decide) dX6_letIn_65 ?_
              refine g_tr (y := (v b 2)) (by rw [hfa b (by omega) (by omega)]) ?_
              refine lv_aload_n hx hb dX6_letIn_68 rfl (lv_at hl 0 rfl) ?_
              refine g_geti X h (k := 3) (cW_0 hW) fr_RX6_78 rfl (by decide) dX6_letIn_69 ?_
              refine g_tr (y := (v b 3)) (by rw [hfa b (by omega) (by omega)]) ?_
              refine g_ki h (g_runV X h (As := [.int x1, .ref (zg Z (b + 1)), .int (v b 2), .int (v b 3)]) (rest := []) (c_X1_holdsFor gl Z va w x1 ci hx1 (v b 2) (v b 3) b hW n B j L (CW_frL hbr.1 hj7 hcw hfa) (by first | assumption | omega) (by rw [hfa b (by omega) (by omega)]) (by rw [hfa b (by omega) (by omega)])) mi_X1_holdsFor ml_RX6_81 (cL_0 hL) (by decide) kl1 rfl ⟨Nat.le_of_ble_eq_true rfl, Nat.le_of_ble_eq_true rfl⟩ rfl hl.1 rfl (Nat.le_of_ble_eq_true rfl) dX6_letIn_72) (fun r72 v72 w72 H locs hp72 h => ?_)
              obtain ⟨hr72, f72, hf72⟩ := hp72
              obtain ⟨ev72, rfl⟩ := Prod.mk.inj hf72
              replace ev72 := ev72.symm
              rw [xC_frL hbr.1 hj7 hfa] at hr72
              refine lv_istore_n (lv' := [(2, .int r72), (0, .ref (zg Z b)), (1, .int x1)]) hx hb dX6_letIn_75 rfl hl (by decide) rfl (fun ls hl => ?_)
              refine lv_iconst (v := 0) hx hb dX6_letIn_76 (by decide) ?_
              refine lv_istore_n (lv' := [(3, .int 0), (2, .int r72), (0, .ref (zg Z b)), (1, .int x1)]) hx hb dX6_letIn_77 rfl hl (by decide) rfl (fun ls hl => ?_)
              have L78 : ∀ (n78 : Nat) (i : Nat) (x3 : Int32) (vb : VV), (x3 = nI i) → (i ≤ n) → (frL v vb b j) → (∀ p, p < n → vb (b + 9) p = xC v b n 3 p - xC v b n 0 2 / 10 + lsum (fun i => ctr (xC v b n) p ((DLs L).getD i dC)) ci + (if p < i then ctr (xC v b n) p ((DLs L).getD ci dC) else 0)) → n - i < n78 → ∀ (H : Heap) (locs : List Loc), HS Z gs vb w H locs → ∀ ls : Array Slot, lv_has ls 4 [(0, .ref (zg Z b)), (1, .int x1), (2, .int r72), (3, .int x3)] → W gp gl ge (rmm 2 56) gs gm ga gb gh gc H locs 0 0 (MQ gb (Qi Z (fun r u => r = bitsS (xC v b n) L n ∧ (u.1, w) = u ∧ frL v u.1 b j ∧ ∀ p, p < n → u.1 (b + 9) p = welS (xC v b n) L p)) ga gs 0 0 (zA Z)) (F0 gm 78 ls []) := by
                intro n78
                induction n78 with
                | zero => intro i x3 vb hx3 hi hfb hwc hmu; exact absurd hmu (Nat.not_lt_zero _)
                | succ n78 ih78 =>
                  intro i x3 vb hx3 hi hfb hwc hmu78 H locs h ls hl
                  refine lv_iload_n hx hb dX6_letIn_78 rfl (lv_at hl 3 rfl) ?_
                  refine lv_aload_n hx hb dX6_letIn_79 rfl (lv_at hl 0 rfl) ?_
                  refine g_getr X h (k := 0) (t := (b + 1)) (cW_0 hW) fr_RX6_12 rfl (by decide) (by decide) (by decide) dX6_letIn_80 ?_
                  refine g_geti X h (k := 0) (cW_1 hW) fr_RX6_66 rfl (by decide) dX6_letIn_83 ?_
                  refine g_tr (y := (v (b + 1) 0)) (by rw [hfb (b + 1) (by omega) (by omega)]) ?_
                  refine lv_icmp_ge (tgt := 119) hx hb dX6_letIn_86 (by decide) (fun c_86 => ?_) (fun c_86 => ?_)
                  · skip
                    have hin := nI_le1 (a := n) (b := i) hn hx3 (by omega) (by omega) c_86
                    refine lv_iinc (v := (x1 + 1)) (lv' := [(1, .int (x1 + 1)), (0, .ref (zg Z b)), (2, .int r72), (3, .int x3)]) hx hb dX6_letIn_119 hl (k := 1) rfl rfl (by decide) rfl (fun ls hl => ?_)
                    refine lv_goto (tgt := 44) hx hb dX6_letIn_122 (by decide) ?_
                    exact ih44 (ci + 1) (x1 + 1) vb (by rw [hx1]; exact nI_1 _) (by omega) hfb (by intro p hp; rw [hwc p hp, if_pos (by omega), Int32.add_assoc]; rfl) (by omega) _ _ h ls (lv_sub hl [1, 0] rfl)
                  · skip
                    have hin := nI_le0 (a := n) (b := i) hn hx3 (by omega) (by omega) c_86
                    refine lv_aload_n hx hb dX6_letIn_89 rfl (lv_at hl 0 rfl) ?_
                    refine g_getr X h (k := 10) (t := (b + 9)) (cW_0 hW) fr_RX6_26 rfl (by decide) (by decide) (by decide) dX6_letIn_90 ?_
                    refine lv_iload_n hx hb dX6_letIn_93 rfl (lv_at hl 3 rfl) ?_
                    refine lv_dup2_11 hx hb dX6_letIn_94 rfl rfl ?_
                    refine g_iald X h (k := i) (cW_9 hW) hx3 (by omega) (by decide) dX6_letIn_95 ?_
                    refine lv_iload_n hx hb dX6_letIn_96 rfl (lv_at hl 2 rfl) ?_
                    refine lv_iload_n hx hb dX6_letIn_97 rfl (lv_at hl 3 rfl) ?_
                    refine lv_ishr hx hb dX6_letIn_98 ?_
                    refine lv_iconst (v := 1) hx hb dX6_letIn_99 (by decide) ?_
                    refine lv_iand hx hb dX6_letIn_100 ?_
                    refine lv_aload_n hx hb dX6_letIn_101 rfl (lv_at hl 0 rfl) ?_
                    refine g_getl X h (k := 6) (j := j) (cW_0 hW) fr_RX6_48 rfl (by decide) (by rw [hfb b (by omega) (by omega)]; exact hland2) dX6_letIn_102 ?_
                    refine g_getr X h (k := 4) (t := ((2 + 7 * j) + 1)) (cL_0 hL) fr_RX6_85 rfl (by decide) (by decide) (by decide) dX6_letIn_105 ?_
                    refine lv_iload_n hx hb dX6_letIn_108 rfl (lv_at hl 1 rfl) ?_
                    refine g_iald X h (k := ci) (cL_1 hL) hx1 (by omega) (by decide) dX6_letIn_109 ?_
                    refine g_tr (y := (v ((2 + 7 * j) + 1) ci)) (by rw [hfb ((2 + 7 * j) + 1) (by omega) (by omega)]) ?_
                    refine lv_imul hx hb dX6_letIn_110 ?_
                    refine lv_iadd hx hb dX6_letIn_111 ?_
                    refine g_iast X h (k := i) (cW_9 hW) hx3 (by omega) (by decide) dX6_letIn_112 (fun v112 H locs ev112 h => ?_)
                    refine lv_iinc (v := (x3 + 1)) (lv' := [(3, .int (x3 + 1)), (0, .ref (zg Z b)), (1, .int x1), (2, .int r72)]) hx hb dX6_letIn_113 hl (k := 3) rfl rfl (by decide) rfl (fun ls hl => ?_)
                    refine lv_goto (tgt := 78) hx hb dX6_letIn_116 (by decide) ?_
                    exact ih78 (i + 1) (x3 + 1) v112 (by rw [hx3]; exact nI_1 _) (by omega) (by rw [ev112]; exact frL_w hfb) (by intro p hp; rw [ev112, up2_at]; exact (if e : p = i then (by rw [if_pos e, e, if_pos (by omega), hwc i hin, if_neg (by omega), Int32.add_zero, hx3, b1_n (by omega), hr72 i hin, hwt, ctr_w (hDw ci hcl).1]) else (by rw [if_neg e, hwc p hp]; rw [ifs_ne e]))) (by omega) _ _ h ls (lv_sub hl [1, 2, 3, 0] rfl)
              exact L78 (n - 0 + 1) 0 0 v72 rfl (Nat.zero_le _) (by rw [ev72]; exact frL_s hfa) (fun p hp => by rw [if_neg (Nat.not_lt_zero _), Int32.add_zero, ev72, upc_ne (by omega)]; exact hwl p hp) (Nat.lt_succ_self _) _ _ h ls (lv_sub hl [2, 3, 1, 0] rfl)
        exact L44 ((DLs L).length - 0 + 1) 0 0 va rfl (Nat.zero_le _) hfa (fun p hp => by rw [hf p (by omega)]; exact (Int32.add_zero _).symm) (Nat.lt_succ_self _) _ _ h ls (lv_sub hl [1, 0] rfl)
      · skip
        have hin := nI_le0 (a := n) (b := i) hn hx1 (by omega) (by omega) c_10
        refine lv_aload_n hx hb dX6_letIn_13 rfl (lv_at hl 0 rfl) ?_
        refine g_getr X h (k := 10) (t := (b + 9)) (cW_0 hW) fr_RX6_26 rfl (by decide) (by decide) (by decide) dX6_letIn_14 ?_
        refine lv_iload_n hx hb dX6_letIn_17 rfl (lv_at hl 1 rfl) ?_
        refine lv_aload_n hx hb dX6_letIn_18 rfl (lv_at hl 0 rfl) ?_
        refine g_getr X h (k := 0) (t := (b + 1)) (cW_0 hW) fr_RX6_12 rfl (by decide) (by decide) (by decide) dX6_letIn_19 ?_
        refine g_getr X h (k := 4) (t := (b + 5)) (cW_1 hW) fr_RX6_69 rfl (by decide) (by decide) (by decide) dX6_letIn_22 ?_
        refine lv_iload_n hx hb dX6_letIn_25 rfl (lv_at hl 1 rfl) ?_
        refine g_iald X h (k := i) (cW_5 hW) hx1 (by omega) (by decide) dX6_letIn_26 ?_
        refine g_tr (y := (v (b + 5) i)) (by rw [hfa (b + 5) (by omega) (by omega)]) ?_
        refine lv_aload_n hx hb dX6_letIn_27 rfl (lv_at hl 0 rfl) ?_
        refine g_geti X h (k := 2) (cW_0 hW) fr_RX6_72 rfl (by decide) dX6_letIn_28 ?_
        refine g_tr (y := (v b 2)) (by rw [hfa b (by omega) (by omega)]) ?_
        refine lv_bipush (v := 10) hx hb dX6_letIn_31 (by decide) ?_
        refine lv_idiv hx hb dX6_letIn_33 (by decide) ?_
        refine lv_isub hx hb dX6_letIn_34 ?_
        refine g_iast X h (k := i) (cW_9 hW) hx1 (by omega) (by decide) dX6_letIn_35 (fun v35 H locs ev35 h => ?_)
        refine lv_iinc (v := (x1 + 1)) (lv' := [(1, .int (x1 + 1)), (0, .ref (zg Z b))]) hx hb dX6_letIn_36 hl (k := 1) rfl rfl (by decide) rfl (fun ls hl => ?_)
        refine lv_goto (tgt := 2) hx hb dX6_letIn_39 (by decide) ?_
        exact ih2 (i + 1) (x1 + 1) v35 (by rw [hx1]; exact nI_1 _) (by omega) (by rw [ev35]; exact frL_w hfa) (by intro p hp; rw [ev35, up2_at]; exact (if e : p = i then (by rw [if_pos e, e, xC_th (by omega)]; rfl) else (by rw [if_neg e]; exact hf p (by omega)))) (by omega) _ _ h ls (lv_sub hl [1, 0] rfl)
  exact L2 (n - 0 + 1) 0 0 v rfl (Nat.zero_le _) (frL_refl _ _ _) (fun p hp => absurd hp (Nat.not_lt_zero _)) (Nat.lt_succ_self _) _ _ h ls (lv_sub hl [1, 0] rfl)
