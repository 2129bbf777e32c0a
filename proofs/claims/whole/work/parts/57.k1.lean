/-! constructors: worlds as lists, the newest cell in front; nothing is cut out: a callee's contract speaks of the whole list -/
def tyc (k : Nat → ClassId) : List (ClassId × FieldType) := [(k 9, .int), (k 10, .byte), (k 11, .boolean), (k 12, .long), (k 13, .object RX1)]
def KN (U : State) : Prop := (∀ q ∈ nestM, va_Nw (.methodLinkNest q.1 q.2.1 q.2.2 RX7) U) ∧ va_AO RX1 U
theorem KN.warm {s U : State} (hW : s.WarmedH U.vm) (h : KN s) : KN U := ⟨fun q hq => va_Nw.warmM hW (h.1 q hq), va_AO.moved hW.alike h.2⟩
theorem KN.calling {U : State} {g : JFrame} {mk : MethodId} {a : Array Value} (h : KN U) : KN (U.calling g mk a) := ⟨fun q hq => va_Nw.same (u := U) (U := U.calling g mk a) rfl rfl (h.1 q hq), va_AO.moved (u := U) (U := U.calling g mk a) (Vm.Alike.refl U.vm) h.2⟩
def KB (D : va_G) (k : Nat → ClassId) (N0 : Nat) (ws : va_W) (U : State) : Prop := N0 ≤ U.heap.size ∧ va_P D vwCl ws U.heap ∧ va_D (fun q => N0 ≤ q) ws ∧ va_K D vwCl (tyc k) U ∧ KN U
theorem KB.blind {D : va_G} {k : Nat → ClassId} {N0 : Nat} {ws : va_W} {av : List Value} : FrameBlind (va_Pc av (KB D k N0 ws)) := fun a U g mk q => ⟨q.1, q.2.1, q.2.2.1, q.2.2.2.1, va_K.moved (u := U) (U := U.calling g mk a) (Vm.Alike.refl U.vm) q.2.2.2.2.1, q.2.2.2.2.2.calling⟩
def KO (D : va_G) (N0 : Nat) (B : (Nat → Nat) → va_W) : (Nat → Nat) → State → Prop := fun a t => va_P D vwCl (B a) t.heap ∧ va_D (fun q => N0 ≤ q) (B a)
abbrev KQ (D : va_G) (N0 : Nat) (B : (Nat → Nat) → va_W) : Array Value → State → Outcome → State → Prop := va_Qv (fun _ : Nat → Nat => True) (KO D N0 B) (fun q => N0 ≤ q)
def CK (l : Launch) (y : MethodName) (b : ByteArray) (n fr lo mc ms : Nat) (D : va_G) (k : Nat → ClassId) (N0 : Nat) (av : List Value) (ws : va_W) (B : (Nat → Nat) → va_W) : Prop := Met l y (.code y b n none :: T0) { frames := fr, cells := mc, slots := ms, locals := lo } (va_Pc av (KB D k N0 ws)) (KQ D N0 B) mc ms (fun q => N0 ≤ q)
def Kx (D : va_G) (k : Nat → ClassId) (p : Program) (s : State) (m : MethodId) (args : Array Value) (c : Code) (cc : ByteArray) (nL : Nat) (own : String) : Prop := p.tables.exec = Jvm.exec ∧ c.code = cc ∧ c.maxLocals = nL ∧ s.vm.findClass own = some m.cls ∧ (∀ w ∈ T0, w.before args s = true) ∧ va_K D vwCl (tyc k) s ∧ KN s
def HK (D : va_G) (N0 : Nat) (s : State) (ws : va_W) (H : Heap) (locs : List Loc) : Prop := va_P D vwCl ws H ∧ va_D (fun q => N0 ≤ q) ws ∧ va_S (fun q => N0 ≤ q) s.heap H locs ∧ N0 ≤ s.heap.size
theorem vP_rot {D : va_G} {cl : List vw_C} {ws : va_W} {x : Nat × va_E} {H : Heap} (h : va_P D cl (ws ++ [x]) H) : va_P D cl (x :: ws) H := by
  intro k q hk
  cases k with
  | zero =>
    refine h ws.length q ?_
    rw [List.getElem?_append_right (Nat.le_refl _), Nat.sub_self]
    exact hk
  | succ k =>
    have hl : k < ws.length := (List.getElem?_eq_some_iff.mp (show ws[k]? = some q from hk)).1
    refine h k q ?_
    rw [List.getElem?_append_left hl]
    exact hk
theorem vD_rot {A : Nat → Prop} {ws : va_W} {x : Nat × va_E} (h : va_D A (ws ++ [x])) : va_D A (x :: ws) := by
  refine h.by (fun k => if k = 0 then ws.length else k - 1) ?_ ?_
  · intro k q hk
    cases k with
    | zero =>
      show (ws ++ [x])[ws.length]? = some q
      rw [List.getElem?_append_right (Nat.le_refl _), Nat.sub_self]
      exact hk
    | succ k =>
      have hl : k < ws.length := (List.getElem?_eq_some_iff.mp (show ws[k]? = some q from hk)).1
      show (ws ++ [x])[k]? = some q
      rw [List.getElem?_append_left hl]
      exact hk
  · intro i j hi hj e
    simp only [List.length_cons] at hi hj
    by_cases h1 : i = 0
    · by_cases h2 : j = 0
      · omega
      · rw [if_pos h1, if_neg h2] at e
        omega
    · by_cases h2 : j = 0
      · rw [if_neg h1, if_pos h2] at e
        omega
      · rw [if_neg h1, if_neg h2] at e
        omega
/-- a final field of the class that makes it -/
def fldF (own : String) (idx K k : Nat) (ft : FieldType) : Prop := ∃ (C : String) (T : u_T) (N : Nat) (ty : Nat → FieldType), kl K C T N ty ∧ k < N ∧ Cond.fieldLink own idx (T k).1 (T k).2.1 (T k).2.2.1 ∈ T0 ∧ (T k).2.2.2 = true ∧ (T k).1 = own ∧ parseFieldDescriptor (T k).2.2.1 = some ft
def aty (ty : FieldType) : Prop := ∀ (U : State) (cA : ClassId), va_RA U cA ty → U.vm.findClass ("[" ++ ty.toString) = some cA
theorem aty_i : aty .int := fun _ _ h => h
theorem aty_b : aty .byte := fun _ _ h => h
theorem aty_z : aty .boolean := fun _ _ h => h
theorem aty_l : aty .long := fun _ _ h => h
/-- a constructor's words -/
def mcN (y : MethodName) (b : ByteArray) (n np : Nat) : Prop := mc y b n none np ∧ Cond.instanceMethod y ∈ T0 ∧ y.name = "<init>"
section KR
variable {D : va_G} {k : Nat → ClassId} {N0 : Nat} {p : Program} {l : Launch} {e : Env} {R : Room} {s : State} {m : MethodId} {args : Array Value} {below : List Frame} {meth : Method} {c : Code} {H : Heap} {locs : List Loc} {cells slots : Nat} {Q : State → Prop} {cc : ByteArray} {nL : Nat} {own : String} {pc : Nat} {ls : Array Slot} {rest : List Value} {ws : va_W} {a : Nat}
theorem Kx.ts (X : Kx D k p s m args c cc nL own) : ∀ w ∈ T0, w.before args s = true := X.2.2.2.2.1
theorem Kx.ow (X : Kx D k p s m args c cc nL own) : s.vm.findClass own = some m.cls := X.2.2.2.1
theorem Kx.K (X : Kx D k p s m args c cc nL own) : va_K D vwCl (tyc k) s := X.2.2.2.2.2.1
theorem Kx.N (X : Kx D k p s m args c cc nL own) : KN s := X.2.2.2.2.2.2
theorem HK.A (h : HK D N0 s ws H locs) : ∀ q, s.heap.size ≤ q → N0 ≤ q := fun _ hq => Nat.le_trans h.2.2.2 hq
theorem k_met {y : MethodName} {b : ByteArray} {n fr lo mc ms : Nat} {av : List Value} {B : (Nat → Nat) → va_W} (hy : plainName y.cls = true) (hlen : (lg_sl av).length ≤ n) (body : ∀ (p : Program) (e : Env) (s : State) (m : MethodId) (args : Array Value) (below : List Frame) (meth : Method) (c : Code), Kx D k p s m args c b n y.cls → meth.sig.returnType = none → meth.locks = false → meth.name = y.name → HK D N0 s ws s.heap [] → ∀ ls : Array Slot, lv_has ls n (lv_args 0 av) → W p l e { frames := fr, cells := mc, slots := ms, locals := lo } s m args below meth c s.heap [] 0 0 (MQ below (KQ D N0 B) args s mc ms (fun q => N0 ≤ q)) (F0 m 0 ls [])) : CK l y b n fr lo mc ms D k N0 av ws B := by
  refine Met.ofW (cc := b) (maxL := n) (ret := none) hy rfl ?_
  intro p e s m args below meth c s₁ B hml hv
  obtain ⟨rfl, hN, hP, hD, hK, hn⟩ := hv
  have hl := lv_entry av (n := n) hlen
  rw [lg_entry_eq]
  have hts := atoms_spec (ws := .code y b n none :: T0) B.pre
  exact body p e s m _ below meth c ⟨B.exec, B.bytes, hml, findClass_of_methodNamed B.named, fun w h => hts w (List.mem_cons_of_mem _ h), hK, hn⟩ B.returns B.notSynchronized (name_of_methodNamed B.named B.method).1 ⟨hP, hD, va_S.rf, hN⟩ _ hl
theorem k_vret (X : Kx D k p s m args c cc nL own) (hr : meth.sig.returnType = none) (hlk : meth.locks = false) (h : HK D N0 s ws H locs) {B : (Nat → Nat) → va_W} {mc ms : Nat} (al : Nat → Nat) (hB : B al = ws) (hc : cells ≤ mc) (hs : slots ≤ ms) (hdg : decode cc pc = .ok (.return_, 1)) : W p l e R s m args below meth c H locs cells slots (MQ below (KQ D N0 B) args s mc ms (fun q => N0 ≤ q)) (F0 m pc ls []) := by
  refine W.widen (k := mc) (n := ms) hc hs ?_
  exact W.vret X.1 X.2.1 hr (fun t ht _ => ⟨⟨al, rfl, trivial, by show va_P _ _ (B al) t.heap ∧ _; rw [hB, ht]; exact ⟨h.1, h.2.1⟩⟩, h.2.2.1.F ht⟩) h.2.2.1.2.2 hdg hlk
theorem k_obj (X : Kx D k p s m args c cc nL own) (hls : ls.size = nL) {idx : Nat} (hlk : Cond.methodLink own idx objectInit ∈ T0) (hR : 1 ≤ R.frames ∧ 20 ≤ R.locals) (hr8 : (rest.map fun v => v.category).sum ≤ 8) (hdg : decode cc pc = .ok (.invokespecial idx, 3)) (kk : W p l e R s m args below meth c H locs cells slots Q (F0 m (pc + 3) ls rest)) : W p l e R s m args below meth c H locs cells slots Q (F0 m pc ls (.ref a :: rest)) :=
  W.objInit X.1 X.2.1 X.ow (X.ts _ hlk) (X.ts _ im_objectInit) (X.ts _ co_objectInit) rfl (hls.trans X.2.2.1.symm) rfl hdg hR.1 (by show 2 * 0 + _ + 12 ≤ _; have := hR.2; omega) kk
theorem k_newa (X : Kx D k p s m args c cc nL own) (h : HK D N0 s ws H locs) {atype : ArrayType} {ty : FieldType} {j N : Nat} {n : Int32} {cA0 : ClassId} {a0 : vp_A} (hty : newarray.typeOf atype = ty) (harr : Cond.arrayClass ty ∈ T0) (hra : aty ty) (ht : (tyc k)[j]? = some (cA0, ty)) (ha : ∀ cA, vp_cell cA a0 = arrV cA N (fun _ => defaultValue ty)) (hn : ¬ n < 0) (hN : n.toNatClampNeg = N) (hby : N * componentBytes ty ≤ 536870912) (hc : cells + 1 ≤ R.cells) (hs : slots + N ≤ R.slots) (hdg : decode cc pc = .ok (.newarray atype, 2)) (kk : ∀ (q : Nat) (H1 : Heap), HK D N0 s ((q, .inl (cA0, a0)) :: ws) H1 locs → W p l e R s m args below meth c H1 locs (cells + 1) (slots + N) Q (F0 m (pc + 2) ls (.ref q :: rest))) : W p l e R s m args below meth c H locs cells slots Q (F0 m pc ls (.int n :: rest)) := by
  subst hty
  refine va_newa X.1 X.2.1 (X.ts _ harr) rfl X.K h.1 h.2.1 h.2.2.1 h.A ha hn hN hby hc hs hdg (fun q cA H1 hK hP hD hS => ?_)
  have e : cA = cA0 := by
    have h1 := hra s cA (hK.2 (tyc k).length _ (by rw [List.getElem?_append_right (Nat.le_refl _), Nat.sub_self]; rfl)).2
    have h2 := hra s cA0 (X.K.2 j _ ht).2
    exact Option.some.inj (h1.symm.trans h2)
  subst e
  exact kk q H1 ⟨vP_rot hP, vD_rot hD, hS, h.2.2.2⟩
theorem k_newq (X : Kx D k p s m args c cc nL own) (h : HK D N0 s ws H locs) {idx N : Nat} {n : Int32} (hlk : Cond.classLink own idx RX1 ∈ T0) (hn : ¬ n < 0) (hN : n.toNatClampNeg = N) (hby : N * 4 ≤ 536870912) (hc : cells + 1 ≤ R.cells) (hs : slots + N ≤ R.slots) (hdg : decode cc pc = .ok (.anewarray idx, 3)) (kk : ∀ (q : Nat) (H1 : Heap), HK D N0 s ((q, .inl (k 13, N, .inr (.inr (.inr (.inr (fun _ => none)))))) :: ws) H1 locs → W p l e R s m args below meth c H1 locs (cells + 1) (slots + N) Q (F0 m (pc + 3) ls (.ref q :: rest))) : W p l e R s m args below meth c H locs cells slots Q (F0 m pc ls (.int n :: rest)) := by
  refine va_newq X.1 X.2.1 X.ow (X.ts _ hlk) X.N.2 X.K h.1 h.2.1 h.2.2.1 h.A hn hN hby hc hs hdg (fun q cA H1 hK hP hD hS => ?_)
  have e : cA = k 13 := by
    obtain ⟨kA, comp, g1, g2, g3, g4⟩ := (hK.2 (tyc k).length _ (by rw [List.getElem?_append_right (Nat.le_refl _), Nat.sub_self]; rfl)).2
    obtain ⟨kA', comp', g1', g2', g3', g4'⟩ := (X.K.2 4 _ rfl).2
    exact Option.some.inj (g4.symm.trans g4')
  subst e
  exact kk q H1 ⟨vP_rot hP, vD_rot hD, hS, h.2.2.2⟩
theorem k_new (X : Kx D k p s m args c cc nL own) (h : HK D N0 s ws H locs) {idx K N : Nat} {C : String} {T : u_T} {ty : Nat → FieldType} {fs : List Value} (hkl : kl K C T N ty) (hlk : Cond.classLink own idx C ∈ T0) (hit : Cond.instantiable C N ∈ T0) (hin : Cond.initialized C ∈ T0) (hfs : ∀ j, j < N → defaultValue (ty j) = vp_V fs j) (hc : cells + 1 ≤ R.cells) (hs : slots + N ≤ R.slots) (hdg : decode cc pc = .ok (.new idx, 3)) (kk : ∀ (q : Nat) (H1 : Heap), HK D N0 s ((q, .inr (K, fs)) :: ws) H1 locs → W p l e R s m args below meth c H1 locs (cells + 1) (slots + N) Q (F0 m (pc + 3) ls (.ref q :: rest))) : W p l e R s m args below meth c H locs cells slots Q (F0 m pc ls rest) := by
  obtain ⟨h1, h2, h3, h4, h5⟩ := hkl
  exact va_new (ci := K) X.1 X.2.1 X.ts h3 ty h4 X.ow (X.ts _ hlk) (X.ts _ hit) (X.ts _ hin) X.K h.1 h.2.1 h.2.2.1 h.A h1 hfs hc hs hdg (fun q H1 hP hD hS => kk q H1 ⟨vP_rot hP, vD_rot hD, hS, h.2.2.2⟩)
theorem k_putF (X : Kx D k p s m args c cc nL own) (h : HK D N0 s ws H locs) {idx K kf : Nat} {ft : FieldType} {v : Value} {fs : List Value} (hin : meth.name = "<init>") (hf : fldF own idx K kf ft) (q0 : Nat) (he : ws[q0]? = some (a, .inr (K, fs))) (hn : narrow ft v = v) (hfit : fits ft v = true) (hl : kf < fs.length) (hdg : decode cc pc = .ok (.putfield idx, 3)) (kk : ∀ (H1 : Heap) (locs1 : List Loc), HK D N0 s (ws.set q0 (a, .inr (K, fs.set kf v))) H1 locs1 → W p l e R s m args below meth c H1 locs1 cells slots Q (F0 m (pc + 3) ls rest)) : W p l e R s m args below meth c H locs cells slots Q (F0 m pc ls (v :: .ref a :: rest)) := by
  obtain ⟨C, T, N, ty, ⟨h1, h2, h3, h4, h5⟩, h6, h7, h8, h9, h10⟩ := hf
  exact va_putF (C := C) (T := T) (N := N) (ci := K) X.1 X.2.1 X.ts h3 ty h4 h5 X.ow X.K h.1 h.2.1 h.2.2.1 q0 he h1 kf h6 (X.ts _ h7) (by rw [h9]; exact fun _ h9 => h9) h8 hin h9 h10 hn hfit hl hdg (fun H1 locs1 hP hD hS => kk H1 locs1 ⟨hP, hD, hS, h.2.2.2⟩)
theorem k_put (X : Kx D k p s m args c cc nL own) (h : HK D N0 s ws H locs) {idx K kf : Nat} {ft : FieldType} {v : Value} {fs : List Value} (hf : fldw own idx K kf ft) (q0 : Nat) (he : ws[q0]? = some (a, .inr (K, fs))) (hn : narrow ft v = v) (hfit : fits ft v = true) (hl : kf < fs.length) (hdg : decode cc pc = .ok (.putfield idx, 3)) (kk : ∀ (H1 : Heap) (locs1 : List Loc), HK D N0 s (ws.set q0 (a, .inr (K, fs.set kf v))) H1 locs1 → W p l e R s m args below meth c H1 locs1 cells slots Q (F0 m (pc + 3) ls rest)) : W p l e R s m args below meth c H locs cells slots Q (F0 m pc ls (v :: .ref a :: rest)) := by
  obtain ⟨C, T, N, ty, ⟨h1, h2, h3, h4, h5⟩, h6, h7, h8, h9⟩ := hf
  exact va_put (C := C) (T := T) (N := N) (ci := K) (ty := ft) X.1 X.2.1 X.ts h3 ty h4 h5 X.ow X.K h.1 h.2.1 h.2.2.1 q0 he h1 kf h6 (X.ts _ h7) (fun _ h9 => h9) h8 h9 hn hfit hl hdg (fun H1 locs1 hP hD hS => kk H1 locs1 ⟨hP, hD, hS, h.2.2.2⟩)
theorem k_get (X : Kx D k p s m args c cc nL own) (h : HK D N0 s ws H locs) {idx K kf : Nat} {y : Value} {fs : List Value} (hf : fld own idx K kf) (q0 : Nat) (he : ws[q0]? = some (a, .inr (K, fs))) (hy : fs[kf]? = some y) (hdg : decode cc pc = .ok (.getfield idx, 3)) (kk : W p l e R s m args below meth c H locs cells slots Q (F0 m (pc + 3) ls (y :: rest))) : W p l e R s m args below meth c H locs cells slots Q (F0 m pc ls (.ref a :: rest)) := by
  obtain ⟨C, T, N, ty, ⟨h1, h2, h3, h4, h5⟩, h6, h7⟩ := hf
  exact va_get (C := C) (T := T) (N := N) (ci := K) X.1 X.2.1 X.ts h3 X.ow X.K h.1 q0 he h1 kf h6 (X.ts _ h7) (fun _ h9 => h9) hy hdg kk
theorem k_iast (X : Kx D k p s m args c cc nL own) (h : HK D N0 s ws H locs) {n i : Nat} {x y : Int32} {f : Nat → Int32} (q0 : Nat) (he : ws[q0]? = some (a, .inl (k 9, n, .inl f))) (hx : x = nI i) (hi : i < n) (hn : n < 2000) (hdg : decode cc pc = .ok (.iastore, 1)) (kk : ∀ (H1 : Heap) (locs1 : List Loc), HK D N0 s (ws.set q0 (a, .inl (k 9, n, .inl (upd f i y)))) H1 locs1 → W p l e R s m args below meth c H1 locs1 cells slots Q (F0 m (pc + 1) ls rest)) : W p l e R s m args below meth c H locs cells slots Q (F0 m pc ls (.int y :: .int x :: .ref a :: rest)) := by
  subst hx
  refine va_iast X.1 X.2.1 X.K h.1 h.2.1 h.2.2.1 q0 0 he rfl (vp_in_nI hi (by omega)) hdg (fun H1 locs1 hP hD hS => kk H1 locs1 ?_)
  rw [nI_clamp (by omega)] at hP hD
  exact ⟨hP, hD, hS, h.2.2.2⟩
theorem k_aast (X : Kx D k p s m args c cc nL own) (h : HK D N0 s ws H locs) {n i v : Nat} {x : Int32} {vs : List Value} {f : Nat → Option Nat} (q0 qk : Nat) (he : ws[q0]? = some (a, .inl (k 13, n, .inr (.inr (.inr (.inr f)))))) (hv : ws[qk]? = some (v, .inr (1, vs))) (hx : x = nI i) (hi : i < n) (hn : n < 2000) (hdg : decode cc pc = .ok (.aastore, 1)) (kk : ∀ (H1 : Heap) (locs1 : List Loc), HK D N0 s (ws.set q0 (a, .inl (k 13, n, .inr (.inr (.inr (.inr (va_up f i (some v)))))))) H1 locs1 → W p l e R s m args below meth c H1 locs1 cells slots Q (F0 m (pc + 1) ls rest)) : W p l e R s m args below meth c H locs cells slots Q (F0 m pc ls (.ref v :: .int x :: .ref a :: rest)) := by
  subst hx
  refine va_astq (r := (RX1, TX1, 11)) X.1 X.2.1 X.K h.1 h.2.1 h.2.2.1 q0 4 qk 1 he rfl hv rfl (vp_in_nI hi (by omega)) hdg (fun H1 locs1 hP hD hS => kk H1 locs1 ?_)
  rw [nI_clamp (by omega)] at hP hD
  exact ⟨hP, hD, hS, h.2.2.2⟩
theorem k_max (X : Kx D k p s m args c cc nL own) (hls : ls.size = nL) {idx : Nat} (hlk : Cond.methodLink own idx yJ9_max_7cf53 ∈ T0) (hR : 1 ≤ R.frames ∧ 21 ≤ R.locals) (hr8 : (rest.map fun v => v.category).sum ≤ 8) (hc : cells ≤ R.cells) (hs : slots ≤ R.slots) {x y z : Int32} (hz : (if x < y then y else x) = z) (hdg : decode cc pc = .ok (.invokestatic idx, 3)) (kk : W p l e R s m args below meth c H locs cells slots Q (F0 m (pc + 3) ls (.int z :: rest))) : W p l e R s m args below meth c H locs cells slots Q (F0 m pc ls (.int y :: .int x :: rest)) := by
  subst hz
  exact va_mmax X.1 X.2.1 (X.2.2.1.trans hls.symm) X.ow (X.ts _ hlk) (X.ts _ st_max) (X.ts _ in_RJ9) (X.ts _ co_max) hR.1 (by have := hR.2; omega) hc hs hdg kk
theorem k_pre (X : Kx D k p s m args c cc nL own) (h : HK D N0 s ws H locs) (av : List Value) : ∀ U : State, U.heap = H → s.WarmedH U.vm → va_Pc av (KB D k N0 ws) av.toArray U := fun U hU hW => ⟨rfl, by rw [hU]; exact Nat.le_trans h.2.2.2 h.2.2.1.1, by rw [hU]; exact h.1, h.2.1, va_K.moved hW.alike X.K, X.N.warm hW⟩
theorem k_pay (X : Kx D k p s m args c cc nL own) {x : Cond} (hx : x ∈ T0) : ∀ w ∈ x :: T0, ∀ (a' : Array Value) (U : State), s.WarmedH U.vm → w.before a' U = true := by
  refine pay_in X.ts (fun w hw => ?_)
  rcases List.mem_cons.mp hw with rfl | h
  · exact T0_good _ hx
  · exact T0_good _ h
variable {y : MethodName} {b : ByteArray} {n fr lo mc ms np idx : Nat} {As st : List Value} {B : (Nat → Nat) → va_W}
theorem k_back (h : HK D N0 s ws H locs) {av : Array Value} (hr : va_Run p l e R s m args below meth c H locs cells slots mc ms (F0 m pc ls st) rest (KQ D N0 B av) (fun q => N0 ≤ q)) (kk : ∀ (al : Nat → Nat) (H1 : Heap) (locs1 : List Loc), HK D N0 s (B al) H1 locs1 → W p l e R s m args below meth c H1 locs1 (cells + mc) (slots + ms) Q (F0 m (pc + 3) ls rest)) : W p l e R s m args below meth c H locs cells slots Q (F0 m pc ls st) :=
  va_callv hr h.2.2.1 (fun _ _ h => h) (fun _ h => h) (fun u t H1 locs1 ht _ _ hB _ _ hS => kk u H1 locs1 ⟨by rw [← ht]; exact hB.1, hB.2, hS, h.2.2.2⟩)
theorem k_call (X : Kx D k p s m args c cc nL own) (h : HK D N0 s ws H locs) (hM : CK l y b n fr lo mc ms D k N0 (.ref a :: As) ws B) (hm : mcN y b n np) (hlk : Cond.methodLink own idx y ∈ T0) (hR : fr + 1 ≤ R.frames ∧ 8 + (n + 11) + lo ≤ R.locals) (hn : As.length = np) (hls : ls.size = nL) (hst : st = As.reverse ++ .ref a :: rest) (hr8 : (rest.map fun v => v.category).sum ≤ 8) (hdg : decode cc pc = .ok (.invokespecial idx, 3)) (hf : cells + mc ≤ R.cells ∧ slots + ms ≤ R.slots) (kk : ∀ (al : Nat → Nat) (H1 : Heap) (locs1 : List Loc), HK D N0 s (B al) H1 locs1 → W p l e R s m args below meth c H1 locs1 (cells + mc) (slots + ms) Q (F0 m (pc + 3) ls rest)) : W p l e R s m args below meth c H locs cells slots Q (F0 m pc ls st) := by
  obtain ⟨⟨h1, h2, h3, h4, h5⟩, h6, h7⟩ := hm
  refine k_back h (va_runI (n := np) ⟨X.1, X.2.1, X.2.2.1, X.ow, X.ts⟩ hM ⟨⟨rfl, rfl, hR.1, hR.2, k_pay X h1, List.mem_cons_self, X.ts _ h1, X.ts _ h2, ⟨h3, h4⟩, fun sig hs => ?_, X.ts _ hlk⟩, h7, X.ts _ h6⟩ ⟨KB.blind, k_pre X h _⟩ rfl hn hls hst (lv_room hr8) hdg hf) kk
  rw [hs] at h5
  exact (Option.some.inj h5).symm
theorem k_callN (X : Kx D k p s m args c cc nL own) (h : HK D N0 s ws H locs) (hM : CK l y b n fr lo mc ms D k N0 (.ref a :: As) ws B) (hm : mcN y b n np) (hlk : (own, idx, y) ∈ nestM) (hR : fr + 1 ≤ R.frames ∧ 8 + (n + 11) + lo ≤ R.locals) (hn : As.length = np) (hls : ls.size = nL) (hst : st = As.reverse ++ .ref a :: rest) (hr8 : (rest.map fun v => v.category).sum ≤ 8) (hdg : decode cc pc = .ok (.invokespecial idx, 3)) (hf : cells + mc ≤ R.cells ∧ slots + ms ≤ R.slots) (kk : ∀ (al : Nat → Nat) (H1 : Heap) (locs1 : List Loc), HK D N0 s (B al) H1 locs1 → W p l e R s m args below meth c H1 locs1 (cells + mc) (slots + ms) Q (F0 m (pc + 3) ls rest)) : W p l e R s m args below meth c H locs cells slots Q (F0 m pc ls st) := by
  obtain ⟨⟨h1, h2, h3, h4, h5⟩, h6, h7⟩ := hm
  refine k_back h (va_runIN (n := np) (host := RX7) ⟨X.1, X.2.1, X.2.2.1, X.ow, X.ts⟩ hM ⟨⟨⟨rfl, rfl, hR.1, hR.2, k_pay X h1, List.mem_cons_self⟩, X.ts _ h1, X.ts _ h2, ⟨h3, h4⟩, fun sig hs => ?_, va_Nw.use rfl (X.N.1 _ hlk)⟩, h7, X.ts _ h6⟩ ⟨KB.blind, k_pre X h _⟩ rfl hn hls hst (lv_room hr8) hdg hf) kk
  rw [hs] at h5
  exact (Option.some.inj h5).symm
theorem k_callV (X : Kx D k p s m args c cc nL own) (h : HK D N0 s ws H locs) {K N : Nat} {C : String} {T : u_T} {ty : Nat → FieldType} {fs : List Value} (hM : CK l y b n fr lo mc ms D k N0 (.ref a :: As) ws B) (hm : mcI y b n none np) (hlk : Cond.methodLink own idx y ∈ T0) (q0 : Nat) (he : ws[q0]? = some (a, .inr (K, fs))) (hkl : kl K C T N ty) (hC : C = y.cls) (hR : fr + 1 ≤ R.frames ∧ 8 + (n + 11) + lo ≤ R.locals) (hn : As.length = np) (hls : ls.size = nL) (hst : st = As.reverse ++ .ref a :: rest) (hr8 : (rest.map fun v => v.category).sum ≤ 8) (hdg : decode cc pc = .ok (.invokevirtual idx, 3)) (hf : cells + mc ≤ R.cells ∧ slots + ms ≤ R.slots) (kk : ∀ (al : Nat → Nat) (H1 : Heap) (locs1 : List Loc), HK D N0 s (B al) H1 locs1 → W p l e R s m args below meth c H1 locs1 (cells + mc) (slots + ms) Q (F0 m (pc + 3) ls rest)) : W p l e R s m args below meth c H locs cells slots Q (F0 m pc ls st) := by
  subst hC
  obtain ⟨⟨h1, h2, h3, h4, h5⟩, h6, h7⟩ := hm
  refine k_back h (va_runV (C := y.cls) (n := np) ⟨X.1, X.2.1, X.2.2.1, X.ow, X.ts⟩ hM ⟨⟨rfl, rfl, hR.1, hR.2, k_pay X h1, List.mem_cons_self, X.ts _ h1, X.ts _ h2, ⟨h3, h4⟩, fun sig hs => ?_, X.ts _ hlk⟩, X.ts _ h6, X.ts _ h7⟩ ⟨KB.blind, ?_, k_pre X h _⟩ rfl hn hls hst (lv_room hr8) hdg hf) kk
  · rw [hs] at h5
    exact (Option.some.inj h5).symm
  · exact va_recv X.K h.1 (q0 := q0) (ci := K) (q := (y.cls, T, N)) hkl.1 he
end KR
theorem ff_RX0_11 : fldF RX0 11 0 0 (.array .int) := ⟨_, _, _, _, kl0, by decide, fw_RX0_11, rfl, rfl, by decide +kernel⟩
theorem mn_X0_init : mcN yX0_init cX0_init 1 0 := ⟨⟨co_yX0_init, in_RX0, by decide, by decide, by decide +kernel⟩, im_yX0_init, rfl⟩
theorem ff_RX1_11 : fldF RX1 11 1 4 (.array .int) := ⟨_, _, _, _, kl1, by decide, fw_RX1_11, rfl, rfl, by decide +kernel⟩
theorem ff_RX1_15 : fldF RX1 15 1 5 (.array .int) := ⟨_, _, _, _, kl1, by decide, fw_RX1_15, rfl, rfl, by decide +kernel⟩
theorem ff_RX1_18 : fldF RX1 18 1 6 (.array .int) := ⟨_, _, _, _, kl1, by decide, fw_RX1_18, rfl, rfl, by decide +kernel⟩
theorem ff_RX1_21 : fldF RX1 21 1 7 (.array .int) := ⟨_, _, _, _, kl1, by decide, fw_RX1_21, rfl, rfl, by decide +kernel⟩
theorem ff_RX1_24 : fldF RX1 24 1 8 (.array .int) := ⟨_, _, _, _, kl1, by decide, fw_RX1_24, rfl, rfl, by decide +kernel⟩
theorem ff_RX1_27 : fldF RX1 27 1 10 (.array .int) := ⟨_, _, _, _, kl1, by decide, fw_RX1_27, rfl, rfl, by decide +kernel⟩
theorem mn_X1_init : mcN yX1_init cX1_init 1 0 := ⟨⟨co_yX1_init, in_RX1, by decide, by decide, by decide +kernel⟩, im_yX1_init, rfl⟩
theorem ff_RX2_15 : fldF RX2 15 2 0 (.array .int) := ⟨_, _, _, _, kl2, by decide, fw_RX2_15, rfl, rfl, by decide +kernel⟩
theorem ff_RX2_21 : fldF RX2 21 2 1 (.array .int) := ⟨_, _, _, _, kl2, by decide, fw_RX2_21, rfl, rfl, by decide +kernel⟩
theorem mn_X2_init : mcN yX2_init cX2_init 2 1 := ⟨⟨co_yX2_init, in_RX2, by decide, by decide, by decide +kernel⟩, im_yX2_init, rfl⟩
theorem ff_RX3_9 : fldF RX3 9 3 1 (.array .int) := ⟨_, _, _, _, kl3, by decide, fw_RX3_9, rfl, rfl, by decide +kernel⟩
theorem ff_RX3_15 : fldF RX3 15 3 2 (.array .int) := ⟨_, _, _, _, kl3, by decide, fw_RX3_15, rfl, rfl, by decide +kernel⟩
theorem ff_RX3_18 : fldF RX3 18 3 3 (.array .int) := ⟨_, _, _, _, kl3, by decide, fw_RX3_18, rfl, rfl, by decide +kernel⟩
theorem ff_RX3_21 : fldF RX3 21 3 4 (.array .int) := ⟨_, _, _, _, kl3, by decide, fw_RX3_21, rfl, rfl, by decide +kernel⟩
theorem ff_RX3_24 : fldF RX3 24 3 5 (.array .int) := ⟨_, _, _, _, kl3, by decide, fw_RX3_24, rfl, rfl, by decide +kernel⟩
theorem ff_RX3_27 : fldF RX3 27 3 6 (.array .int) := ⟨_, _, _, _, kl3, by decide, fw_RX3_27, rfl, rfl, by decide +kernel⟩
theorem mn_X3_init : mcN yX3_init cX3_init 2 0 := ⟨⟨co_yX3_init, in_RX3, by decide, by decide, by decide +kernel⟩, im_yX3_init, rfl⟩
theorem ff_RX4_9 : fldF RX4 9 4 0 (.array .int) := ⟨_, _, _, _, kl4, by decide, fw_RX4_9, rfl, rfl, by decide +kernel⟩
theorem ff_RX4_13 : fldF RX4 13 4 1 (.array .int) := ⟨_, _, _, _, kl4, by decide, fw_RX4_13, rfl, rfl, by decide +kernel⟩
theorem ff_RX4_16 : fldF RX4 16 4 2 (.array .long) := ⟨_, _, _, _, kl4, by decide, fw_RX4_16, rfl, rfl, by decide +kernel⟩
theorem mn_X4_init : mcN yX4_init cX4_init 2 0 := ⟨⟨co_yX4_init, in_RX4, by decide, by decide, by decide +kernel⟩, im_yX4_init, rfl⟩
theorem ff_RX5_11 : fldF RX5 11 5 0 (.array .byte) := ⟨_, _, _, _, kl5, by decide, fw_RX5_11, rfl, rfl, by decide +kernel⟩
theorem mn_X5_init : mcN yX5_init cX5_init 1 0 := ⟨⟨co_yX5_init, in_RX5, by decide, by decide, by decide +kernel⟩, im_yX5_init, rfl⟩
theorem ff_RX6_12 : fldF RX6 12 6 0 (.object "SevenUnwashed$People") := ⟨_, _, _, _, kl6, by decide, fw_RX6_12, rfl, rfl, by decide +kernel⟩
theorem ff_RX6_22 : fldF RX6 22 6 4 (.array .int) := ⟨_, _, _, _, kl6, by decide, fw_RX6_22, rfl, rfl, by decide +kernel⟩
theorem ff_RX6_26 : fldF RX6 26 6 10 (.array .int) := ⟨_, _, _, _, kl6, by decide, fw_RX6_26, rfl, rfl, by decide +kernel⟩
theorem ff_RX6_34 : fldF RX6 34 6 11 (.object "SevenUnwashed$Pairs") := ⟨_, _, _, _, kl6, by decide, fw_RX6_34, rfl, rfl, by decide +kernel⟩
theorem ff_RX6_38 : fldF RX6 38 6 12 (.object "SevenUnwashed$Pairs") := ⟨_, _, _, _, kl6, by decide, fw_RX6_38, rfl, rfl, by decide +kernel⟩
theorem ff_RX6_41 : fldF RX6 41 6 13 (.object "SevenUnwashed$Pairs") := ⟨_, _, _, _, kl6, by decide, fw_RX6_41, rfl, rfl, by decide +kernel⟩
theorem mn_X6_init : mcN yX6_init cX6_init 2 1 := ⟨⟨co_yX6_init, in_RX6, by decide, by decide, by decide +kernel⟩, im_yX6_init, rfl⟩
theorem ff_RX7_12 : fldF RX7 12 7 0 (.object "SevenUnwashed$Land") := ⟨_, _, _, _, kl7, by decide, fw_RX7_12, rfl, rfl, by decide +kernel⟩
theorem ff_RX7_23 : fldF RX7 23 7 1 (.object "SevenUnwashed$World") := ⟨_, _, _, _, kl7, by decide, fw_RX7_23, rfl, rfl, by decide +kernel⟩
theorem ff_RX7_27 : fldF RX7 27 7 2 (.object "SevenUnwashed$World") := ⟨_, _, _, _, kl7, by decide, fw_RX7_27, rfl, rfl, by decide +kernel⟩
theorem ff_RX7_30 : fldF RX7 30 7 3 (.object "SevenUnwashed$World") := ⟨_, _, _, _, kl7, by decide, fw_RX7_30, rfl, rfl, by decide +kernel⟩
theorem ff_RX7_33 : fldF RX7 33 7 5 (.array (.object "SevenUnwashed$Land")) := ⟨_, _, _, _, kl7, by decide, fw_RX7_33, rfl, rfl, by decide +kernel⟩
theorem ff_RX7_40 : fldF RX7 40 7 7 (.object "SevenUnwashed$Text") := ⟨_, _, _, _, kl7, by decide, fw_RX7_40, rfl, rfl, by decide +kernel⟩
theorem ff_RX7_47 : fldF RX7 47 7 8 (.object "SevenUnwashed$Acts") := ⟨_, _, _, _, kl7, by decide, fw_RX7_47, rfl, rfl, by decide +kernel⟩
theorem ff_RX7_54 : fldF RX7 54 7 9 (.object "SevenUnwashed$Tapes") := ⟨_, _, _, _, kl7, by decide, fw_RX7_54, rfl, rfl, by decide +kernel⟩
theorem mn_X7_init : mcN yX7_init cX7_init 2 0 := ⟨⟨co_yX7_init, in_RX7, by decide, by decide, by decide +kernel⟩, im_yX7_init, rfl⟩
theorem ff_RX8_9 : fldF RX8 9 8 1 (.array .int) := ⟨_, _, _, _, kl8, by decide, fw_RX8_9, rfl, rfl, by decide +kernel⟩
theorem ff_RX8_15 : fldF RX8 15 8 2 (.array .int) := ⟨_, _, _, _, kl8, by decide, fw_RX8_15, rfl, rfl, by decide +kernel⟩
theorem ff_RX8_18 : fldF RX8 18 8 3 (.array .int) := ⟨_, _, _, _, kl8, by decide, fw_RX8_18, rfl, rfl, by decide +kernel⟩
theorem ff_RX8_21 : fldF RX8 21 8 4 (.array .int) := ⟨_, _, _, _, kl8, by decide, fw_RX8_21, rfl, rfl, by decide +kernel⟩
theorem ff_RX8_24 : fldF RX8 24 8 5 (.array .int) := ⟨_, _, _, _, kl8, by decide, fw_RX8_24, rfl, rfl, by decide +kernel⟩
theorem ff_RX8_27 : fldF RX8 27 8 6 (.array .int) := ⟨_, _, _, _, kl8, by decide, fw_RX8_27, rfl, rfl, by decide +kernel⟩
theorem ff_RX8_30 : fldF RX8 30 8 10 (.array .int) := ⟨_, _, _, _, kl8, by decide, fw_RX8_30, rfl, rfl, by decide +kernel⟩
theorem ff_RX8_33 : fldF RX8 33 8 13 (.array .int) := ⟨_, _, _, _, kl8, by decide, fw_RX8_33, rfl, rfl, by decide +kernel⟩
theorem ff_RX8_36 : fldF RX8 36 8 16 (.array .int) := ⟨_, _, _, _, kl8, by decide, fw_RX8_36, rfl, rfl, by decide +kernel⟩
theorem ff_RX8_39 : fldF RX8 39 8 17 (.array .int) := ⟨_, _, _, _, kl8, by decide, fw_RX8_39, rfl, rfl, by decide +kernel⟩
theorem ff_RX8_42 : fldF RX8 42 8 18 (.array .int) := ⟨_, _, _, _, kl8, by decide, fw_RX8_42, rfl, rfl, by decide +kernel⟩
theorem ff_RX8_45 : fldF RX8 45 8 19 (.array .int) := ⟨_, _, _, _, kl8, by decide, fw_RX8_45, rfl, rfl, by decide +kernel⟩
theorem ff_RX8_48 : fldF RX8 48 8 20 (.array .int) := ⟨_, _, _, _, kl8, by decide, fw_RX8_48, rfl, rfl, by decide +kernel⟩
theorem ff_RX8_51 : fldF RX8 51 8 21 (.array .int) := ⟨_, _, _, _, kl8, by decide, fw_RX8_51, rfl, rfl, by decide +kernel⟩
theorem ff_RX8_54 : fldF RX8 54 8 27 (.array .boolean) := ⟨_, _, _, _, kl8, by decide, fw_RX8_54, rfl, rfl, by decide +kernel⟩
theorem ff_RX8_58 : fldF RX8 58 8 29 (.array .int) := ⟨_, _, _, _, kl8, by decide, fw_RX8_58, rfl, rfl, by decide +kernel⟩
theorem ff_RX8_61 : fldF RX8 61 8 30 (.array .int) := ⟨_, _, _, _, kl8, by decide, fw_RX8_61, rfl, rfl, by decide +kernel⟩
theorem ff_RX8_64 : fldF RX8 64 8 32 (.array .int) := ⟨_, _, _, _, kl8, by decide, fw_RX8_64, rfl, rfl, by decide +kernel⟩
theorem ff_RX8_67 : fldF RX8 67 8 33 (.array .int) := ⟨_, _, _, _, kl8, by decide, fw_RX8_67, rfl, rfl, by decide +kernel⟩
theorem ff_RX8_70 : fldF RX8 70 8 35 (.array .int) := ⟨_, _, _, _, kl8, by decide, fw_RX8_70, rfl, rfl, by decide +kernel⟩
theorem ff_RX8_73 : fldF RX8 73 8 36 (.array .int) := ⟨_, _, _, _, kl8, by decide, fw_RX8_73, rfl, rfl, by decide +kernel⟩
theorem ff_RX8_76 : fldF RX8 76 8 39 (.array .int) := ⟨_, _, _, _, kl8, by decide, fw_RX8_76, rfl, rfl, by decide +kernel⟩
theorem ff_RX8_79 : fldF RX8 79 8 41 (.array .int) := ⟨_, _, _, _, kl8, by decide, fw_RX8_79, rfl, rfl, by decide +kernel⟩
theorem ff_RX8_82 : fldF RX8 82 8 42 (.array .int) := ⟨_, _, _, _, kl8, by decide, fw_RX8_82, rfl, rfl, by decide +kernel⟩
theorem ff_RX8_85 : fldF RX8 85 8 44 (.array .int) := ⟨_, _, _, _, kl8, by decide, fw_RX8_85, rfl, rfl, by decide +kernel⟩
theorem ff_RX8_88 : fldF RX8 88 8 45 (.array .int) := ⟨_, _, _, _, kl8, by decide, fw_RX8_88, rfl, rfl, by decide +kernel⟩
theorem ff_RX8_91 : fldF RX8 91 8 46 (.array .int) := ⟨_, _, _, _, kl8, by decide, fw_RX8_91, rfl, rfl, by decide +kernel⟩
theorem ff_RX8_94 : fldF RX8 94 8 47 (.array .long) := ⟨_, _, _, _, kl8, by decide, fw_RX8_94, rfl, rfl, by decide +kernel⟩
theorem mn_X8_init : mcN yX8_init cX8_init 2 0 := ⟨⟨co_yX8_init, in_RX8, by decide, by decide, by decide +kernel⟩, im_yX8_init, rfl⟩
