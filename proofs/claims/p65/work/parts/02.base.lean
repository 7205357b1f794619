/-! words: TB, the tables' words that a call keeps; NB, those of nest mates and of arrays of references, kept by their own laws -/
def isNest : Cond → Bool
  | .fieldLinkNest _ _ _ _ _ _ => true
  | .methodLinkNest _ _ _ _ => true
  | .arrayOver (.object _) => true
  | _ => false
def TB : List Cond := lw_tbl.filter goodWord
def NB : List Cond := lw_tbl.filter isNest
def NW (U : State) : Prop := ∀ w ∈ NB, va_Nw w U
theorem tb_m {w : Cond} (i : Nat) (h : tables_1[i]? = some w) (g : goodWord w = true) : w ∈ TB := List.mem_filter.mpr ⟨List.mem_append_right _ (List.mem_of_getElem? h), g⟩
theorem tb_s {w : Cond} (i : Nat) (h : (k2_sels lw_privs)[i]? = some w) (g : goodWord w = true) : w ∈ TB := List.mem_filter.mpr ⟨List.mem_append_left _ (List.mem_of_getElem? h), g⟩
theorem nb_m {w : Cond} (i : Nat) (h : tables_1[i]? = some w) (g : isNest w = true) : w ∈ NB := List.mem_filter.mpr ⟨List.mem_append_right _ (List.mem_of_getElem? h), g⟩
theorem tb_good : ∀ w ∈ TB, ((w.onTables && w.keeps) = true ∨ ∃ ty, w = .arrayClass ty) := fun w h => good_of_word (List.mem_filter.mp h).2
theorem NW.warm {s U : State} (hW : s.WarmedH U.vm) (h : NW s) : NW U := by
  intro w hw
  have h1 := h w hw
  have h2 := (List.mem_filter.mp hw).2
  cases w with
  | fieldLinkNest a b c d e f => exact va_Nw.warmF hW h1
  | methodLinkNest a b c d => exact va_Nw.warmM hW h1
  | arrayOver ty =>
    cases ty with
    | object C => exact va_AO.moved hW.alike h1
    | _ => cases h2
  | _ => cases h2
theorem NW.same {s U : State} (ev : s.vm = U.vm) (h : NW s) : NW U := by
  intro w hw
  have h1 := h w hw
  have h2 := (List.mem_filter.mp hw).2
  cases w with
  | fieldLinkNest a b c d e f => exact va_Nw.same rfl ev h1
  | methodLinkNest a b c d => exact va_Nw.same rfl ev h1
  | arrayOver ty =>
    cases ty with
    | object C => exact va_AO.moved (by rw [ev]; exact Vm.Alike.refl _) h1
    | _ => cases h2
  | _ => cases h2
/-- a method's words: its code, and TB -/
abbrev wd (y : MethodName) (b : ByteArray) (n : Nat) (r : Option FieldType) : List Cond := Cond.code y b n r :: TB
theorem wd_good {y : MethodName} {b : ByteArray} {n : Nat} {r : Option FieldType} (h : Cond.code y b n r ∈ TB) : GoodIn TB (wd y b n r) := fun w hw => by
  rcases List.mem_cons.mp hw with rfl | h1
  · exact ⟨h, tb_good _ h⟩
  · exact ⟨h1, tb_good _ h1⟩
abbrev RM (d mc ms : Nat) : Room := { frames := d, cells := mc, slots := ms, locals := 40 * d }
abbrev NoF : Nat → Prop := fun _ => False
/-- the start of a method that only reads -/
abbrev PreP (D : va_G) (tys : List (ClassId × FieldType)) (av : List Value) (ws : va_W) : Array Value → State → Prop := va_Pc av (fun U => va_P D classes ws U.heap ∧ va_K D classes tys U ∧ NW U)
/-- the start of a method that writes -/
abbrev PreW (D : va_G) (tys : List (ClassId × FieldType)) (av : List Value) (ws : va_W) (sz : Nat) : Array Value → State → Prop := va_Pc av (fun U => U.heap.size = sz ∧ va_P D classes ws U.heap ∧ va_K D classes tys U ∧ va_D (fun _ => True) ws ∧ NW U)
/-- the end of a method that only reads: an int -/
abbrev QI (v : Int32) : Array Value → State → Outcome → State → Prop := va_Qi (fun (r : Int32) (_ : Unit) => r = v) (fun _ _ => True) NoF
abbrev QW {S : Type} (D : va_G) (wf : S → va_W) (ws : va_W) (sz : Nat) : Array Value → State → Outcome → State → Prop := va_Qv (fun _ : S => True) (fun u t => va_P D classes (wf u) t.heap ∧ va_D (va_A ws sz) (wf u)) (va_A ws sz)
abbrev QWi (D : va_G) (v : Int32) (w' : va_W) (ws : va_W) (sz : Nat) : Array Value → State → Outcome → State → Prop := va_Qi (fun (r : Int32) (_ : Unit) => r = v) (fun _ t => va_P D classes w' t.heap ∧ va_D (va_A ws sz) w') (va_A ws sz)
theorem PreP.blind {D : va_G} {tys : List (ClassId × FieldType)} {av : List Value} {ws : va_W} : FrameBlind (PreP D tys av ws) := fun a U g mk q => by
  obtain ⟨q0, qP, qK, qN⟩ := q
  exact ⟨q0, qP, va_K.moved (u := U) (U := U.calling g mk a) (Vm.Alike.refl U.vm) qK, NW.same (s := U) (U := U.calling g mk a) rfl qN⟩
theorem PreW.blind {D : va_G} {tys : List (ClassId × FieldType)} {av : List Value} {ws : va_W} {sz : Nat} : FrameBlind (PreW D tys av ws sz) := fun a U g mk q => by
  obtain ⟨q0, q1, qP, qK, qD, qN⟩ := q
  exact ⟨q0, q1, qP, va_K.moved (u := U) (U := U.calling g mk a) (Vm.Alike.refl U.vm) qK, qD, NW.same (s := U) (U := U.calling g mk a) rfl qN⟩
section XB
variable {p : Program} {l : Launch} {e : Env} {R : Room} {s : State} {m : MethodId} {args : Array Value} {below : List Frame} {meth : Method} {c : Code} {H : Heap} {locs : List Loc} {cells slots : Nat} {Q : State → Prop}
variable {cc : ByteArray} {pc : Nat} {ls : Array Slot} {rest : List Value} {D : va_G} {A : Nat → Prop} {a : Nat} {tys : List (ClassId × FieldType)} {ws wc : va_W} {H0 : Heap}
variable {y : MethodName} {bytes : ByteArray} {maxL nL n index d mc ms : Nat} {ret : Option FieldType} {own : String} {b : Nat} {As st0 : List Value} {v : Int32}
theorem x_seti {x : Int32} (y : Int32) (h : x = y) (k : W p l e R s m args below meth c H locs cells slots Q (F0 m pc ls (.int y :: rest))) : W p l e R s m args below meth c H locs cells slots Q (F0 m pc ls (.int x :: rest)) := by rw [h]; exact k
theorem x_setl {x : Int64} (y : Int64) (h : x = y) (k : W p l e R s m args below meth c H locs cells slots Q (F0 m pc ls (.long y :: rest))) : W p l e R s m args below meth c H locs cells slots Q (F0 m pc ls (.long x :: rest)) := by rw [h]; exact k
/-- what a call's words are, out of the tables -/
theorem x_CB (hts : ∀ w ∈ TB, w.before args s = true) (hcode : Cond.code y bytes maxL ret ∈ TB) (hini : Cond.initialized y.cls ∈ TB) (hlink : Cond.methodLink own index y ∈ TB)
    (hd : y.cls ≠ "java/lang/invoke/MethodHandle" ∧ y.cls ≠ "java/lang/invoke/VarHandle" ∧ (parseMethodDescriptor y.desc).map (fun d => d.parameters.length) = some n) (hR : d + 1 ≤ R.frames ∧ 8 + (maxL + 11) + 40 * d ≤ R.locals) : CallB R s args own index y bytes maxL ret (wd y bytes maxL ret) (RM d mc ms) mc ms n :=
  callB_of n hts (wd_good hcode) rfl rfl rfl (hts _ hini) (hts _ hlink) hd hR
theorem x_CN {host : String} (hts : ∀ w ∈ TB, w.before args s = true) (hN : NW s) (hcode : Cond.code y bytes maxL ret ∈ TB) (hini : Cond.initialized y.cls ∈ TB) (hlink : Cond.methodLinkNest own index y host ∈ NB)
    (hd : y.cls ≠ "java/lang/invoke/MethodHandle" ∧ y.cls ≠ "java/lang/invoke/VarHandle" ∧ (parseMethodDescriptor y.desc).map (fun d => d.parameters.length) = some n) (hR : d + 1 ≤ R.frames ∧ 8 + (maxL + 11) + 40 * d ≤ R.locals) : va_CN R s args own index y host bytes maxL ret (wd y bytes maxL ret) (RM d mc ms) mc ms n :=
  va_cnB n hts (wd_good hcode) rfl rfl rfl (hN _ hlink) (hts _ hini) hd hR
/-- behind a call that only read -/
theorem x_pi (hr : va_Run p l e R s m args below meth c H locs cells slots 0 0 (F0 m pc ls st0) rest (QI v (Value.ref b :: As).toArray) NoF ∨ va_Run p l e R s m args below meth c H locs cells slots 0 0 (F0 m pc ls st0) rest (QI v As.toArray) NoF) (hP : va_P D classes ws H) (hS : va_S A H0 H locs)
    (kk : ∀ (H1 : Heap) (locs1 : List Loc), va_P D classes ws H1 → va_S A H0 H1 locs1 → W p l e R s m args below meth c H1 locs1 cells slots Q (F0 m (pc + 3) ls (.int v :: rest))) : W p l e R s m args below meth c H locs cells slots Q (F0 m pc ls st0) := by
  rcases hr with hr | hr
  · refine va_calli hr hS (fun _ _ h => h.elim) (fun _ h => h.elim) (fun r u t H1 locs1 ht hvm hw hB hz hk hS1 => ?_)
    subst hw
    exact kk H1 locs1 (hP.kept (fun k q hq => hk q.1 ((hP k q hq).lt) (fun z => z))) hS1
  · refine va_calli hr hS (fun _ _ h => h.elim) (fun _ h => h.elim) (fun r u t H1 locs1 ht hvm hw hB hz hk hS1 => ?_)
    subst hw
    exact kk H1 locs1 (hP.kept (fun k q hq => hk q.1 ((hP k q hq).lt) (fun z => z))) hS1
/-- a virtual call of a method that only reads -/
theorem x_pV (S : CallFix p m c cc nL s args TB own) (hM : Met l y (wd y bytes maxL ret) (RM d 0 0) (PreP D tys (.ref b :: As) wc) (QI v) 0 0 NoF)
    (hlink : Cond.methodLink own index y ∈ TB) (hinst : Cond.instanceMethod y ∈ TB) (hsel : Cond.selects y.cls y y ∈ TB) (hini : Cond.initialized y.cls ∈ TB) (hcode : Cond.code y bytes maxL ret ∈ TB)
    (hd : y.cls ≠ "java/lang/invoke/MethodHandle" ∧ y.cls ≠ "java/lang/invoke/VarHandle" ∧ (parseMethodDescriptor y.desc).map (fun d => d.parameters.length) = some As.length) (hR : d + 1 ≤ R.frames ∧ 8 + (maxL + 11) + 40 * d ≤ R.locals)
    (hK : va_K D classes tys s) (hN : NW s) (hP : va_P D classes ws H) (hS : va_S A H0 H locs) (is : List Nat) (hs : is.filterMap (fun i => ws[i]?) = wc)
    {ci : Nat} {q : vw_C} {fs : List Value} (q0 : Nat) (hc : classes[ci]? = some q) (hq : q.1 = y.cls) (he : wc[q0]? = some (b, .inr (ci, fs)))
    (hsize : ls.size = nL) (hstack : st0 = As.reverse ++ .ref b :: rest) (hW : (rest.map fun v => v.category).sum ≤ 8) (hdg : decode cc pc = .ok (.invokevirtual index, 3)) (hf : cells ≤ R.cells ∧ slots ≤ R.slots)
    (kk : ∀ (H1 : Heap) (locs1 : List Loc), va_P D classes ws H1 → va_S A H0 H1 locs1 → W p l e R s m args below meth c H1 locs1 cells slots Q (F0 m (pc + 3) ls (.int v :: rest))) : W p l e R s m args below meth c H locs cells slots Q (F0 m pc ls st0) := by
  have hts := S.2.2.2.2
  have hPc : va_P D classes wc H := hP.sub is hs
  have hrec := va_recv hK hPc hc he
  rw [hq] at hrec
  refine x_pi (b := b) (As := As) (Or.inl (va_runV (g := F0 m pc ls st0) (C := y.cls) (n := As.length) S hM ⟨x_CB hts hcode hini hlink hd hR, hts _ hinst, hts _ hsel⟩ ⟨PreP.blind, hrec, fun U hU hW => ⟨rfl, by rw [hU]; exact hPc, va_K.moved hW.alike hK, hN.warm hW⟩⟩ rfl rfl hsize hstack (lv_room hW) hdg hf)) hP hS kk
/-- a static call of a method that only reads -/
theorem x_pS (S : CallFix p m c cc nL s args TB own) (hM : Met l y (wd y bytes maxL ret) (RM d 0 0) (PreP D tys As wc) (QI v) 0 0 NoF)
    (hlink : Cond.methodLink own index y ∈ TB) (hstat : Cond.static y ∈ TB) (hini : Cond.initialized y.cls ∈ TB) (hcode : Cond.code y bytes maxL ret ∈ TB)
    (hd : y.cls ≠ "java/lang/invoke/MethodHandle" ∧ y.cls ≠ "java/lang/invoke/VarHandle" ∧ (parseMethodDescriptor y.desc).map (fun d => d.parameters.length) = some As.length) (hR : d + 1 ≤ R.frames ∧ 8 + (maxL + 11) + 40 * d ≤ R.locals)
    (hK : va_K D classes tys s) (hN : NW s) (hP : va_P D classes ws H) (hS : va_S A H0 H locs) (is : List Nat) (hs : is.filterMap (fun i => ws[i]?) = wc)
    (hsize : ls.size = nL) (hstack : st0 = As.reverse ++ rest) (hW : (rest.map fun v => v.category).sum ≤ 8) (hdg : decode cc pc = .ok (.invokestatic index, 3)) (hf : cells ≤ R.cells ∧ slots ≤ R.slots)
    (kk : ∀ (H1 : Heap) (locs1 : List Loc), va_P D classes ws H1 → va_S A H0 H1 locs1 → W p l e R s m args below meth c H1 locs1 cells slots Q (F0 m (pc + 3) ls (.int v :: rest))) : W p l e R s m args below meth c H locs cells slots Q (F0 m pc ls st0) := by
  have hts := S.2.2.2.2
  have hPc : va_P D classes wc H := hP.sub is hs
  refine x_pi (b := 0) (As := As) (Or.inr (va_runS (g := F0 m pc ls st0) (n := As.length) S hM ⟨x_CB hts hcode hini hlink hd hR, hts _ hstat⟩ ⟨PreP.blind, fun U hU hW => ⟨rfl, by rw [hU]; exact hPc, va_K.moved hW.alike hK, hN.warm hW⟩⟩ rfl rfl hsize hstack (lv_room hW) hdg hf)) hP hS kk
end XB
section XW
variable {p : Program} {l : Launch} {e : Env} {R : Room} {s : State} {m : MethodId} {args : Array Value} {below : List Frame} {meth : Method} {c : Code} {H : Heap} {locs : List Loc} {cells slots : Nat} {Q : State → Prop}
variable {cc : ByteArray} {pc : Nat} {ls : Array Slot} {rest : List Value} {D : va_G} {A : Nat → Prop} {a : Nat} {tys : List (ClassId × FieldType)} {ws wc wr : va_W} {H0 : Heap}
variable {y : MethodName} {bytes : ByteArray} {maxL nL n index d mc ms : Nat} {ret : Option FieldType} {own host : String} {b : Nat} {As st0 : List Value} {v : Int32} {S : Type} {wf : S → va_W} {av : Array Value}
/-- behind a call that wrote its own cells: its world beside the rest -/
theorem x_wv (hr : va_Run p l e R s m args below meth c H locs cells slots mc ms (F0 m pc ls st0) rest (QW D wf wc H.size av) (va_A wc H.size)) (hP : va_P D classes ws H) (hD : va_D A ws) (hS : va_S A H0 H locs) (hA : ∀ q, H0.size ≤ q → A q)
    (isC isR : List Nat) (hC : isC.map (fun i => ws[i]?) = wc.map some) (hRr : isR.map (fun i => ws[i]?) = wr.map some) (hn : va_nd isR = true) (hdis : ∀ i ∈ isR, i ∉ isC)
    (kk : ∀ (u : S) (H1 : Heap) (locs1 : List Loc), va_P D classes (wr ++ wf u) H1 → va_D A (wr ++ wf u) → va_S A H0 H1 locs1 → W p l e R s m args below meth c H1 locs1 (cells + mc) (slots + ms) Q (F0 m (pc + 3) ls rest)) : W p l e R s m args below meth c H locs cells slots Q (F0 m pc ls st0) := by
  have hFc := va_free (wc := wc) hD hS hA isC hC
  refine va_callv hr hS (fun q _ h => hFc q h) hFc (fun u t H1 locs1 ht hvm hw hB hz1 hk1 hS1 => ?_)
  obtain ⟨hP1, hD1⟩ := hB
  rw [ht] at hP1
  obtain ⟨hP2, hD2⟩ := va_join (wr := wr) (w1 := wf u) hP hD isC isR hC hRr hn hdis hk1 hFc hP1 hD1
  exact kk u H1 locs1 hP2 hD2 hS1
theorem x_wi (hr : va_Run p l e R s m args below meth c H locs cells slots mc ms (F0 m pc ls st0) rest (QWi D v (wc) wc H.size av) (va_A wc H.size) ∨ va_Run p l e R s m args below meth c H locs cells slots mc ms (F0 m pc ls st0) rest (va_Qi (fun (r : Int32) (_ : Unit) => r = v) (fun _ _ => True) (va_A wc H.size) av) (va_A wc H.size)) (hP : va_P D classes ws H) (hD : va_D A ws) (hS : va_S A H0 H locs) (hA : ∀ q, H0.size ≤ q → A q)
    (isC isR : List Nat) (hC : isC.map (fun i => ws[i]?) = wc.map some) (hRr : isR.map (fun i => ws[i]?) = wr.map some) (hn : va_nd isR = true) (hdis : ∀ i ∈ isR, i ∉ isC)
    (kk : ∀ (H1 : Heap) (locs1 : List Loc), va_P D classes wr H1 → va_D A wr → va_S A H0 H1 locs1 → W p l e R s m args below meth c H1 locs1 (cells + mc) (slots + ms) Q (F0 m (pc + 3) ls (.int v :: rest))) : W p l e R s m args below meth c H locs cells slots Q (F0 m pc ls st0) := by
  have hFc := va_free (wc := wc) hD hS hA isC hC
  have h0 : ∀ {H1 : Heap}, (∀ q : Nat, q < H.size → ¬ va_A wc H.size q → H1[q]? = H[q]?) → va_P D classes wr H1 ∧ va_D A wr := fun {H1} hk1 => by
    have hj := va_join (wr := wr) (w1 := []) hP hD isC isR hC hRr hn hdis hk1 hFc (fun k q h => by simp at h) ⟨fun i j p q h => by simp at h, fun k q h => by simp at h⟩
    simpa using hj
  rcases hr with hr | hr
  · refine va_calli hr hS (fun q _ h => hFc q h) hFc (fun r u t H1 locs1 ht hvm hw hB hz1 hk1 hS1 => ?_)
    subst hw
    exact kk H1 locs1 (h0 hk1).1 (h0 hk1).2 hS1
  · refine va_calli hr hS (fun q _ h => hFc q h) hFc (fun r u t H1 locs1 ht hvm hw hB hz1 hk1 hS1 => ?_)
    subst hw
    exact kk H1 locs1 (h0 hk1).1 (h0 hk1).2 hS1
theorem x_preW (hPc : va_P D classes wc H) (hK : va_K D classes tys s) (hDc : va_D A wc) (hN : NW s) : ∀ U : State, U.heap = H → s.WarmedH U.vm → PreW D tys As wc H.size As.toArray U := fun U hU hW => ⟨rfl, by rw [hU], by rw [hU]; exact hPc, va_K.moved hW.alike hK, hDc.weaken (fun _ _ _ _ => trivial), hN.warm hW⟩
theorem x_Psub (hP : va_P D classes ws H) {is : List Nat} (hC : is.map (fun i => ws[i]?) = wc.map some) : va_P D classes wc H := fun k q hk => by
  have h1 : (is.map (fun i => ws[i]?))[k]? = some (some q) := by rw [hC, List.getElem?_map, hk]; rfl
  rw [List.getElem?_map] at h1
  cases hi : is[k]? with
  | none => rw [hi] at h1; cases h1
  | some i => rw [hi] at h1; exact hP i q (by simpa using h1)
/-- constructors: a nest mate's -/
theorem x_wIN (F : CallFix p m c cc nL s args TB own) (hM : Met l y (wd y bytes maxL none) (RM d mc ms) (PreW D tys (.ref b :: As) wc H.size) (QW D wf wc H.size) mc ms (va_A wc H.size))
    (hlink : Cond.methodLinkNest own index y host ∈ NB) (hinst : Cond.instanceMethod y ∈ TB) (hini : Cond.initialized y.cls ∈ TB) (hcode : Cond.code y bytes maxL none ∈ TB) (hnm : y.name = "<init>")
    (hd : y.cls ≠ "java/lang/invoke/MethodHandle" ∧ y.cls ≠ "java/lang/invoke/VarHandle" ∧ (parseMethodDescriptor y.desc).map (fun d => d.parameters.length) = some As.length) (hR : d + 1 ≤ R.frames ∧ 8 + (maxL + 11) + 40 * d ≤ R.locals)
    (hK : va_K D classes tys s) (hN : NW s) (hP : va_P D classes ws H) (hD : va_D A ws) (hS : va_S A H0 H locs) (hA : ∀ q, H0.size ≤ q → A q)
    (isC isR : List Nat) (hC : isC.map (fun i => ws[i]?) = wc.map some) (hRr : isR.map (fun i => ws[i]?) = wr.map some) (hnC : va_nd isC = true) (hn : va_nd isR = true) (hdis : ∀ i ∈ isR, i ∉ isC)
    (hsize : ls.size = nL) (hstack : st0 = As.reverse ++ .ref b :: rest) (hW : (rest.map fun v => v.category).sum ≤ 8) (hdg : decode cc pc = .ok (.invokespecial index, 3)) (hf : cells + mc ≤ R.cells ∧ slots + ms ≤ R.slots)
    (kk : ∀ (u : S) (H1 : Heap) (locs1 : List Loc), va_P D classes (wr ++ wf u) H1 → va_D A (wr ++ wf u) → va_S A H0 H1 locs1 → W p l e R s m args below meth c H1 locs1 (cells + mc) (slots + ms) Q (F0 m (pc + 3) ls rest)) : W p l e R s m args below meth c H locs cells slots Q (F0 m pc ls st0) := by
  have hts := F.2.2.2.2
  exact x_wv (va_runIN (g := F0 m pc ls st0) (n := As.length) F hM ⟨x_CN hts hN hcode hini hlink hd hR, hnm, hts _ hinst⟩ ⟨PreW.blind, x_preW (x_Psub hP hC) hK (hD.sub isC hnC hC) hN⟩ rfl rfl hsize hstack (lv_room hW) hdg hf) hP hD hS hA isC isR hC hRr hn hdis kk
theorem x_wI (F : CallFix p m c cc nL s args TB own) (hM : Met l y (wd y bytes maxL none) (RM d mc ms) (PreW D tys (.ref b :: As) wc H.size) (QW D wf wc H.size) mc ms (va_A wc H.size))
    (hlink : Cond.methodLink own index y ∈ TB) (hinst : Cond.instanceMethod y ∈ TB) (hini : Cond.initialized y.cls ∈ TB) (hcode : Cond.code y bytes maxL none ∈ TB) (hnm : y.name = "<init>")
    (hd : y.cls ≠ "java/lang/invoke/MethodHandle" ∧ y.cls ≠ "java/lang/invoke/VarHandle" ∧ (parseMethodDescriptor y.desc).map (fun d => d.parameters.length) = some As.length) (hR : d + 1 ≤ R.frames ∧ 8 + (maxL + 11) + 40 * d ≤ R.locals)
    (hK : va_K D classes tys s) (hN : NW s) (hP : va_P D classes ws H) (hD : va_D A ws) (hS : va_S A H0 H locs) (hA : ∀ q, H0.size ≤ q → A q)
    (isC isR : List Nat) (hC : isC.map (fun i => ws[i]?) = wc.map some) (hRr : isR.map (fun i => ws[i]?) = wr.map some) (hnC : va_nd isC = true) (hn : va_nd isR = true) (hdis : ∀ i ∈ isR, i ∉ isC)
    (hsize : ls.size = nL) (hstack : st0 = As.reverse ++ .ref b :: rest) (hW : (rest.map fun v => v.category).sum ≤ 8) (hdg : decode cc pc = .ok (.invokespecial index, 3)) (hf : cells + mc ≤ R.cells ∧ slots + ms ≤ R.slots)
    (kk : ∀ (u : S) (H1 : Heap) (locs1 : List Loc), va_P D classes (wr ++ wf u) H1 → va_D A (wr ++ wf u) → va_S A H0 H1 locs1 → W p l e R s m args below meth c H1 locs1 (cells + mc) (slots + ms) Q (F0 m (pc + 3) ls rest)) : W p l e R s m args below meth c H locs cells slots Q (F0 m pc ls st0) := by
  have hts := F.2.2.2.2
  exact x_wv (va_runI (g := F0 m pc ls st0) (n := As.length) F hM ⟨x_CB hts hcode hini hlink hd hR, hnm, hts _ hinst⟩ ⟨PreW.blind, x_preW (x_Psub hP hC) hK (hD.sub isC hnC hC) hN⟩ rfl rfl hsize hstack (lv_room hW) hdg hf) hP hD hS hA isC isR hC hRr hn hdis kk
/-- a virtual call that writes, void -/
theorem x_wV (F : CallFix p m c cc nL s args TB own) (hM : Met l y (wd y bytes maxL ret) (RM d mc ms) (PreW D tys (.ref b :: As) wc H.size) (QW D wf wc H.size) mc ms (va_A wc H.size))
    (hlink : Cond.methodLink own index y ∈ TB) (hinst : Cond.instanceMethod y ∈ TB) (hsel : Cond.selects y.cls y y ∈ TB) (hini : Cond.initialized y.cls ∈ TB) (hcode : Cond.code y bytes maxL ret ∈ TB)
    (hd : y.cls ≠ "java/lang/invoke/MethodHandle" ∧ y.cls ≠ "java/lang/invoke/VarHandle" ∧ (parseMethodDescriptor y.desc).map (fun d => d.parameters.length) = some As.length) (hR : d + 1 ≤ R.frames ∧ 8 + (maxL + 11) + 40 * d ≤ R.locals)
    (hK : va_K D classes tys s) (hN : NW s) (hP : va_P D classes ws H) (hD : va_D A ws) (hS : va_S A H0 H locs) (hA : ∀ q, H0.size ≤ q → A q)
    {ci : Nat} {q : vw_C} {fs : List Value} (q0 : Nat) (hc : classes[ci]? = some q) (hq : q.1 = y.cls) (he : wc[q0]? = some (b, .inr (ci, fs)))
    (isC isR : List Nat) (hC : isC.map (fun i => ws[i]?) = wc.map some) (hRr : isR.map (fun i => ws[i]?) = wr.map some) (hnC : va_nd isC = true) (hn : va_nd isR = true) (hdis : ∀ i ∈ isR, i ∉ isC)
    (hsize : ls.size = nL) (hstack : st0 = As.reverse ++ .ref b :: rest) (hW : (rest.map fun v => v.category).sum ≤ 8) (hdg : decode cc pc = .ok (.invokevirtual index, 3)) (hf : cells + mc ≤ R.cells ∧ slots + ms ≤ R.slots)
    (kk : ∀ (u : S) (H1 : Heap) (locs1 : List Loc), va_P D classes (wr ++ wf u) H1 → va_D A (wr ++ wf u) → va_S A H0 H1 locs1 → W p l e R s m args below meth c H1 locs1 (cells + mc) (slots + ms) Q (F0 m (pc + 3) ls rest)) : W p l e R s m args below meth c H locs cells slots Q (F0 m pc ls st0) := by
  have hts := F.2.2.2.2
  have hrec := va_recv hK (x_Psub hP hC) hc he
  rw [hq] at hrec
  exact x_wv (va_runV (g := F0 m pc ls st0) (C := y.cls) (n := As.length) F hM ⟨x_CB hts hcode hini hlink hd hR, hts _ hinst, hts _ hsel⟩ ⟨PreW.blind, hrec, x_preW (x_Psub hP hC) hK (hD.sub isC hnC hC) hN⟩ rfl rfl hsize hstack (lv_room hW) hdg hf) hP hD hS hA isC isR hC hRr hn hdis kk
/-- a static call that writes, void -/
theorem x_wS (F : CallFix p m c cc nL s args TB own) (hM : Met l y (wd y bytes maxL ret) (RM d mc ms) (PreW D tys As wc H.size) (QW D wf wc H.size) mc ms (va_A wc H.size))
    (hlink : Cond.methodLink own index y ∈ TB) (hstat : Cond.static y ∈ TB) (hini : Cond.initialized y.cls ∈ TB) (hcode : Cond.code y bytes maxL ret ∈ TB)
    (hd : y.cls ≠ "java/lang/invoke/MethodHandle" ∧ y.cls ≠ "java/lang/invoke/VarHandle" ∧ (parseMethodDescriptor y.desc).map (fun d => d.parameters.length) = some As.length) (hR : d + 1 ≤ R.frames ∧ 8 + (maxL + 11) + 40 * d ≤ R.locals)
    (hK : va_K D classes tys s) (hN : NW s) (hP : va_P D classes ws H) (hD : va_D A ws) (hS : va_S A H0 H locs) (hA : ∀ q, H0.size ≤ q → A q)
    (isC isR : List Nat) (hC : isC.map (fun i => ws[i]?) = wc.map some) (hRr : isR.map (fun i => ws[i]?) = wr.map some) (hnC : va_nd isC = true) (hn : va_nd isR = true) (hdis : ∀ i ∈ isR, i ∉ isC)
    (hsize : ls.size = nL) (hstack : st0 = As.reverse ++ rest) (hW : (rest.map fun v => v.category).sum ≤ 8) (hdg : decode cc pc = .ok (.invokestatic index, 3)) (hf : cells + mc ≤ R.cells ∧ slots + ms ≤ R.slots)
    (kk : ∀ (u : S) (H1 : Heap) (locs1 : List Loc), va_P D classes (wr ++ wf u) H1 → va_D A (wr ++ wf u) → va_S A H0 H1 locs1 → W p l e R s m args below meth c H1 locs1 (cells + mc) (slots + ms) Q (F0 m (pc + 3) ls rest)) : W p l e R s m args below meth c H locs cells slots Q (F0 m pc ls st0) := by
  have hts := F.2.2.2.2
  exact x_wv (va_runS (g := F0 m pc ls st0) (n := As.length) F hM ⟨x_CB hts hcode hini hlink hd hR, hts _ hstat⟩ ⟨PreW.blind, x_preW (x_Psub hP hC) hK (hD.sub isC hnC hC) hN⟩ rfl rfl hsize hstack (lv_room hW) hdg hf) hP hD hS hA isC isR hC hRr hn hdis kk
/-- a virtual call that writes, an int; its cells are forgotten -/
theorem x_wVi (F : CallFix p m c cc nL s args TB own) (hM : Met l y (wd y bytes maxL ret) (RM d mc ms) (PreW D tys (.ref b :: As) wc H.size) (va_Qi (fun (r : Int32) (_ : Unit) => r = v) (fun _ _ => True) (va_A wc H.size)) mc ms (va_A wc H.size))
    (hlink : Cond.methodLink own index y ∈ TB) (hinst : Cond.instanceMethod y ∈ TB) (hsel : Cond.selects y.cls y y ∈ TB) (hini : Cond.initialized y.cls ∈ TB) (hcode : Cond.code y bytes maxL ret ∈ TB)
    (hd : y.cls ≠ "java/lang/invoke/MethodHandle" ∧ y.cls ≠ "java/lang/invoke/VarHandle" ∧ (parseMethodDescriptor y.desc).map (fun d => d.parameters.length) = some As.length) (hR : d + 1 ≤ R.frames ∧ 8 + (maxL + 11) + 40 * d ≤ R.locals)
    (hK : va_K D classes tys s) (hN : NW s) (hP : va_P D classes ws H) (hD : va_D A ws) (hS : va_S A H0 H locs) (hA : ∀ q, H0.size ≤ q → A q)
    {ci : Nat} {q : vw_C} {fs : List Value} (q0 : Nat) (hc : classes[ci]? = some q) (hq : q.1 = y.cls) (he : wc[q0]? = some (b, .inr (ci, fs)))
    (isC isR : List Nat) (hC : isC.map (fun i => ws[i]?) = wc.map some) (hRr : isR.map (fun i => ws[i]?) = wr.map some) (hnC : va_nd isC = true) (hn : va_nd isR = true) (hdis : ∀ i ∈ isR, i ∉ isC)
    (hsize : ls.size = nL) (hstack : st0 = As.reverse ++ .ref b :: rest) (hW : (rest.map fun v => v.category).sum ≤ 8) (hdg : decode cc pc = .ok (.invokevirtual index, 3)) (hf : cells + mc ≤ R.cells ∧ slots + ms ≤ R.slots)
    (kk : ∀ (H1 : Heap) (locs1 : List Loc), va_P D classes wr H1 → va_D A wr → va_S A H0 H1 locs1 → W p l e R s m args below meth c H1 locs1 (cells + mc) (slots + ms) Q (F0 m (pc + 3) ls (.int v :: rest))) : W p l e R s m args below meth c H locs cells slots Q (F0 m pc ls st0) := by
  have hts := F.2.2.2.2
  have hrec := va_recv hK (x_Psub hP hC) hc he
  rw [hq] at hrec
  exact x_wi (Or.inr (va_runV (g := F0 m pc ls st0) (C := y.cls) (n := As.length) F hM ⟨x_CB hts hcode hini hlink hd hR, hts _ hinst, hts _ hsel⟩ ⟨PreW.blind, hrec, x_preW (x_Psub hP hC) hK (hD.sub isC hnC hC) hN⟩ rfl rfl hsize hstack (lv_room hW) hdg hf)) hP hD hS hA isC isR hC hRr hn hdis kk
/-- a new array of a class that the world knows -/
theorem x_newa (hexec : p.tables.exec = Jvm.exec) (hb : c.code = cc) {atype : ArrayType} (harr : (Cond.arrayClass (newarray.typeOf atype)).before args s = true) {ty : FieldType} (hty : newarray.typeOf atype = ty) (hK : va_K D classes tys s) (hP : va_P D classes ws H) (hD : va_D A ws) (hS : va_S A H0 H locs) (hA : ∀ q, H0.size ≤ q → A q)
    (t0 : Nat) {cA : ClassId} (ht : tys[t0]? = some (cA, ty)) (hRA : ∀ z : ClassId, va_RA s z ty → s.vm.findClass ("[" ++ ty.toString) = some z)
    {n : Int32} {N' : Nat} {a0 : vp_A} (ha : ∀ cA : ClassId, vp_cell cA a0 = arrV cA N' (fun _ => defaultValue ty)) (hn : ¬ n < 0) (hN : n.toNatClampNeg = N') (hbytes : N' * componentBytes ty ≤ 536870912) (hcells : cells + 1 ≤ R.cells) (hslots : slots + N' ≤ R.slots) (hdg : decode cc pc = .ok (.newarray atype, 2))
    (kk : ∀ (q : Nat) (H1 : Heap), va_P D classes (ws ++ [(q, .inl (cA, a0))]) H1 → va_D A (ws ++ [(q, .inl (cA, a0))]) → va_S A H0 H1 locs →
      W p l e R s m args below meth c H1 locs (cells + 1) (slots + N') Q (F0 m (pc + 2) ls (.ref q :: rest))) : W p l e R s m args below meth c H locs cells slots Q (F0 m pc ls (.int n :: rest)) := by
  refine va_newa hexec hb harr hty hK hP hD hS hA ha hn hN hbytes hcells hslots hdg (fun q cB H1 hK1 hP1 hD1 hS1 => ?_)
  have h1 := hRA _ (hK.2 t0 _ ht).2
  have h2 := hRA _ (hK1.2 tys.length (cB, ty) (by simp)).2
  have h3 : cB = cA := Option.some.inj (h2.symm.trans h1)
  subst h3
  exact kk q H1 hP1 hD1 hS1
theorem x_newq (hexec : p.tables.exec = Jvm.exec) (hb : c.code = cc) {C : String} (hown : s.vm.findClass own = some m.cls) (hclink : (Cond.classLink own index C).before args s = true) (hover : va_AO C s) (hK : va_K D classes tys s) (hP : va_P D classes ws H) (hD : va_D A ws) (hS : va_S A H0 H locs) (hA : ∀ q, H0.size ≤ q → A q)
    (t0 : Nat) {cA : ClassId} (ht : tys[t0]? = some (cA, .object C))
    {n : Int32} {N' : Nat} (hn : ¬ n < 0) (hN : n.toNatClampNeg = N') (hbytes : N' * 4 ≤ 536870912) (hcells : cells + 1 ≤ R.cells) (hslots : slots + N' ≤ R.slots) (hdg : decode cc pc = .ok (.anewarray index, 3))
    (kk : ∀ (q : Nat) (H1 : Heap), va_P D classes (ws ++ [(q, .inl (cA, N', .inr (.inr (.inr (.inr (fun _ => none))))))]) H1 → va_D A (ws ++ [(q, .inl (cA, N', .inr (.inr (.inr (.inr (fun _ => none))))))]) → va_S A H0 H1 locs →
      W p l e R s m args below meth c H1 locs (cells + 1) (slots + N') Q (F0 m (pc + 3) ls (.ref q :: rest))) : W p l e R s m args below meth c H locs cells slots Q (F0 m pc ls (.int n :: rest)) := by
  refine va_newq hexec hb hown hclink hover hK hP hD hS hA hn hN hbytes hcells hslots hdg (fun q cB H1 hK1 hP1 hD1 hS1 => ?_)
  obtain ⟨-, k1, m1, -, -, -, h1⟩ := hK.2 t0 _ ht
  obtain ⟨-, k2, m2, -, -, -, h2⟩ := hK1.2 tys.length (cB, .object C) (by simp)
  have h3 : cB = cA := Option.some.inj (h2.symm.trans h1)
  subst h3
  exact kk q H1 hP1 hD1 hS1
/-- stores whose value is forgotten -/
theorem x_iast (hexec : p.tables.exec = Jvm.exec) (hb : c.code = cc) (hK : va_K D classes tys s) (hP : va_P D classes ws H) (hD : va_D A ws) (hS : va_S A H0 H locs) (q0 t0 : Nat) {cA : ClassId} {n : Nat} {f : Nat → Int32} (ha : ws[q0]? = some (a, .inl (cA, n, .inl f))) (ht : tys[t0]? = some (cA, .int)) {i : Int32} {x : Int32} (hin : vp_in i n) (hdg : decode cc pc = .ok (.iastore, 1))
    (kk : ∀ (g : Nat → Int32) (H1 : Heap) (locs1 : List Loc), va_P D classes (ws.set q0 (a, .inl (cA, n, .inl g))) H1 → va_D A (ws.set q0 (a, .inl (cA, n, .inl g))) → va_S A H0 H1 locs1 → W p l e R s m args below meth c H1 locs1 cells slots Q (F0 m (pc + 1) ls rest)) : W p l e R s m args below meth c H locs cells slots Q (F0 m pc ls (.int x :: .int i :: .ref a :: rest)) :=
  va_iast hexec hb hK hP hD hS q0 t0 ha ht hin hdg (fun H1 l1 h1 h2 h3 => kk _ H1 l1 h1 h2 h3)
theorem x_bast (hexec : p.tables.exec = Jvm.exec) (hb : c.code = cc) (hK : va_K D classes tys s) (hP : va_P D classes ws H) (hD : va_D A ws) (hS : va_S A H0 H locs) (q0 t0 : Nat) {cA : ClassId} {n : Nat} {f : Nat → Int32} (ha : ws[q0]? = some (a, .inl (cA, n, .inl f))) (ht : tys[t0]? = some (cA, .byte)) {i : Int32} {x : Int32} (hin : vp_in i n) (hdg : decode cc pc = .ok (.bastore, 1))
    (kk : ∀ (g : Nat → Int32) (H1 : Heap) (locs1 : List Loc), va_P D classes (ws.set q0 (a, .inl (cA, n, .inl g))) H1 → va_D A (ws.set q0 (a, .inl (cA, n, .inl g))) → va_S A H0 H1 locs1 → W p l e R s m args below meth c H1 locs1 cells slots Q (F0 m (pc + 1) ls rest)) : W p l e R s m args below meth c H locs cells slots Q (F0 m pc ls (.int x :: .int i :: .ref a :: rest)) :=
  va_bast hexec hb hK hP hD hS q0 t0 ha ht hin hdg (fun H1 l1 h1 h2 h3 => kk _ H1 l1 h1 h2 h3)
theorem x_zast (hexec : p.tables.exec = Jvm.exec) (hb : c.code = cc) (hK : va_K D classes tys s) (hP : va_P D classes ws H) (hD : va_D A ws) (hS : va_S A H0 H locs) (q0 t0 : Nat) {cA : ClassId} {n : Nat} {f : Nat → Int32} (ha : ws[q0]? = some (a, .inl (cA, n, .inl f))) (ht : tys[t0]? = some (cA, .boolean)) {i : Int32} {x : Int32} (hin : vp_in i n) (hdg : decode cc pc = .ok (.bastore, 1))
    (kk : ∀ (g : Nat → Int32) (H1 : Heap) (locs1 : List Loc), va_P D classes (ws.set q0 (a, .inl (cA, n, .inl g))) H1 → va_D A (ws.set q0 (a, .inl (cA, n, .inl g))) → va_S A H0 H1 locs1 → W p l e R s m args below meth c H1 locs1 cells slots Q (F0 m (pc + 1) ls rest)) : W p l e R s m args below meth c H locs cells slots Q (F0 m pc ls (.int x :: .int i :: .ref a :: rest)) :=
  va_zast hexec hb hK hP hD hS q0 t0 ha ht hin hdg (fun H1 l1 h1 h2 h3 => kk _ H1 l1 h1 h2 h3)
theorem x_last (hexec : p.tables.exec = Jvm.exec) (hb : c.code = cc) (hK : va_K D classes tys s) (hP : va_P D classes ws H) (hD : va_D A ws) (hS : va_S A H0 H locs) (q0 t0 : Nat) {cA : ClassId} {n : Nat} {f : Nat → Int64} (ha : ws[q0]? = some (a, .inl (cA, n, .inr (.inl f)))) (ht : tys[t0]? = some (cA, .long)) {i : Int32} {x : Int64} (hin : vp_in i n) (hdg : decode cc pc = .ok (.lastore, 1))
    (kk : ∀ (g : Nat → Int64) (H1 : Heap) (locs1 : List Loc), va_P D classes (ws.set q0 (a, .inl (cA, n, .inr (.inl g)))) H1 → va_D A (ws.set q0 (a, .inl (cA, n, .inr (.inl g)))) → va_S A H0 H1 locs1 → W p l e R s m args below meth c H1 locs1 cells slots Q (F0 m (pc + 1) ls rest)) : W p l e R s m args below meth c H locs cells slots Q (F0 m pc ls (.long x :: .int i :: .ref a :: rest)) :=
  va_last hexec hb hK hP hD hS q0 t0 ha ht hin hdg (fun H1 l1 h1 h2 h3 => kk _ H1 l1 h1 h2 h3)
/-- a store of 0 into a row of zeros -/
theorem x_iast0 (hexec : p.tables.exec = Jvm.exec) (hb : c.code = cc) (hK : va_K D classes tys s) (hP : va_P D classes ws H) (hD : va_D A ws) (hS : va_S A H0 H locs) (q0 t0 : Nat) {cA : ClassId} {n : Nat} (ha : ws[q0]? = some (a, .inl (cA, n, .inl (fun _ => 0)))) (ht : tys[t0]? = some (cA, .int)) {i : Int32} (hin : vp_in i n) (hdg : decode cc pc = .ok (.iastore, 1))
    (kk : ∀ (H1 : Heap) (locs1 : List Loc), va_P D classes (ws.set q0 (a, .inl (cA, n, .inl (fun _ => 0)))) H1 → va_D A (ws.set q0 (a, .inl (cA, n, .inl (fun _ => 0)))) → va_S A H0 H1 locs1 → W p l e R s m args below meth c H1 locs1 cells slots Q (F0 m (pc + 1) ls rest)) : W p l e R s m args below meth c H locs cells slots Q (F0 m pc ls (.int 0 :: .int i :: .ref a :: rest)) := by
  refine va_iast hexec hb hK hP hD hS q0 t0 ha ht hin hdg (fun H1 l1 h1 h2 h3 => ?_)
  have h0 : upd (fun _ => (0 : Int32)) i.toNatClampNeg 0 = fun _ => 0 := by
    funext j
    by_cases hj : j = i.toNatClampNeg
    · subst hj; exact pk_us
    · exact pk_un hj
  rw [h0] at h1 h2
  exact kk H1 l1 h1 h2 h3
end XW
theorem x_nlt {x : Int32} (h : ¬ x < 0) : x ≥ 0 := by
  rw [ge_iff_le, Int32.le_iff_toInt_le]
  rw [Int32.lt_iff_toInt_lt] at h
  omega
def ib (lo hi : Int) (p : Int32) : Int32 := if lo ≤ p.toInt ∧ p.toInt ≤ hi then 1 else 0
theorem ib_or (lo hi : Int) (p : Int32) : ib lo hi p = 0 ∨ ib lo hi p = 1 := by
  unfold ib; split
  · exact Or.inr rfl
  · exact Or.inl rfl
theorem ib_lo {lo hi : Int} {p y : Int32} (h : p < y) (e : y.toInt = lo) : ib lo hi p = 0 := by
  rw [Int32.lt_iff_toInt_lt] at h; unfold ib; rw [if_neg]; omega
theorem ib_hi {lo hi : Int} {p y : Int32} (h : p ≥ y) (e : y.toInt = hi + 1) : ib lo hi p = 0 := by
  rw [ge_iff_le, Int32.le_iff_toInt_le] at h; unfold ib; rw [if_neg]; omega
theorem ib_gt {lo hi : Int} {p y : Int32} (h : p > y) (e : y.toInt = hi) : ib lo hi p = 0 := by
  rw [gt_iff_lt, Int32.lt_iff_toInt_lt] at h; unfold ib; rw [if_neg]; omega
theorem ib_in {lo hi : Int} {p y z : Int32} (h : ¬ p < y) (h2 : ¬ p ≥ z) (e : y.toInt = lo) (e2 : z.toInt = hi + 1) : ib lo hi p = 1 := by
  rw [Int32.lt_iff_toInt_lt] at h; rw [ge_iff_le, Int32.le_iff_toInt_le] at h2; unfold ib; rw [if_pos]; omega
theorem ib_in2 {lo hi : Int} {p y z : Int32} (h : ¬ p < y) (h2 : ¬ p > z) (e : y.toInt = lo) (e2 : z.toInt = hi) : ib lo hi p = 1 := by
  rw [Int32.lt_iff_toInt_lt] at h; rw [gt_iff_lt, Int32.lt_iff_toInt_lt] at h2; unfold ib; rw [if_pos]; omega
theorem ib_nat {n : Nat} {hi : Int} {p : Int32} (h : ¬ ib 0 hi p = 0) (e : hi < n) : ∃ j : Nat, j < n ∧ p = nI j := by
  unfold ib at h
  by_cases hc : 0 ≤ p.toInt ∧ p.toInt ≤ hi
  · obtain ⟨j, hj, rfl⟩ := nI_of (x := p) (by rw [Int32.lt_iff_toInt_lt, Int32.toInt_zero]; omega)
    rw [nI_toInt hj] at hc
    exact ⟨j, by omega, rfl⟩
  · rw [if_neg hc] at h; exact absurd rfl h
def inV (v lo hi : Int64) : Int32 := if lo ≤ v ∧ v ≤ hi then 1 else 0
theorem inV_a {v lo hi : Int64} (h : lg_cmp v lo < 0) : inV v lo hi = 0 := by
  rw [lg_cmp_lt] at h; unfold inV; rw [if_neg]
  rintro ⟨h1, -⟩
  rw [Int64.lt_iff_toInt_lt] at h; rw [Int64.le_iff_toInt_le] at h1; omega
theorem inV_b {v lo hi : Int64} (h : lg_cmp v hi > 0) : inV v lo hi = 0 := by
  rw [gt_iff_lt, lg_cmp_gt] at h; unfold inV; rw [if_neg]
  rintro ⟨-, h1⟩
  rw [Int64.lt_iff_toInt_lt] at h; rw [Int64.le_iff_toInt_le] at h1; omega
theorem inV_c {v lo hi : Int64} (h : ¬ lg_cmp v lo < 0) (h2 : ¬ lg_cmp v hi > 0) : inV v lo hi = 1 := by
  rw [lg_cmp_lt, Int64.lt_iff_toInt_lt] at h; rw [gt_iff_lt, lg_cmp_gt, Int64.lt_iff_toInt_lt] at h2; unfold inV; rw [if_pos]
  exact ⟨by rw [Int64.le_iff_toInt_le]; omega, by rw [Int64.le_iff_toInt_le]; omega⟩
theorem inV_i (p : Int32) {lo hi : Int64} {lo' hi' : Int} (e : lo.toInt = lo') (e2 : hi.toInt = hi') : inV p.toInt64 lo hi = ib lo' hi' p := by
  have h : (lo ≤ p.toInt64 ∧ p.toInt64 ≤ hi) ↔ (lo' ≤ p.toInt ∧ p.toInt ≤ hi') := by
    rw [Int64.le_iff_toInt_le, Int64.le_iff_toInt_le, Int32.toInt_toInt64, e, e2]
  unfold inV ib
  by_cases hc : lo' ≤ p.toInt ∧ p.toInt ≤ hi'
  · rw [if_pos hc, if_pos (h.mpr hc)]
  · rw [if_neg hc, if_neg (fun z => hc (h.mp z))]
theorem inV_0 (v : Int64) : inV v 0 (-1) = 0 := by
  unfold inV; rw [if_neg]
  rintro ⟨h1, h2⟩
  rw [Int64.le_iff_toInt_le] at h1 h2
  have e0 : (0 : Int64).toInt = 0 := by decide
  have e1 : (-1 : Int64).toInt = -1 := by decide
  omega
theorem ib_ne (lo : Int) (p : Int32) {hi : Int} (h : hi < lo) : ib lo hi p = 0 := by
  unfold ib; rw [if_neg]; omega
theorem x_nb (lo hi : Int) (p : Int32) : narrow .boolean (.int (ib lo hi p)) = .int (ib lo hi p) := by
  rcases ib_or lo hi p with h | h <;> rw [h] <;> rfl
theorem x_sw (n : Nat) (x : Int32) (hn : n < 2 ^ 31) : (x.toInt < 0 ∨ (n : Int) - 1 < x.toInt) ∨ ∃ j : Nat, j < n ∧ x = nI j := by
  by_cases h : x < 0
  · rw [Int32.lt_iff_toInt_lt, Int32.toInt_zero] at h
    exact Or.inl (Or.inl h)
  · obtain ⟨j, hj, rfl⟩ := nI_of h
    rw [nI_toInt hj]
    by_cases h2 : j < n
    · exact Or.inr ⟨j, h2, rfl⟩
    · exact Or.inl (Or.inr (by omega))
abbrev mny : Nat → Int32 := upd (upd (upd (upd (fun _ => 0) 0 (-1)) 1 (-1)) 2 (-1)) 3 (-1)
def sp_fault (x : Int32) : Int32 := if x = 0 then 0 else -1
def sp_end (x : Int32) : Int32 := if ib 0 0 x = 0 then -1 else x
def sp_count (x : Int32) : Int32 := if ib 0 11 x = 0 then -1 else 0
def sp_img (x : Int32) : Int32 := if ib 0 2 x = 0 then -2 else 0
def sp_back (x : Int32) : Int32 := if ib 0 2 x = 0 then -2 else -6
def sp_row (x y z : Int32) : Int32 := if ib 0 3 x = 0 then -2 else if ib 0 3 y = 0 then -2 else if 60 < z.toInt then -2 else if z.toInt < 0 then -3 else 0
def sp_write (x : Int32) : Int32 := if ib 0 3 x = 0 then -2 else -6
def sp_paste (x z : Int32) : Int32 := if ib 0 3 x = 0 then -2 else if ib 0 3 z = 0 then -2 else -6
theorem t_lt {x y : Int32} (h : x < y) : x.toInt < y.toInt := Int32.lt_iff_toInt_lt.mp h
theorem t_le {x y : Int32} (h : x ≤ y) : x.toInt ≤ y.toInt := Int32.le_iff_toInt_le.mp h
theorem t_nlt {x y : Int32} (h : ¬ x < y) : y.toInt ≤ x.toInt := by rw [Int32.lt_iff_toInt_lt] at h; omega
theorem t_nle {x y : Int32} (h : ¬ x ≤ y) : y.toInt < x.toInt := by rw [Int32.le_iff_toInt_le] at h; omega
theorem ib0 {lo hi : Int} {p : Int32} (h : ¬ (lo ≤ p.toInt ∧ p.toInt ≤ hi)) : ib lo hi p = 0 := if_neg h
theorem ib1 {lo hi : Int} {p : Int32} (h : lo ≤ p.toInt ∧ p.toInt ≤ hi) : ib lo hi p = 1 := if_pos h
theorem ib_n1 {lo hi : Int} {p : Int32} (h : ib lo hi p = 1) : ¬ ib lo hi p = 0 := by rw [h]; decide
theorem sp_cnt0 {x : Int32} (h : x.toInt < 0 ∨ ((12 : Nat) : Int) - 1 < x.toInt) : -1 = sp_count x := by
  have h0 : ib 0 11 x = 0 := by unfold ib; rw [if_neg]; omega
  unfold sp_count; rw [if_pos h0]
theorem sp_cnt1 {x : Int32} (h : ib 0 9 x = 0) (h1 : ¬ x = 10) (h2 : ¬ x = 11) : -1 = sp_count x := by
  have h0 : ib 0 11 x = 0 := by
    rw [← Int32.toInt_inj] at h1 h2
    have e1 : (10 : Int32).toInt = 10 := by decide
    have e2 : (11 : Int32).toInt = 11 := by decide
    unfold ib at h ⊢
    by_cases hc : 0 ≤ x.toInt ∧ x.toInt ≤ 9
    · rw [if_pos hc] at h; exact absurd h (by decide)
    · rw [if_neg]; omega
  unfold sp_count; rw [if_pos h0]
/-! ranges of ints -/
abbrev rg (lo hi : Int) (x : Int32) : Prop := lo ≤ x.toInt ∧ x.toInt ≤ hi
theorem rg_w {a b c d : Int} {x : Int32} (h : rg a b x) (h1 : c ≤ a) (h2 : b ≤ d) : rg c d x := ⟨Int.le_trans h1 h.1, Int.le_trans h.2 h2⟩
theorem rg_c {x : Int32} {k : Int} (e : x.toInt = k) : rg k k x := ⟨by omega, by omega⟩
theorem rg_k {x : Int32} {a b k : Int} (e : x.toInt = k) (h1 : a ≤ k) (h2 : k ≤ b) : rg a b x := ⟨by omega, by omega⟩
theorem i_min (x : Int32) : -2147483648 ≤ x.toInt := Int32.le_toInt x
theorem i_max (x : Int32) : x.toInt ≤ 2147483647 := by have := Int32.toInt_lt x; omega
theorem rg_any (x : Int32) : rg (-2147483648) 2147483647 x := ⟨i_min x, i_max x⟩
theorem i_wrap {z : Int} (h1 : -2147483648 ≤ z) (h2 : z ≤ 2147483647) : z.bmod 4294967296 = z := by
  unfold Int.bmod
  simp only []
  split <;> omega
theorem add_t {x y : Int32} (h1 : -2147483648 ≤ x.toInt + y.toInt) (h2 : x.toInt + y.toInt ≤ 2147483647) : (x + y).toInt = x.toInt + y.toInt := by
  rw [Int32.toInt_add]; exact i_wrap h1 h2
theorem sub_t {x y : Int32} (h1 : -2147483648 ≤ x.toInt - y.toInt) (h2 : x.toInt - y.toInt ≤ 2147483647) : (x - y).toInt = x.toInt - y.toInt := by
  rw [Int32.toInt_sub]; exact i_wrap h1 h2
theorem mul_t {x y : Int32} (h1 : -2147483648 ≤ x.toInt * y.toInt) (h2 : x.toInt * y.toInt ≤ 2147483647) : (x * y).toInt = x.toInt * y.toInt := by
  rw [Int32.toInt_mul]; exact i_wrap h1 h2
theorem rg_add {a b c d p q : Int} {x y : Int32} (h : rg a b x) (k : rg c d y) (h1 : -2147483648 ≤ a + c) (h2 : b + d ≤ 2147483647) (e1 : p ≤ a + c) (e2 : b + d ≤ q) : rg p q (x + y) := by
  have := h.1; have := h.2; have := k.1; have := k.2
  have e := add_t (x := x) (y := y) (by omega) (by omega)
  exact ⟨by omega, by omega⟩
theorem rg_sub {a b c d p q : Int} {x y : Int32} (h : rg a b x) (k : rg c d y) (h1 : -2147483648 ≤ a - d) (h2 : b - c ≤ 2147483647) (e1 : p ≤ a - d) (e2 : b - c ≤ q) : rg p q (x - y) := by
  have := h.1; have := h.2; have := k.1; have := k.2
  have e := sub_t (x := x) (y := y) (by omega) (by omega)
  exact ⟨by omega, by omega⟩
theorem rg_mul {b d q : Int} {x y : Int32} (h : rg 0 b x) (k : rg 0 d y) (e2 : b * d ≤ q) (h2 : q ≤ 2147483647) : rg 0 q (x * y) := by
  have h3 : x.toInt * y.toInt ≤ b * d := Int.mul_le_mul h.2 k.2 k.1 (Int.le_trans h.1 h.2)
  have h4 : 0 ≤ x.toInt * y.toInt := Int.mul_nonneg h.1 k.1
  have e := mul_t (x := x) (y := y) (by omega) (by omega)
  exact ⟨by omega, by omega⟩
theorem c_lt {x y : Int32} {p q : Int} (c : x < y) (h : rg p q y) : x.toInt ≤ q - 1 := by have := t_lt c; have := h.2; omega
theorem c_ltR {x y : Int32} {p q : Int} (c : x < y) (h : rg p q x) : p + 1 ≤ y.toInt := by have := t_lt c; have := h.1; omega
theorem c_nlt {x y : Int32} {p q : Int} (c : ¬ x < y) (h : rg p q y) : p ≤ x.toInt := by have := t_nlt c; have := h.1; omega
theorem c_nltR {x y : Int32} {p q : Int} (c : ¬ x < y) (h : rg p q x) : y.toInt ≤ q := by have := t_nlt c; have := h.2; omega
theorem c_le {x y : Int32} {p q : Int} (c : x ≤ y) (h : rg p q y) : x.toInt ≤ q := by have := t_le c; have := h.2; omega
theorem c_leR {x y : Int32} {p q : Int} (c : x ≤ y) (h : rg p q x) : p ≤ y.toInt := by have := t_le c; have := h.1; omega
theorem c_nle {x y : Int32} {p q : Int} (c : ¬ x ≤ y) (h : rg p q y) : p + 1 ≤ x.toInt := by have := t_nle c; have := h.1; omega
theorem c_nleR {x y : Int32} {p q : Int} (c : ¬ x ≤ y) (h : rg p q x) : y.toInt ≤ q - 1 := by have := t_nle c; have := h.2; omega
theorem c_ne {x y : Int32} {k : Int} (c : ¬ x = y) (e : y.toInt = k) : x.toInt ≠ k := fun h => c (Int32.toInt_inj.mp (by omega))
theorem rg_neL {x y : Int32} {a b : Int} (h : rg a b x) (c : ¬ x = y) (e : y.toInt = a) : rg (a + 1) b x := by
  have := c_ne c e; have := h.1; have := h.2; exact ⟨by omega, by omega⟩
theorem rg_neR {x y : Int32} {a b : Int} (h : rg a b x) (c : ¬ x = y) (e : y.toInt = b) : rg a (b - 1) x := by
  have := c_ne c e; have := h.1; have := h.2; exact ⟨by omega, by omega⟩
theorem rg_eq {x y : Int32} {a b : Int} (c : x = y) (h : rg a b y) : rg a b x := c ▸ h
theorem in_rg {x : Int32} {a b : Int} {n : Nat} (h : rg a b x) (h0 : 0 ≤ a) (h1 : b < n) : vp_in x n := vp_in_iff.mpr ⟨Int.le_trans h0 h.1, Int.lt_of_le_of_lt h.2 h1⟩
theorem cl_rg {x : Int32} {a b : Int} {n : Nat} (h : rg a b x) (h0 : 0 ≤ a) (h1 : b < n) : x.toNatClampNeg < n := by
  obtain ⟨j, hj, rfl⟩ := nI_of (x := x) (by rw [Int32.lt_iff_toInt_lt, Int32.toInt_zero]; have := h.1; omega)
  rw [nI_clamp hj]; have := h.2; rw [nI_toInt hj] at this; omega
theorem rg_nat {x : Int32} {b : Int} (h : rg 0 b x) : ∃ j : Nat, j < 2 ^ 31 ∧ x = nI j ∧ (j : Int) ≤ b := by
  obtain ⟨j, hj, rfl⟩ := nI_of (x := x) (by rw [Int32.lt_iff_toInt_lt, Int32.toInt_zero]; have := h.1; omega)
  exact ⟨j, hj, rfl, by have := h.2; rw [nI_toInt hj] at this; exact this⟩
theorem nn_t {x : Int32} (h : 0 ≤ x.toInt) : x.toInt = (x.toBitVec.toNat : Int) := by
  obtain ⟨j, hj, rfl⟩ := nI_of (x := x) (by rw [Int32.lt_iff_toInt_lt, Int32.toInt_zero]; omega)
  rw [nI_toInt hj, pk_tn (by omega)]
theorem bt_t {x : Int32} (h : x.toBitVec.toNat < 2147483648) : x.toInt = (x.toBitVec.toNat : Int) := by
  show x.toBitVec.toInt = _
  rw [BitVec.toInt_eq_toNat_cond, if_pos (by omega)]
theorem rg_and {x y : Int32} {d : Int} (k : rg 0 d y) : rg 0 d (x &&& y) := by
  have e := nn_t k.1
  have h1 : (x &&& y).toBitVec.toNat ≤ y.toBitVec.toNat := by
    rw [Int32.toBitVec_and, BitVec.toNat_and]; exact Nat.and_le_right
  have h2 : y.toBitVec.toNat < 2147483648 := by have := i_max y; omega
  have e2 := bt_t (x := x &&& y) (by omega)
  have := k.2
  exact ⟨by omega, by omega⟩
theorem rg_andL {x y : Int32} {d : Int} (k : rg 0 d x) : rg 0 d (x &&& y) := by
  rw [Int32.and_comm]; exact rg_and k
theorem rg_or {x y : Int32} {m : Nat} {d : Int} (h : rg 0 d x) (k : rg 0 d y) (e : d = (2 : Int) ^ m - 1) (hm : m ≤ 31) : rg 0 d (x ||| y) := by
  have e1 := nn_t h.1
  have e2 := nn_t k.1
  have hp : ((2 ^ m : Nat) : Int) = (2 : Int) ^ m := by simp
  have h1 : x.toBitVec.toNat < 2 ^ m := by have := h.2; omega
  have h2 : y.toBitVec.toNat < 2 ^ m := by have := k.2; omega
  have h3 : (x ||| y).toBitVec.toNat < 2 ^ m := by
    rw [Int32.toBitVec_or, BitVec.toNat_or]; exact Nat.or_lt_two_pow h1 h2
  have h4 : 2 ^ m ≤ 2 ^ 31 := Nat.pow_le_pow_right (by decide) hm
  have e3 := bt_t (x := x ||| y) (by omega)
  exact ⟨by omega, by omega⟩
theorem shl_k : ∀ k, k < 31 → ((1 : Int32) <<< (nI k &&& 31)).toInt = (2 ^ k : Nat) := by decide +kernel
theorem rg_shl1 {x : Int32} {b : Nat} {q : Int} (h : rg 0 b x) (hb : b ≤ 30) (e : ((2 ^ b : Nat) : Int) ≤ q) : rg 1 q ((1 : Int32) <<< (x &&& 31)) := by
  obtain ⟨j, hj, rfl, hjb⟩ := rg_nat h
  rw [rg, shl_k j (by omega)]
  have h1 : 2 ^ j ≤ 2 ^ b := Nat.pow_le_pow_right (by decide) (by omega)
  have h2 : 0 < 2 ^ j := Nat.two_pow_pos j
  exact ⟨by omega, by omega⟩
theorem rg_div {x y : Int32} {b d : Int} (h : rg 0 b x) (k : rg 1 d y) : rg 0 b (x / y) := by
  obtain ⟨i, hi, rfl, hib⟩ := rg_nat h
  obtain ⟨j, hj, rfl, hjb⟩ := rg_nat (x := y) (b := d) ⟨by have := k.1; omega, k.2⟩
  have hj0 := k.1
  rw [nI_toInt hj] at hj0
  rw [pk_div hi (by omega) hj]
  have h3 := Nat.div_le_self i j
  generalize i / j = q at h3 ⊢
  rw [rg, nI_toInt (by omega)]
  exact ⟨by omega, by omega⟩
theorem rg_rem {x y : Int32} {b d q : Int} (h : rg 0 b x) (k : rg 1 d y) (e : d - 1 ≤ q) : rg 0 q (x - x / y * y) := by
  obtain ⟨i, hi, rfl, hib⟩ := rg_nat h
  obtain ⟨j, hj, rfl, hjb⟩ := rg_nat (x := y) (b := d) ⟨by have := k.1; omega, k.2⟩
  have hj0 := k.1
  rw [nI_toInt hj] at hj0
  rw [pk_rem hi (by omega) hj]
  have h3 := Nat.mod_lt i (show 0 < j by omega)
  generalize i % j = q at h3 ⊢
  rw [rg, nI_toInt (by omega)]
  exact ⟨by omega, by omega⟩
theorem ne0_rg {x : Int32} {d : Int} (k : rg 1 d x) : ¬ x = 0 := fun h => by rw [h] at k; have := k.1; rw [Int32.toInt_zero] at this; omega
theorem ib_z {lo hi : Int} {p : Int32} (h : ib lo hi p = 0) : ¬ (lo ≤ p.toInt ∧ p.toInt ≤ hi) := fun z => by rw [ib1 z] at h; exact absurd h (by decide)
theorem ib_nz {lo hi : Int} {p : Int32} (h : ¬ ib lo hi p = 0) : lo ≤ p.toInt ∧ p.toInt ≤ hi := by
  by_cases z : lo ≤ p.toInt ∧ p.toInt ≤ hi
  · exact z
  · exact absurd (ib0 z) h
/-- loops: the bound that falls -/
theorem m_up {x y : Int32} {E : Int} {n : Nat} (hn : E < x.toInt + ((n + 1 : Nat) : Int)) (e : y.toInt = x.toInt + 1) : E < y.toInt + (n : Int) := by omega
theorem m_dn {x y : Int32} {E : Int} {n : Nat} (hn : x.toInt < E + ((n + 1 : Nat) : Int)) (e : y.toInt = x.toInt - 1) : y.toInt < E + (n : Int) := by omega
theorem m_0 {x : Int32} {E a : Int} (hn : E < x.toInt + ((0 : Nat) : Int)) (h : rg a E x) : False := by have := h.2; omega
theorem m_0d {x : Int32} {E b : Int} (hn : x.toInt < E + ((0 : Nat) : Int)) (h : rg E b x) : False := by have := h.1; omega
theorem inc_t {x : Int32} {a b : Int} (h : rg a b x) (h2 : b + 1 ≤ 2147483647) : (x + 1).toInt = x.toInt + 1 := by
  have := h.2; have := i_min x
  have e1 : (1 : Int32).toInt = 1 := by decide
  rw [add_t (by omega) (by omega), e1]
theorem dec_t {x : Int32} {a b : Int} (h : rg a b x) (h2 : -2147483648 ≤ a - 1) : (x + -1).toInt = x.toInt - 1 := by
  have := h.1; have := i_max x
  have e1 : (-1 : Int32).toInt = -1 := by decide
  rw [add_t (by omega) (by omega), e1]; omega
/-- a reading method's answer, by a property -/
abbrev QP (P : Int32 → Prop) : Array Value → State → Outcome → State → Prop := va_Qi (fun (r : Int32) (_ : Unit) => P r) (fun _ _ => True) NoF
abbrev QPl (P : Int64 → Prop) : Array Value → State → Outcome → State → Prop := va_Ql (fun (r : Int64) (_ : Unit) => P r) (fun _ _ => True) NoF
/-- a writing method's end: its cells by new contents u, and what is known of them -/
abbrev QU {S : Type} (D : va_G) (post : S → Prop) (wf : S → va_W) (ws : va_W) (sz : Nat) : Array Value → State → Outcome → State → Prop := va_Qv post (fun u t => va_P D classes (wf u) t.heap ∧ va_D (va_A ws sz) (wf u)) (va_A ws sz)
abbrev QUi {S : Type} (D : va_G) (post : Int32 → S → Prop) (wf : S → va_W) (ws : va_W) (sz : Nat) : Array Value → State → Outcome → State → Prop := va_Qi post (fun u t => va_P D classes (wf u) t.heap ∧ va_D (va_A ws sz) (wf u)) (va_A ws sz)
section XY
variable {p : Program} {l : Launch} {e : Env} {R : Room} {s : State} {m : MethodId} {args : Array Value} {below : List Frame} {meth : Method} {c : Code} {H : Heap} {locs : List Loc} {cells slots : Nat} {Q : State → Prop}
variable {cc : ByteArray} {pc : Nat} {ls : Array Slot} {rest : List Value} {D : va_G} {A : Nat → Prop} {a : Nat} {tys : List (ClassId × FieldType)} {ws wc wr : va_W} {H0 : Heap}
variable {y : MethodName} {bytes : ByteArray} {maxL nL n index d : Nat} {ret : Option FieldType} {own host : String} {b : Nat} {As st0 : List Value} {P : Int32 → Prop} {S : Type} {wf : S → va_W} {post : S → Prop} {posti : Int32 → S → Prop} {av : Array Value}
theorem y_pi (hr : va_Run p l e R s m args below meth c H locs cells slots 0 0 (F0 m pc ls st0) rest (QP P av) NoF) (hP : va_P D classes ws H) (hS : va_S A H0 H locs)
    (kk : ∀ (r : Int32) (H1 : Heap) (locs1 : List Loc), P r → va_P D classes ws H1 → va_S A H0 H1 locs1 → W p l e R s m args below meth c H1 locs1 cells slots Q (F0 m (pc + 3) ls (.int r :: rest))) : W p l e R s m args below meth c H locs cells slots Q (F0 m pc ls st0) := by
  refine va_calli hr hS (fun _ _ h => h.elim) (fun _ h => h.elim) (fun r u t H1 locs1 ht hvm hw hB hz hk hS1 => ?_)
  exact kk r H1 locs1 hw (hP.kept (fun k q hq => hk q.1 ((hP k q hq).lt) (fun z => z))) hS1
theorem y_pl {P : Int64 → Prop} (hr : va_Run p l e R s m args below meth c H locs cells slots 0 0 (F0 m pc ls st0) rest (QPl P av) NoF) (hP : va_P D classes ws H) (hS : va_S A H0 H locs)
    (kk : ∀ (r : Int64) (H1 : Heap) (locs1 : List Loc), P r → va_P D classes ws H1 → va_S A H0 H1 locs1 → W p l e R s m args below meth c H1 locs1 cells slots Q (F0 m (pc + 3) ls (.long r :: rest))) : W p l e R s m args below meth c H locs cells slots Q (F0 m pc ls st0) := by
  refine va_calll hr hS (fun _ _ h => h.elim) (fun _ h => h.elim) (fun r u t H1 locs1 ht hvm hw hB hz hk hS1 => ?_)
  exact kk r H1 locs1 hw (hP.kept (fun k q hq => hk q.1 ((hP k q hq).lt) (fun z => z))) hS1
abbrev hdT (y : MethodName) (n : Nat) : Prop := y.cls ≠ "java/lang/invoke/MethodHandle" ∧ y.cls ≠ "java/lang/invoke/VarHandle" ∧ (parseMethodDescriptor y.desc).map (fun d => d.parameters.length) = some n
theorem y_PreP (hK : va_K D classes tys s) (hN : NW s) (hPc : va_P D classes wc H) : ∀ U : State, U.heap = H → s.WarmedH U.vm → PreP D tys As wc As.toArray U := fun U hU hW => ⟨rfl, by rw [hU]; exact hPc, va_K.moved hW.alike hK, hN.warm hW⟩
/-- virtual, reading -/
theorem y_pV (F : CallFix p m c cc nL s args TB own) (hM : Met l y (wd y bytes maxL ret) (RM d 0 0) (PreP D tys (.ref b :: As) wc) (QP P) 0 0 NoF)
    (hlink : Cond.methodLink own index y ∈ TB) (hinst : Cond.instanceMethod y ∈ TB) (hsel : Cond.selects y.cls y y ∈ TB) (hini : Cond.initialized y.cls ∈ TB) (hcode : Cond.code y bytes maxL ret ∈ TB) (hd : hdT y As.length) (hR : d + 1 ≤ R.frames ∧ 8 + (maxL + 11) + 40 * d ≤ R.locals)
    (hK : va_K D classes tys s) (hN : NW s) (hP : va_P D classes ws H) (hS : va_S A H0 H locs) (is : List Nat) (hs : is.filterMap (fun i => ws[i]?) = wc) {ci : Nat} {q : vw_C} {fs : List Value} (q0 : Nat) (hc : classes[ci]? = some q) (hq : q.1 = y.cls) (he : wc[q0]? = some (b, .inr (ci, fs)))
    (hsize : ls.size = nL) (hstack : st0 = As.reverse ++ .ref b :: rest) (hW : (rest.map fun v => v.category).sum ≤ 8) (hdg : decode cc pc = .ok (.invokevirtual index, 3)) (hf : cells ≤ R.cells ∧ slots ≤ R.slots)
    (kk : ∀ (r : Int32) (H1 : Heap) (locs1 : List Loc), P r → va_P D classes ws H1 → va_S A H0 H1 locs1 → W p l e R s m args below meth c H1 locs1 cells slots Q (F0 m (pc + 3) ls (.int r :: rest))) : W p l e R s m args below meth c H locs cells slots Q (F0 m pc ls st0) := by
  have hts := F.2.2.2.2
  have hPc : va_P D classes wc H := hP.sub is hs
  have hrec := va_recv hK hPc hc he
  rw [hq] at hrec
  exact y_pi (va_runV (g := F0 m pc ls st0) (C := y.cls) (n := As.length) F hM ⟨x_CB hts hcode hini hlink hd hR, hts _ hinst, hts _ hsel⟩ ⟨PreP.blind, hrec, y_PreP hK hN hPc⟩ rfl rfl hsize hstack (lv_room hW) hdg hf) hP hS kk
/-- static, reading -/
theorem y_pS (F : CallFix p m c cc nL s args TB own) (hM : Met l y (wd y bytes maxL ret) (RM d 0 0) (PreP D tys As wc) (QP P) 0 0 NoF)
    (hlink : Cond.methodLink own index y ∈ TB) (hstat : Cond.static y ∈ TB) (hini : Cond.initialized y.cls ∈ TB) (hcode : Cond.code y bytes maxL ret ∈ TB) (hd : hdT y As.length) (hR : d + 1 ≤ R.frames ∧ 8 + (maxL + 11) + 40 * d ≤ R.locals)
    (hK : va_K D classes tys s) (hN : NW s) (hP : va_P D classes ws H) (hS : va_S A H0 H locs) (is : List Nat) (hs : is.filterMap (fun i => ws[i]?) = wc)
    (hsize : ls.size = nL) (hstack : st0 = As.reverse ++ rest) (hW : (rest.map fun v => v.category).sum ≤ 8) (hdg : decode cc pc = .ok (.invokestatic index, 3)) (hf : cells ≤ R.cells ∧ slots ≤ R.slots)
    (kk : ∀ (r : Int32) (H1 : Heap) (locs1 : List Loc), P r → va_P D classes ws H1 → va_S A H0 H1 locs1 → W p l e R s m args below meth c H1 locs1 cells slots Q (F0 m (pc + 3) ls (.int r :: rest))) : W p l e R s m args below meth c H locs cells slots Q (F0 m pc ls st0) := by
  have hts := F.2.2.2.2
  exact y_pi (va_runS (g := F0 m pc ls st0) (n := As.length) F hM ⟨x_CB hts hcode hini hlink hd hR, hts _ hstat⟩ ⟨PreP.blind, y_PreP hK hN (hP.sub is hs)⟩ rfl rfl hsize hstack (lv_room hW) hdg hf) hP hS kk
/-- static of a nest mate, reading -/
theorem y_pSN (F : CallFix p m c cc nL s args TB own) (hM : Met l y (wd y bytes maxL ret) (RM d 0 0) (PreP D tys As wc) (QP P) 0 0 NoF)
    (hlink : Cond.methodLinkNest own index y host ∈ NB) (hstat : Cond.static y ∈ TB) (hini : Cond.initialized y.cls ∈ TB) (hcode : Cond.code y bytes maxL ret ∈ TB) (hd : hdT y As.length) (hR : d + 1 ≤ R.frames ∧ 8 + (maxL + 11) + 40 * d ≤ R.locals)
    (hK : va_K D classes tys s) (hN : NW s) (hP : va_P D classes ws H) (hS : va_S A H0 H locs) (is : List Nat) (hs : is.filterMap (fun i => ws[i]?) = wc)
    (hsize : ls.size = nL) (hstack : st0 = As.reverse ++ rest) (hW : (rest.map fun v => v.category).sum ≤ 8) (hdg : decode cc pc = .ok (.invokestatic index, 3)) (hf : cells ≤ R.cells ∧ slots ≤ R.slots)
    (kk : ∀ (r : Int32) (H1 : Heap) (locs1 : List Loc), P r → va_P D classes ws H1 → va_S A H0 H1 locs1 → W p l e R s m args below meth c H1 locs1 cells slots Q (F0 m (pc + 3) ls (.int r :: rest))) : W p l e R s m args below meth c H locs cells slots Q (F0 m pc ls st0) := by
  have hts := F.2.2.2.2
  exact y_pi (va_runSN (g := F0 m pc ls st0) (n := As.length) F hM ⟨x_CN hts hN hcode hini hlink hd hR, hts _ hstat, trivial⟩ ⟨PreP.blind, y_PreP hK hN (hP.sub is hs)⟩ rfl rfl hsize hstack (lv_room hW) hdg hf) hP hS kk
theorem y_wv {mc ms : Nat} (hr : va_Run p l e R s m args below meth c H locs cells slots mc ms (F0 m pc ls st0) rest (QU D post wf wc H.size av) (va_A wc H.size)) (hP : va_P D classes ws H) (hD : va_D A ws) (hS : va_S A H0 H locs) (hA : ∀ q, H0.size ≤ q → A q)
    (isC isR : List Nat) (hC : isC.map (fun i => ws[i]?) = wc.map some) (hRr : isR.map (fun i => ws[i]?) = wr.map some) (hn : va_nd isR = true) (hdis : ∀ i ∈ isR, i ∉ isC)
    (kk : ∀ (u : S) (H1 : Heap) (locs1 : List Loc), post u → va_P D classes (wr ++ wf u) H1 → va_D A (wr ++ wf u) → va_S A H0 H1 locs1 → W p l e R s m args below meth c H1 locs1 (cells + mc) (slots + ms) Q (F0 m (pc + 3) ls rest)) : W p l e R s m args below meth c H locs cells slots Q (F0 m pc ls st0) := by
  have hFc := va_free (wc := wc) hD hS hA isC hC
  refine va_callv hr hS (fun q _ h => hFc q h) hFc (fun u t H1 locs1 ht hvm hw hB hz1 hk1 hS1 => ?_)
  obtain ⟨hP1, hD1⟩ := hB
  rw [ht] at hP1
  obtain ⟨hP2, hD2⟩ := va_join (wr := wr) (w1 := wf u) hP hD isC isR hC hRr hn hdis hk1 hFc hP1 hD1
  exact kk u H1 locs1 hw hP2 hD2 hS1
theorem y_wi {mc ms : Nat} (hr : va_Run p l e R s m args below meth c H locs cells slots mc ms (F0 m pc ls st0) rest (QUi D posti wf wc H.size av) (va_A wc H.size)) (hP : va_P D classes ws H) (hD : va_D A ws) (hS : va_S A H0 H locs) (hA : ∀ q, H0.size ≤ q → A q)
    (isC isR : List Nat) (hC : isC.map (fun i => ws[i]?) = wc.map some) (hRr : isR.map (fun i => ws[i]?) = wr.map some) (hn : va_nd isR = true) (hdis : ∀ i ∈ isR, i ∉ isC)
    (kk : ∀ (r : Int32) (u : S) (H1 : Heap) (locs1 : List Loc), posti r u → va_P D classes (wr ++ wf u) H1 → va_D A (wr ++ wf u) → va_S A H0 H1 locs1 → W p l e R s m args below meth c H1 locs1 (cells + mc) (slots + ms) Q (F0 m (pc + 3) ls (.int r :: rest))) : W p l e R s m args below meth c H locs cells slots Q (F0 m pc ls st0) := by
  have hFc := va_free (wc := wc) hD hS hA isC hC
  refine va_calli hr hS (fun q _ h => hFc q h) hFc (fun r u t H1 locs1 ht hvm hw hB hz1 hk1 hS1 => ?_)
  obtain ⟨hP1, hD1⟩ := hB
  rw [ht] at hP1
  obtain ⟨hP2, hD2⟩ := va_join (wr := wr) (w1 := wf u) hP hD isC isR hC hRr hn hdis hk1 hFc hP1 hD1
  exact kk r u H1 locs1 hw hP2 hD2 hS1
/-- virtual, writing, void -/
theorem y_wV (F : CallFix p m c cc nL s args TB own) (hM : Met l y (wd y bytes maxL ret) (RM d 0 0) (PreW D tys (.ref b :: As) wc H.size) (QU D post wf wc H.size) 0 0 (va_A wc H.size))
    (hlink : Cond.methodLink own index y ∈ TB) (hinst : Cond.instanceMethod y ∈ TB) (hsel : Cond.selects y.cls y y ∈ TB) (hini : Cond.initialized y.cls ∈ TB) (hcode : Cond.code y bytes maxL ret ∈ TB) (hd : hdT y As.length) (hR : d + 1 ≤ R.frames ∧ 8 + (maxL + 11) + 40 * d ≤ R.locals)
    (hK : va_K D classes tys s) (hN : NW s) (hP : va_P D classes ws H) (hD : va_D A ws) (hS : va_S A H0 H locs) (hA : ∀ q, H0.size ≤ q → A q)
    {ci : Nat} {q : vw_C} {fs : List Value} (q0 : Nat) (hc : classes[ci]? = some q) (hq : q.1 = y.cls) (he : wc[q0]? = some (b, .inr (ci, fs)))
    (isC isR : List Nat) (hC : isC.map (fun i => ws[i]?) = wc.map some) (hRr : isR.map (fun i => ws[i]?) = wr.map some) (hnC : va_nd isC = true) (hn : va_nd isR = true) (hdis : ∀ i ∈ isR, i ∉ isC)
    (hsize : ls.size = nL) (hstack : st0 = As.reverse ++ .ref b :: rest) (hW : (rest.map fun v => v.category).sum ≤ 8) (hdg : decode cc pc = .ok (.invokevirtual index, 3)) (hf : cells ≤ R.cells ∧ slots ≤ R.slots)
    (kk : ∀ (u : S) (H1 : Heap) (locs1 : List Loc), post u → va_P D classes (wr ++ wf u) H1 → va_D A (wr ++ wf u) → va_S A H0 H1 locs1 → W p l e R s m args below meth c H1 locs1 cells slots Q (F0 m (pc + 3) ls rest)) : W p l e R s m args below meth c H locs cells slots Q (F0 m pc ls st0) := by
  have hts := F.2.2.2.2
  have hrec := va_recv hK (x_Psub hP hC) hc he
  rw [hq] at hrec
  exact y_wv (va_runV (g := F0 m pc ls st0) (C := y.cls) (n := As.length) F hM ⟨x_CB hts hcode hini hlink hd hR, hts _ hinst, hts _ hsel⟩ ⟨PreW.blind, hrec, x_preW (x_Psub hP hC) hK (hD.sub isC hnC hC) hN⟩ rfl rfl hsize hstack (lv_room hW) hdg hf) hP hD hS hA isC isR hC hRr hn hdis kk
/-- virtual, writing, an int -/
theorem y_wVi (F : CallFix p m c cc nL s args TB own) (hM : Met l y (wd y bytes maxL ret) (RM d 0 0) (PreW D tys (.ref b :: As) wc H.size) (QUi D posti wf wc H.size) 0 0 (va_A wc H.size))
    (hlink : Cond.methodLink own index y ∈ TB) (hinst : Cond.instanceMethod y ∈ TB) (hsel : Cond.selects y.cls y y ∈ TB) (hini : Cond.initialized y.cls ∈ TB) (hcode : Cond.code y bytes maxL ret ∈ TB) (hd : hdT y As.length) (hR : d + 1 ≤ R.frames ∧ 8 + (maxL + 11) + 40 * d ≤ R.locals)
    (hK : va_K D classes tys s) (hN : NW s) (hP : va_P D classes ws H) (hD : va_D A ws) (hS : va_S A H0 H locs) (hA : ∀ q, H0.size ≤ q → A q)
    {ci : Nat} {q : vw_C} {fs : List Value} (q0 : Nat) (hc : classes[ci]? = some q) (hq : q.1 = y.cls) (he : wc[q0]? = some (b, .inr (ci, fs)))
    (isC isR : List Nat) (hC : isC.map (fun i => ws[i]?) = wc.map some) (hRr : isR.map (fun i => ws[i]?) = wr.map some) (hnC : va_nd isC = true) (hn : va_nd isR = true) (hdis : ∀ i ∈ isR, i ∉ isC)
    (hsize : ls.size = nL) (hstack : st0 = As.reverse ++ .ref b :: rest) (hW : (rest.map fun v => v.category).sum ≤ 8) (hdg : decode cc pc = .ok (.invokevirtual index, 3)) (hf : cells ≤ R.cells ∧ slots ≤ R.slots)
    (kk : ∀ (r : Int32) (u : S) (H1 : Heap) (locs1 : List Loc), posti r u → va_P D classes (wr ++ wf u) H1 → va_D A (wr ++ wf u) → va_S A H0 H1 locs1 → W p l e R s m args below meth c H1 locs1 cells slots Q (F0 m (pc + 3) ls (.int r :: rest))) : W p l e R s m args below meth c H locs cells slots Q (F0 m pc ls st0) := by
  have hts := F.2.2.2.2
  have hrec := va_recv hK (x_Psub hP hC) hc he
  rw [hq] at hrec
  exact y_wi (va_runV (g := F0 m pc ls st0) (C := y.cls) (n := As.length) F hM ⟨x_CB hts hcode hini hlink hd hR, hts _ hinst, hts _ hsel⟩ ⟨PreW.blind, hrec, x_preW (x_Psub hP hC) hK (hD.sub isC hnC hC) hN⟩ rfl rfl hsize hstack (lv_room hW) hdg hf) hP hD hS hA isC isR hC hRr hn hdis kk
/-- static, writing, void -/
theorem y_wS (F : CallFix p m c cc nL s args TB own) (hM : Met l y (wd y bytes maxL ret) (RM d 0 0) (PreW D tys As wc H.size) (QU D post wf wc H.size) 0 0 (va_A wc H.size))
    (hlink : Cond.methodLink own index y ∈ TB) (hstat : Cond.static y ∈ TB) (hini : Cond.initialized y.cls ∈ TB) (hcode : Cond.code y bytes maxL ret ∈ TB) (hd : hdT y As.length) (hR : d + 1 ≤ R.frames ∧ 8 + (maxL + 11) + 40 * d ≤ R.locals)
    (hK : va_K D classes tys s) (hN : NW s) (hP : va_P D classes ws H) (hD : va_D A ws) (hS : va_S A H0 H locs) (hA : ∀ q, H0.size ≤ q → A q)
    (isC isR : List Nat) (hC : isC.map (fun i => ws[i]?) = wc.map some) (hRr : isR.map (fun i => ws[i]?) = wr.map some) (hnC : va_nd isC = true) (hn : va_nd isR = true) (hdis : ∀ i ∈ isR, i ∉ isC)
    (hsize : ls.size = nL) (hstack : st0 = As.reverse ++ rest) (hW : (rest.map fun v => v.category).sum ≤ 8) (hdg : decode cc pc = .ok (.invokestatic index, 3)) (hf : cells ≤ R.cells ∧ slots ≤ R.slots)
    (kk : ∀ (u : S) (H1 : Heap) (locs1 : List Loc), post u → va_P D classes (wr ++ wf u) H1 → va_D A (wr ++ wf u) → va_S A H0 H1 locs1 → W p l e R s m args below meth c H1 locs1 cells slots Q (F0 m (pc + 3) ls rest)) : W p l e R s m args below meth c H locs cells slots Q (F0 m pc ls st0) := by
  have hts := F.2.2.2.2
  exact y_wv (va_runS (g := F0 m pc ls st0) (n := As.length) F hM ⟨x_CB hts hcode hini hlink hd hR, hts _ hstat⟩ ⟨PreW.blind, x_preW (x_Psub hP hC) hK (hD.sub isC hnC hC) hN⟩ rfl rfl hsize hstack (lv_room hW) hdg hf) hP hD hS hA isC isR hC hRr hn hdis kk
/-- a place where ways meet -/
theorem cutW {α : Type} (I : α → Heap → List Loc → Array Slot → Prop) (J : Nat) (stk : α → List Value) {H1 : Heap} {locs1 : List Loc} {g : JFrame}
    (k : ∀ (x : α) (H : Heap) (locs : List Loc) (ls : Array Slot), I x H locs ls → W p l e R s m args below meth c H locs cells slots Q (F0 m J ls (stk x)))
    (main : (∀ (x : α) (H : Heap) (locs : List Loc) (ls : Array Slot), I x H locs ls → W p l e R s m args below meth c H locs cells slots Q (F0 m J ls (stk x))) → W p l e R s m args below meth c H1 locs1 cells slots Q g) : W p l e R s m args below meth c H1 locs1 cells slots Q g := main k
/-- a loop: a number falls at each turn -/
theorem loopW {α : Type} (I : Nat → α → Heap → List Loc → Array Slot → Prop) (J : Nat) (stk : α → List Value) (zero : ∀ (x : α) (H : Heap) (locs : List Loc) (ls : Array Slot), ¬ I 0 x H locs ls)
    (step : ∀ n : Nat, (∀ (x : α) (H : Heap) (locs : List Loc) (ls : Array Slot), I n x H locs ls → W p l e R s m args below meth c H locs cells slots Q (F0 m J ls (stk x))) → ∀ (x : α) (H : Heap) (locs : List Loc) (ls : Array Slot), I (n + 1) x H locs ls → W p l e R s m args below meth c H locs cells slots Q (F0 m J ls (stk x)))
    (n0 : Nat) (x0 : α) {H1 : Heap} {locs1 : List Loc} {ls1 : Array Slot} (h0 : I n0 x0 H1 locs1 ls1) : W p l e R s m args below meth c H1 locs1 cells slots Q (F0 m J ls1 (stk x0)) := by
  have key : ∀ (n : Nat) (x : α) (H : Heap) (locs : List Loc) (ls : Array Slot), I n x H locs ls → W p l e R s m args below meth c H locs cells slots Q (F0 m J ls (stk x)) := by
    intro n
    induction n with
    | zero => intro x H locs ls h; exact absurd h (zero x H locs ls)
    | succ n ih => exact step n ih
  exact key n0 x0 H1 locs1 ls1 h0
theorem q_upd {f : Nat → Int32} {n k : Nat} {lo hi : Int} {v : Int32} (h : ∀ j, j < n → rg lo hi (f j)) (hv : rg lo hi v) : ∀ j, j < n → rg lo hi (upd f k v j) := fun j hj => by
  by_cases e : j = k
  · subst e; rw [pk_us]; exact hv
  · rw [pk_un e]; exact h j hj
theorem q_cpy {f g : Nat → Int32} {n n0 sp dp m : Nat} {lo hi : Int} (hf : ∀ j, j < n0 → rg lo hi (f j)) (hg : ∀ j, j < n → rg lo hi (g j)) (hb : sp + m ≤ n0) : ∀ j, j < n → rg lo hi (va_cpy f g sp dp m j) := fun j hj => by
  by_cases e : dp ≤ j ∧ j < dp + m
  · rw [pk_cpy_in e.1 e.2]; exact hf _ (by omega)
  · rw [pk_cpy_out (by omega)]; exact hg j hj
theorem y_iast (hexec : p.tables.exec = Jvm.exec) (hb : c.code = cc) (hK : va_K D classes tys s) (hP : va_P D classes ws H) (hD : va_D A ws) (hS : va_S A H0 H locs) (q0 t0 : Nat) {cA : ClassId} {n : Nat} {f : Nat → Int32} (ha : ws[q0]? = some (a, .inl (cA, n, .inl f))) (ht : tys[t0]? = some (cA, .int)) {i : Int32} {x : Int32} (hin : vp_in i n) (hdg : decode cc pc = .ok (.iastore, 1))
    {lo hi : Int} (hq : ∀ j, j < n → rg lo hi (f j)) (hv : rg lo hi x)
    (kk : ∀ (g : Nat → Int32) (H1 : Heap) (locs1 : List Loc), (∀ j, j < n → rg lo hi (g j)) → va_P D classes (ws.set q0 (a, .inl (cA, n, .inl g))) H1 → va_D A (ws.set q0 (a, .inl (cA, n, .inl g))) → va_S A H0 H1 locs1 → W p l e R s m args below meth c H1 locs1 cells slots Q (F0 m (pc + 1) ls rest)) : W p l e R s m args below meth c H locs cells slots Q (F0 m pc ls (.int x :: .int i :: .ref a :: rest)) :=
  va_iast hexec hb hK hP hD hS q0 t0 ha ht hin hdg (fun H1 l1 h1 h2 h3 => kk _ H1 l1 (q_upd hq hv) h1 h2 h3)
theorem y_copyi (hexec : p.tables.exec = Jvm.exec) (hb : c.code = cc) (hml : c.maxLocals = ls.size) (hown : s.vm.findClass own = some m.cls) (hlink : (Cond.methodLink own index arraycopyName).before args s = true) (hnat : (Cond.native arraycopyName).before args s = true) (hstat : (Cond.static arraycopyName).before args s = true) (hini : (Cond.initialized "java/lang/System").before args s = true)
    (hK : va_K D classes tys s) (hP : va_P D classes ws H) (hD : va_D A ws) (hS : va_S A H0 H locs) (q0 q1 t0 t1 : Nat) {a0 : Nat} {c0 c1 : ClassId} {n0 n1 : Nat} {f g : Nat → Int32} (ha0 : ws[q0]? = some (a0, .inl (c0, n0, .inl f))) (ha1 : ws[q1]? = some (a, .inl (c1, n1, .inl g))) (ht0 : tys[t0]? = some (c0, .int)) (ht1 : tys[t1]? = some (c1, .int))
    {sp dp n : Int32} {lo1 hi1 lo2 hi2 lo3 hi3 : Int} (h1 : rg lo1 hi1 sp) (h2 : rg lo2 hi2 dp) (h3 : rg lo3 hi3 n) (e1 : 0 ≤ lo1) (e2 : 0 ≤ lo2) (e3 : 0 ≤ lo3) (h4 : hi1 + hi3 ≤ n0) (h5 : hi2 + hi3 ≤ n1) {lo hi : Int} (hqf : ∀ j, j < n0 → rg lo hi (f j)) (hqg : ∀ j, j < n1 → rg lo hi (g j))
    (hframes : 1 ≤ R.frames) (hlocals : (rest.map fun v => v.category).sum + (nativeFrameWords "java/lang/System" "arraycopy" 5 + 11) ≤ R.locals) (hdg : decode cc pc = .ok (.invokestatic index, 3))
    (kk : ∀ (h : Nat → Int32) (H1 : Heap) (locs1 : List Loc), (∀ j, j < n1 → rg lo hi (h j)) → va_P D classes (ws.set q1 (a, .inl (c1, n1, .inl h))) H1 → va_D A (ws.set q1 (a, .inl (c1, n1, .inl h))) → va_S A H0 H1 locs1 → W p l e R s m args below meth c H1 locs1 cells slots Q (F0 m (pc + 3) ls rest)) : W p l e R s m args below meth c H locs cells slots Q (F0 m pc ls (.int n :: .int dp :: .ref a :: .int sp :: .ref a0 :: rest)) := by
  obtain ⟨i1, j1, rfl, k1⟩ := rg_nat (x := sp) (b := hi1) ⟨Int.le_trans e1 h1.1, h1.2⟩
  obtain ⟨i2, j2, rfl, k2⟩ := rg_nat (x := dp) (b := hi2) ⟨Int.le_trans e2 h2.1, h2.2⟩
  obtain ⟨i3, j3, rfl, k3⟩ := rg_nat (x := n) (b := hi3) ⟨Int.le_trans e3 h3.1, h3.2⟩
  have m1 : (nI i1).toNatClampNeg = i1 := nI_clamp j1
  have m2 : (nI i2).toNatClampNeg = i2 := nI_clamp j2
  have m3 : (nI i3).toNatClampNeg = i3 := nI_clamp j3
  refine va_copyi hexec hb hml hown hlink hnat hstat hini hK hP hD hS q0 q1 t0 t1 ha0 ha1 ht0 ht1 rfl (nI_pos j1) (nI_pos j2) (nI_pos j3) (by rw [m1, m3]; omega) (by rw [m2, m3]; omega) (fun _ _ => rfl) hframes hlocals hdg (fun H1 l1 w1 w2 w3 => ?_)
  exact kk _ H1 l1 (q_cpy hqf hqg (by rw [m1, m3]; omega)) w1 w2 w3
end XY
theorem q_any (f : Nat → Int32) (n : Nat) : ∀ j, j < n → rg (-2147483648) 2147483647 (f j) := fun j _ => rg_any _
theorem q_w {f : Nat → Int32} {n : Nat} {a b c d : Int} (h : ∀ j, j < n → rg a b (f j)) (h1 : c ≤ a) (h2 : b ≤ d) : ∀ j, j < n → rg c d (f j) := fun j hj => rg_w (h j hj) h1 h2
abbrev US : Type := (Nat → Int32) × (Nat → Nat → Int32) × (Nat → Nat → Int64) × (Nat → Int64)
theorem nb_rg {x : Int32} (h : rg 0 1 x) : narrow .boolean (.int x) = .int x := by
  obtain ⟨j, hj, rfl, hb⟩ := rg_nat h
  rcases (by omega : j = 0 ∨ j = 1) with rfl | rfl <;> rfl
theorem m_i {x : Int32} {a b E : Int} {n : Nat} (h : rg a b x) (h2 : E < a + (n : Int)) : E < x.toInt + (n : Int) := by have := h.1; omega
theorem m_id {x : Int32} {a b E : Int} {n : Nat} (h : rg a b x) (h2 : b < E + (n : Int)) : x.toInt < E + (n : Int) := by have := h.2; omega
theorem rg_shlc {x : Int32} {a b p q : Int} {k : Nat} {y : Int32} (h : rg a b x) (h0 : 0 ≤ a) (hy : ((y &&& 31).toBitVec.smod 32).toNat = k) (e1 : p ≤ a * 2 ^ k) (e2 : b * 2 ^ k ≤ q ∧ q ≤ 2147483647) : rg p q (x <<< (y &&& 31)) := by
  obtain ⟨i, hi, rfl, hib⟩ := rg_nat (x := x) (b := b) ⟨Int.le_trans h0 h.1, h.2⟩
  have h1 := h.1
  rw [nI_toInt hi] at h1
  have hp : (0 : Int) < 2 ^ k := Int.pow_pos (by decide)
  have c1 : ((i * 2 ^ k : Nat) : Int) = (i : Int) * 2 ^ k := by simp
  have c2 : (i : Int) * 2 ^ k ≤ b * 2 ^ k := Int.mul_le_mul_of_nonneg_right hib (Int.le_of_lt hp)
  have c3 : a * 2 ^ k ≤ (i : Int) * 2 ^ k := Int.mul_le_mul_of_nonneg_right h1 (Int.le_of_lt hp)
  rw [rg, pk_shlN _ k hy (by omega), nI_toInt (by omega)]
  exact ⟨by omega, by omega⟩
theorem m_upk {x y : Int32} {E k : Int} {n : Nat} (hn : E < x.toInt + ((n + 1 : Nat) : Int)) (e : y.toInt = x.toInt + k) (hk : 1 ≤ k) : E < y.toInt + (n : Int) := by omega
theorem m_dnk {x y : Int32} {E k : Int} {n : Nat} (hn : x.toInt < E + ((n + 1 : Nat) : Int)) (e : y.toInt = x.toInt + k) (hk : k ≤ -1) : y.toInt < E + (n : Int) := by omega
theorem inc_tk {x y : Int32} {a b k : Int} (h : rg a b x) (e : y.toInt = k) (h1 : -2147483648 ≤ a + k) (h2 : b + k ≤ 2147483647) : (x + y).toInt = x.toInt + k := by
  have := h.1; have := h.2
  rw [add_t (by omega) (by omega), e]
section XZ
variable {p : Program} {l : Launch} {e : Env} {R : Room} {s : State} {m : MethodId} {args : Array Value} {below : List Frame} {meth : Method} {c : Code} {H : Heap} {locs : List Loc} {cells slots : Nat} {Q : State → Prop}
variable {cc : ByteArray} {pc : Nat} {ls : Array Slot} {rest : List Value} {D : va_G} {A : Nat → Prop} {a : Nat} {tys : List (ClassId × FieldType)} {ws wc wr : va_W} {H0 : Heap}
variable {y : MethodName} {bytes : ByteArray} {maxL nL n index d : Nat} {ret : Option FieldType} {own host : String} {b : Nat} {As st0 : List Value} {P : Int64 → Prop} {av : Array Value}
theorem y_pVl (F : CallFix p m c cc nL s args TB own) (hM : Met l y (wd y bytes maxL ret) (RM d 0 0) (PreP D tys (.ref b :: As) wc) (QPl P) 0 0 NoF)
    (hlink : Cond.methodLink own index y ∈ TB) (hinst : Cond.instanceMethod y ∈ TB) (hsel : Cond.selects y.cls y y ∈ TB) (hini : Cond.initialized y.cls ∈ TB) (hcode : Cond.code y bytes maxL ret ∈ TB) (hd : hdT y As.length) (hR : d + 1 ≤ R.frames ∧ 8 + (maxL + 11) + 40 * d ≤ R.locals)
    (hK : va_K D classes tys s) (hN : NW s) (hP : va_P D classes ws H) (hS : va_S A H0 H locs) (is : List Nat) (hs : is.filterMap (fun i => ws[i]?) = wc) {ci : Nat} {q : vw_C} {fs : List Value} (q0 : Nat) (hc : classes[ci]? = some q) (hq : q.1 = y.cls) (he : wc[q0]? = some (b, .inr (ci, fs)))
    (hsize : ls.size = nL) (hstack : st0 = As.reverse ++ .ref b :: rest) (hW : (rest.map fun v => v.category).sum ≤ 8) (hdg : decode cc pc = .ok (.invokevirtual index, 3)) (hf : cells ≤ R.cells ∧ slots ≤ R.slots)
    (kk : ∀ (r : Int64) (H1 : Heap) (locs1 : List Loc), P r → va_P D classes ws H1 → va_S A H0 H1 locs1 → W p l e R s m args below meth c H1 locs1 cells slots Q (F0 m (pc + 3) ls (.long r :: rest))) : W p l e R s m args below meth c H locs cells slots Q (F0 m pc ls st0) := by
  have hts := F.2.2.2.2
  have hPc : va_P D classes wc H := hP.sub is hs
  have hrec := va_recv hK hPc hc he
  rw [hq] at hrec
  exact y_pl (va_runV (g := F0 m pc ls st0) (C := y.cls) (n := As.length) F hM ⟨x_CB hts hcode hini hlink hd hR, hts _ hinst, hts _ hsel⟩ ⟨PreP.blind, hrec, y_PreP hK hN hPc⟩ rfl rfl hsize hstack (lv_room hW) hdg hf) hP hS kk
theorem y_pSl (F : CallFix p m c cc nL s args TB own) (hM : Met l y (wd y bytes maxL ret) (RM d 0 0) (PreP D tys As wc) (QPl P) 0 0 NoF)
    (hlink : Cond.methodLink own index y ∈ TB) (hstat : Cond.static y ∈ TB) (hini : Cond.initialized y.cls ∈ TB) (hcode : Cond.code y bytes maxL ret ∈ TB) (hd : hdT y As.length) (hR : d + 1 ≤ R.frames ∧ 8 + (maxL + 11) + 40 * d ≤ R.locals)
    (hK : va_K D classes tys s) (hN : NW s) (hP : va_P D classes ws H) (hS : va_S A H0 H locs) (is : List Nat) (hs : is.filterMap (fun i => ws[i]?) = wc)
    (hsize : ls.size = nL) (hstack : st0 = As.reverse ++ rest) (hW : (rest.map fun v => v.category).sum ≤ 8) (hdg : decode cc pc = .ok (.invokestatic index, 3)) (hf : cells ≤ R.cells ∧ slots ≤ R.slots)
    (kk : ∀ (r : Int64) (H1 : Heap) (locs1 : List Loc), P r → va_P D classes ws H1 → va_S A H0 H1 locs1 → W p l e R s m args below meth c H1 locs1 cells slots Q (F0 m (pc + 3) ls (.long r :: rest))) : W p l e R s m args below meth c H locs cells slots Q (F0 m pc ls st0) := by
  have hts := F.2.2.2.2
  exact y_pl (va_runS (g := F0 m pc ls st0) (n := As.length) F hM ⟨x_CB hts hcode hini hlink hd hR, hts _ hstat⟩ ⟨PreP.blind, y_PreP hK hN (hP.sub is hs)⟩ rfl rfl hsize hstack (lv_room hW) hdg hf) hP hS kk
end XZ
theorem rg_min {x y : Int32} {a b c d p q : Int} (h : rg a b x) (k : rg c d y) (h1 : p ≤ a) (h2 : p ≤ c) (h3 : b ≤ q ∨ d ≤ q) : rg p q (if y < x then y else x) := by
  have := h.1; have := h.2; have := k.1; have := k.2
  by_cases z : y < x
  · rw [if_pos z]; have := t_lt z; exact ⟨by omega, by omega⟩
  · rw [if_neg z]; have := t_nlt z; exact ⟨by omega, by omega⟩
theorem rg_max {x y : Int32} {a b c d p q : Int} (h : rg a b x) (k : rg c d y) (h1 : b ≤ q) (h2 : d ≤ q) (h3 : p ≤ a ∨ p ≤ c) : rg p q (if x < y then y else x) := by
  have := h.1; have := h.2; have := k.1; have := k.2
  by_cases z : x < y
  · rw [if_pos z]; have := t_lt z; exact ⟨by omega, by omega⟩
  · rw [if_neg z]; have := t_nlt z; exact ⟨by omega, by omega⟩
