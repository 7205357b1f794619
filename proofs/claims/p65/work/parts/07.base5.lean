/-! String constants and statics: what never changes -/
def SC : List (String × Nat × String × List Int32) := [("WordSeats$Reader", 52, "district", [100, 105, 115, 116, 114, 105, 99, 116]), ("WordSeats$Reader", 61, "word", [119, 111, 114, 100]), ("WordSeats$Reader", 66, "speaker", [115, 112, 101, 97, 107, 101, 114]), ("WordSeats$Reader", 71, "round", [114, 111, 117, 110, 100]), ("WordSeats$Reader", 80, "chamber", [99, 104, 97, 109, 98, 101, 114]), ("WordSeats$Reader", 86, "meanings", [109, 101, 97, 110, 105, 110, 103, 115]), ("WordSeats$Reader", 92, "law", [108, 97, 119]), ("WordSeats$Reader", 98, "bar", [98, 97, 114]), ("WordSeats$Reader", 100, "dies", [100, 105, 101, 115]), ("WordSeats$Reader", 106, "first", [102, 105, 114, 115, 116]), ("WordSeats$Reader", 110, "runoff", [114, 117, 110, 111, 102, 102]), ("WordSeats$Reader", 112, "strike", [115, 116, 114, 105, 107, 101]), ("WordSeats$Reader", 114, "approve", [97, 112, 112, 114, 111, 118, 101]), ("WordSeats$Reader", 123, "seats", [115, 101, 97, 116, 115]), ("WordSeats$Reader", 131, "letters", [108, 101, 116, 116, 101, 114, 115]), ("WordSeats$Reader", 133, "in", [105, 110]), ("WordSeats$Reader", 135, "party", [112, 97, 114, 116, 121]), ("WordSeats$Reader", 137, "means", [109, 101, 97, 110, 115]), ("WordSeats$Reader", 148, "votes", [118, 111, 116, 101, 115]), ("WordSeats$Reader", 150, "comes", [99, 111, 109, 101, 115]), ("WordSeats$Reader", 152, "needs", [110, 101, 101, 100, 115]), ("WordSeats$Reader", 168, "by", [98, 121]), ("WordSeats$Reader", 174, "and", [97, 110, 100]), ("WordSeatsModel", 172, "first", [102, 105, 114, 115, 116]), ("WordSeatsModel", 174, "runoff", [114, 117, 110, 111, 102, 102]), ("WordSeatsModel", 176, "strike", [115, 116, 114, 105, 107, 101]), ("WordSeatsModel", 178, "approve", [97, 112, 112, 114, 111, 118, 101]), ("WordSeatsModel", 180, "chamber", [99, 104, 97, 109, 98, 101, 114]), ("WordSeatsModel", 182, "meanings", [109, 101, 97, 110, 105, 110, 103, 115]), ("WordSeatsModel", 188, "law", [108, 97, 119]), ("WordSeatsModel", 193, "bar", [98, 97, 114]), ("WordSeatsModel", 195, "dies", [100, 105, 101, 115]), ("WordSeatsModel", 197, "letters", [108, 101, 116, 116, 101, 114, 115]), ("WordSeatsModel", 199, "in", [105, 110]), ("WordSeatsModel", 203, "party", [112, 97, 114, 116, 121]), ("WordSeatsModel", 205, "means", [109, 101, 97, 110, 115]), ("WordSeatsModel", 210, "votes", [118, 111, 116, 101, 115]), ("WordSeatsModel", 212, "comes", [99, 111, 109, 101, 115]), ("WordSeatsModel", 214, "needs", [110, 101, 101, 100, 115]), ("WordSeatsModel", 215, "by", [98, 121]), ("WordSeatsModel", 220, "and", [97, 110, 100]), ("WordSeatsModel", 222, "district", [100, 105, 115, 116, 114, 105, 99, 116]), ("WordSeatsModel", 224, "word", [119, 111, 114, 100]), ("WordSeatsModel", 226, "speaker", [115, 112, 101, 97, 107, 101, 114]), ("WordSeatsModel", 228, "round", [114, 111, 117, 110, 100]), ("WordSeatsModel", 230, "seats", [115, 101, 97, 116, 115])]
abbrev sE (i : Nat) : String × Nat × String × List Int32 := SC.getD i ("", 0, "", [])
abbrev sB (i : Nat) : List Int32 := (sE i).2.2.2
abbrev sL (i : Nat) : Nat := (sB i).length
def OB (j : Nat) : Int32 := [6, 2, 2, 6].getD j 0
theorem sL_rg : ∀ i, i < 46 → 2 ≤ sL i ∧ sL i ≤ 8 := by decide +kernel
def EV (aK aV : Nat → Nat) (A : Nat → Prop) (U : State) (H : Heap) : Prop :=
  (∀ i, i < 46 → vk_R (sE i).1 (sE i).2.1 (sE i).2.2.1 (aK i) U ∧ vk_S 1 [sL i] [sB i] (fun _ => aK i) (fun _ => aV i) A U H) ∧ va_Z "java/lang/String" "COMPACT_STRINGS" "Z" (.int 1) A U H ∧ va_Z "WordSeats$Parties" "ORDERS_BEHIND" "[I" (.ref (aK 46)) A U H ∧ va_T .int (aK 46) 4 (fun j => .int (OB j)) A U H ∧ va_Zq "jdk/internal/util/Preconditions" "SIOOBE_FORMATTER" "Ljava/util/function/BiFunction;" A U H
theorem EV.at {aK aV : Nat → Nat} {A B : Nat → Prop} {s U : State} {H : Heap} {locs : List Loc} (h : EV aK aV A s s.heap) (hS : va_S A s.heap H locs) (hAB : ∀ q, B q → A q) (hU : U.heap = H) (hW : s.WarmedH U.vm) : EV aK aV B U U.heap := by
  rw [hU]
  obtain ⟨h1, h2, h3, h4, h5⟩ := h
  exact ⟨fun i hi => ⟨vk_R.warm hW (h1 i hi).1, vk_S.moved hW.alike (((h1 i hi).2.kept hS.2.1).narrow hAB)⟩, va_Z.moved hW.alike ((h2.kept hS.2.1).narrow hAB), va_Z.moved hW.alike ((h3.kept hS.2.1).narrow hAB), va_T.moved hW.alike ((h4.kept hS.2.1).narrow hAB), va_Zq.moved hW.alike ((h5.kept hS.2.1).narrow hAB)⟩
theorem EV.same {aK aV : Nat → Nat} {A : Nat → Prop} {U V : State} (ev : V.vm = U.vm) (eh : V.heap = U.heap) (h : EV aK aV A U U.heap) : EV aK aV A V V.heap := by
  rw [eh]
  obtain ⟨h1, h2, h3, h4, h5⟩ := h
  have al : U.vm.Alike V.vm := by rw [ev]; exact Vm.Alike.refl _
  exact ⟨fun i hi => ⟨vk_R.same ev (h1 i hi).1, vk_S.moved al (h1 i hi).2⟩, va_Z.moved al h2, va_Z.moved al h3, va_T.moved al h4, va_Zq.moved al h5⟩
abbrev PrePE (D : va_G) (tys : List (ClassId × FieldType)) (aK aV : Nat → Nat) (av : List Value) (ws : va_W) : Array Value → State → Prop := va_Pc av (fun U => (va_P D classes ws U.heap ∧ va_K D classes tys U ∧ NW U) ∧ EV aK aV NoF U U.heap)
abbrev PreWE (D : va_G) (tys : List (ClassId × FieldType)) (aK aV : Nat → Nat) (av : List Value) (ws : va_W) (sz : Nat) : Array Value → State → Prop := va_Pc av (fun U => (U.heap.size = sz ∧ va_P D classes ws U.heap ∧ va_K D classes tys U ∧ va_D (fun _ => True) ws ∧ NW U) ∧ EV aK aV (va_A ws sz) U U.heap)
theorem PrePE.blind {D : va_G} {tys : List (ClassId × FieldType)} {aK aV : Nat → Nat} {av : List Value} {ws : va_W} : FrameBlind (PrePE D tys aK aV av ws) := fun a U g mk q => by
  obtain ⟨q0, ⟨qP, qK, qN⟩, qE⟩ := q
  exact ⟨q0, ⟨qP, va_K.moved (u := U) (U := U.calling g mk a) (Vm.Alike.refl U.vm) qK, NW.same (s := U) (U := U.calling g mk a) rfl qN⟩, EV.same (U := U) (V := U.calling g mk a) rfl rfl qE⟩
theorem PreWE.blind {D : va_G} {tys : List (ClassId × FieldType)} {aK aV : Nat → Nat} {av : List Value} {ws : va_W} {sz : Nat} : FrameBlind (PreWE D tys aK aV av ws sz) := fun a U g mk q => by
  obtain ⟨q0, ⟨q1, qP, qK, qD, qN⟩, qE⟩ := q
  exact ⟨q0, ⟨q1, qP, va_K.moved (u := U) (U := U.calling g mk a) (Vm.Alike.refl U.vm) qK, qD, NW.same (s := U) (U := U.calling g mk a) rfl qN⟩, EV.same (U := U) (V := U.calling g mk a) rfl rfl qE⟩
section XYE
variable {p : Program} {l : Launch} {e : Env} {R : Room} {s : State} {m : MethodId} {args : Array Value} {below : List Frame} {meth : Method} {c : Code} {H : Heap} {locs : List Loc} {cells slots : Nat} {Q : State → Prop}
variable {cc : ByteArray} {pc : Nat} {ls : Array Slot} {rest : List Value} {D : va_G} {A : Nat → Prop} {a : Nat} {tys : List (ClassId × FieldType)} {ws wc wr : va_W} {H0 : Heap} {aK aV : Nat → Nat}
variable {y : MethodName} {bytes : ByteArray} {maxL nL n index d : Nat} {ret : Option FieldType} {own host : String} {b : Nat} {As st0 : List Value} {P : Int32 → Prop} {S : Type} {wf : S → va_W} {post : S → Prop} {posti : Int32 → S → Prop} {av : Array Value}
theorem y_PrePE (hK : va_K D classes tys s) (hN : NW s) (hPc : va_P D classes wc H) (hE : EV aK aV A s s.heap) (hS : va_S A s.heap H locs) : ∀ U : State, U.heap = H → s.WarmedH U.vm → PrePE D tys aK aV As wc As.toArray U := fun U hU hW => ⟨rfl, ⟨by rw [hU]; exact hPc, va_K.moved hW.alike hK, hN.warm hW⟩, hE.at hS (fun _ h => h.elim) hU hW⟩
theorem x_preWE (hPc : va_P D classes wc H) (hK : va_K D classes tys s) (hDc : va_D A wc) (hN : NW s) (hE : EV aK aV A s s.heap) (hS : va_S A s.heap H locs) (hA : ∀ q, s.heap.size ≤ q → A q) : ∀ U : State, U.heap = H → s.WarmedH U.vm → PreWE D tys aK aV As wc H.size As.toArray U := fun U hU hW => ⟨rfl, ⟨by rw [hU], by rw [hU]; exact hPc, va_K.moved hW.alike hK, hDc.weaken (fun _ _ _ _ => trivial), hN.warm hW⟩, hE.at hS (fun q hq => by
    rcases hq with ⟨k, e, hk⟩ | hq
    · exact hDc.2 k _ hk
    · exact hA q (Nat.le_trans hS.1 hq)) hU hW⟩
theorem y_pVE (F : CallFix p m c cc nL s args TB own) (hM : Met l y (wd y bytes maxL ret) (RM d 0 0) (PrePE D tys aK aV (.ref b :: As) wc) (QP P) 0 0 NoF)
    (hlink : Cond.methodLink own index y ∈ TB) (hinst : Cond.instanceMethod y ∈ TB) (hsel : Cond.selects y.cls y y ∈ TB) (hini : Cond.initialized y.cls ∈ TB) (hcode : Cond.code y bytes maxL ret ∈ TB) (hd : hdT y As.length) (hR : d + 1 ≤ R.frames ∧ 8 + (maxL + 11) + 40 * d ≤ R.locals)
    (hK : va_K D classes tys s) (hN : NW s) (hP : va_P D classes ws H) (hS : va_S A s.heap H locs) (hE : EV aK aV A s s.heap) (is : List Nat) (hs : is.filterMap (fun i => ws[i]?) = wc) {ci : Nat} {q : vw_C} {fs : List Value} (q0 : Nat) (hc : classes[ci]? = some q) (hq : q.1 = y.cls) (he : wc[q0]? = some (b, .inr (ci, fs)))
    (hsize : ls.size = nL) (hstack : st0 = As.reverse ++ .ref b :: rest) (hW : (rest.map fun v => v.category).sum ≤ 8) (hdg : decode cc pc = .ok (.invokevirtual index, 3)) (hf : cells ≤ R.cells ∧ slots ≤ R.slots)
    (kk : ∀ (r : Int32) (H1 : Heap) (locs1 : List Loc), P r → va_P D classes ws H1 → va_S A s.heap H1 locs1 → W p l e R s m args below meth c H1 locs1 cells slots Q (F0 m (pc + 3) ls (.int r :: rest))) : W p l e R s m args below meth c H locs cells slots Q (F0 m pc ls st0) := by
  have hts := F.2.2.2.2
  have hPc : va_P D classes wc H := hP.sub is hs
  have hrec := va_recv hK hPc hc he
  rw [hq] at hrec
  exact y_pi (va_runV (g := F0 m pc ls st0) (C := y.cls) (n := As.length) F hM ⟨x_CB hts hcode hini hlink hd hR, hts _ hinst, hts _ hsel⟩ ⟨PrePE.blind, hrec, y_PrePE hK hN hPc hE hS⟩ rfl rfl hsize hstack (lv_room hW) hdg hf) hP hS kk
theorem y_pSE (F : CallFix p m c cc nL s args TB own) (hM : Met l y (wd y bytes maxL ret) (RM d 0 0) (PrePE D tys aK aV As wc) (QP P) 0 0 NoF)
    (hlink : Cond.methodLink own index y ∈ TB) (hstat : Cond.static y ∈ TB) (hini : Cond.initialized y.cls ∈ TB) (hcode : Cond.code y bytes maxL ret ∈ TB) (hd : hdT y As.length) (hR : d + 1 ≤ R.frames ∧ 8 + (maxL + 11) + 40 * d ≤ R.locals)
    (hK : va_K D classes tys s) (hN : NW s) (hP : va_P D classes ws H) (hS : va_S A s.heap H locs) (hE : EV aK aV A s s.heap) (is : List Nat) (hs : is.filterMap (fun i => ws[i]?) = wc)
    (hsize : ls.size = nL) (hstack : st0 = As.reverse ++ rest) (hW : (rest.map fun v => v.category).sum ≤ 8) (hdg : decode cc pc = .ok (.invokestatic index, 3)) (hf : cells ≤ R.cells ∧ slots ≤ R.slots)
    (kk : ∀ (r : Int32) (H1 : Heap) (locs1 : List Loc), P r → va_P D classes ws H1 → va_S A s.heap H1 locs1 → W p l e R s m args below meth c H1 locs1 cells slots Q (F0 m (pc + 3) ls (.int r :: rest))) : W p l e R s m args below meth c H locs cells slots Q (F0 m pc ls st0) := by
  have hts := F.2.2.2.2
  exact y_pi (va_runS (g := F0 m pc ls st0) (n := As.length) F hM ⟨x_CB hts hcode hini hlink hd hR, hts _ hstat⟩ ⟨PrePE.blind, y_PrePE hK hN (hP.sub is hs) hE hS⟩ rfl rfl hsize hstack (lv_room hW) hdg hf) hP hS kk
theorem y_wVE (F : CallFix p m c cc nL s args TB own) (hM : Met l y (wd y bytes maxL ret) (RM d 0 0) (PreWE D tys aK aV (.ref b :: As) wc H.size) (QU D post wf wc H.size) 0 0 (va_A wc H.size))
    (hlink : Cond.methodLink own index y ∈ TB) (hinst : Cond.instanceMethod y ∈ TB) (hsel : Cond.selects y.cls y y ∈ TB) (hini : Cond.initialized y.cls ∈ TB) (hcode : Cond.code y bytes maxL ret ∈ TB) (hd : hdT y As.length) (hR : d + 1 ≤ R.frames ∧ 8 + (maxL + 11) + 40 * d ≤ R.locals)
    (hK : va_K D classes tys s) (hN : NW s) (hP : va_P D classes ws H) (hD : va_D A ws) (hS : va_S A s.heap H locs) (hE : EV aK aV A s s.heap) (hA : ∀ q, s.heap.size ≤ q → A q)
    {ci : Nat} {q : vw_C} {fs : List Value} (q0 : Nat) (hc : classes[ci]? = some q) (hq : q.1 = y.cls) (he : wc[q0]? = some (b, .inr (ci, fs)))
    (isC isR : List Nat) (hC : isC.map (fun i => ws[i]?) = wc.map some) (hRr : isR.map (fun i => ws[i]?) = wr.map some) (hnC : va_nd isC = true) (hn : va_nd isR = true) (hdis : ∀ i ∈ isR, i ∉ isC)
    (hsize : ls.size = nL) (hstack : st0 = As.reverse ++ .ref b :: rest) (hW : (rest.map fun v => v.category).sum ≤ 8) (hdg : decode cc pc = .ok (.invokevirtual index, 3)) (hf : cells ≤ R.cells ∧ slots ≤ R.slots)
    (kk : ∀ (u : S) (H1 : Heap) (locs1 : List Loc), post u → va_P D classes (wr ++ wf u) H1 → va_D A (wr ++ wf u) → va_S A s.heap H1 locs1 → W p l e R s m args below meth c H1 locs1 cells slots Q (F0 m (pc + 3) ls rest)) : W p l e R s m args below meth c H locs cells slots Q (F0 m pc ls st0) := by
  have hts := F.2.2.2.2
  have hrec := va_recv hK (x_Psub hP hC) hc he
  rw [hq] at hrec
  exact y_wv (va_runV (g := F0 m pc ls st0) (C := y.cls) (n := As.length) F hM ⟨x_CB hts hcode hini hlink hd hR, hts _ hinst, hts _ hsel⟩ ⟨PreWE.blind, hrec, x_preWE (x_Psub hP hC) hK (hD.sub isC hnC hC) hN hE hS hA⟩ rfl rfl hsize hstack (lv_room hW) hdg hf) hP hD hS hA isC isR hC hRr hn hdis kk
theorem y_wViE (F : CallFix p m c cc nL s args TB own) (hM : Met l y (wd y bytes maxL ret) (RM d 0 0) (PreWE D tys aK aV (.ref b :: As) wc H.size) (QUi D posti wf wc H.size) 0 0 (va_A wc H.size))
    (hlink : Cond.methodLink own index y ∈ TB) (hinst : Cond.instanceMethod y ∈ TB) (hsel : Cond.selects y.cls y y ∈ TB) (hini : Cond.initialized y.cls ∈ TB) (hcode : Cond.code y bytes maxL ret ∈ TB) (hd : hdT y As.length) (hR : d + 1 ≤ R.frames ∧ 8 + (maxL + 11) + 40 * d ≤ R.locals)
    (hK : va_K D classes tys s) (hN : NW s) (hP : va_P D classes ws H) (hD : va_D A ws) (hS : va_S A s.heap H locs) (hE : EV aK aV A s s.heap) (hA : ∀ q, s.heap.size ≤ q → A q)
    {ci : Nat} {q : vw_C} {fs : List Value} (q0 : Nat) (hc : classes[ci]? = some q) (hq : q.1 = y.cls) (he : wc[q0]? = some (b, .inr (ci, fs)))
    (isC isR : List Nat) (hC : isC.map (fun i => ws[i]?) = wc.map some) (hRr : isR.map (fun i => ws[i]?) = wr.map some) (hnC : va_nd isC = true) (hn : va_nd isR = true) (hdis : ∀ i ∈ isR, i ∉ isC)
    (hsize : ls.size = nL) (hstack : st0 = As.reverse ++ .ref b :: rest) (hW : (rest.map fun v => v.category).sum ≤ 8) (hdg : decode cc pc = .ok (.invokevirtual index, 3)) (hf : cells ≤ R.cells ∧ slots ≤ R.slots)
    (kk : ∀ (r : Int32) (u : S) (H1 : Heap) (locs1 : List Loc), posti r u → va_P D classes (wr ++ wf u) H1 → va_D A (wr ++ wf u) → va_S A s.heap H1 locs1 → W p l e R s m args below meth c H1 locs1 cells slots Q (F0 m (pc + 3) ls (.int r :: rest))) : W p l e R s m args below meth c H locs cells slots Q (F0 m pc ls st0) := by
  have hts := F.2.2.2.2
  have hrec := va_recv hK (x_Psub hP hC) hc he
  rw [hq] at hrec
  exact y_wi (va_runV (g := F0 m pc ls st0) (C := y.cls) (n := As.length) F hM ⟨x_CB hts hcode hini hlink hd hR, hts _ hinst, hts _ hsel⟩ ⟨PreWE.blind, hrec, x_preWE (x_Psub hP hC) hK (hD.sub isC hnC hC) hN hE hS hA⟩ rfl rfl hsize hstack (lv_room hW) hdg hf) hP hD hS hA isC isR hC hRr hn hdis kk
theorem y_pStr (F : CallFix p m c cc nL s args TB own) (hM : Met l y (wd y bytes maxL ret) (RM d 0 0) (PrePE D tys aK aV (.ref b :: As) wc) (QP P) 0 0 NoF)
    (hlink : Cond.methodLink own index y ∈ TB) (hinst : Cond.instanceMethod y ∈ TB) (hsel : Cond.selects y.cls y y ∈ TB) (hini : Cond.initialized y.cls ∈ TB) (hcode : Cond.code y bytes maxL ret ∈ TB) (hd : hdT y As.length) (hR : d + 1 ≤ R.frames ∧ 8 + (maxL + 11) + 40 * d ≤ R.locals)
    (hK : va_K D classes tys s) (hN : NW s) (hP : va_P D classes ws H) (hS : va_S A s.heap H locs) (hE : EV aK aV A s s.heap) (is : List Nat) (hs : is.filterMap (fun i => ws[i]?) = wc) {i0 : Nat} (hi0 : i0 < 46) (hb0 : b = aK i0) (hq : "java/lang/String" = y.cls)
    (hsize : ls.size = nL) (hstack : st0 = As.reverse ++ .ref b :: rest) (hW : (rest.map fun v => v.category).sum ≤ 8) (hdg : decode cc pc = .ok (.invokevirtual index, 3)) (hf : cells ≤ R.cells ∧ slots ≤ R.slots)
    (kk : ∀ (r : Int32) (H1 : Heap) (locs1 : List Loc), P r → va_P D classes ws H1 → va_S A s.heap H1 locs1 → W p l e R s m args below meth c H1 locs1 cells slots Q (F0 m (pc + 3) ls (.int r :: rest))) : W p l e R s m args below meth c H locs cells slots Q (F0 m pc ls st0) := by
  have hts := F.2.2.2.2
  have hPc : va_P D classes wc H := hP.sub is hs
  have hrec := vk_recv (hE.1 i0 hi0).2 (by decide : 0 < 1) hS
  rw [hq] at hrec
  subst hb0
  exact y_pi (va_runV (g := F0 m pc ls st0) (C := y.cls) (n := As.length) F hM ⟨x_CB hts hcode hini hlink hd hR, hts _ hinst, hts _ hsel⟩ ⟨PrePE.blind, hrec, y_PrePE hK hN hPc hE hS⟩ rfl rfl hsize hstack (lv_room hW) hdg hf) hP hS kk
abbrev QPv : Array Value → State → Outcome → State → Prop := va_Qv (fun (_ : Unit) => True) (fun _ _ => True) NoF
theorem y_pv (hr : va_Run p l e R s m args below meth c H locs cells slots 0 0 (F0 m pc ls st0) rest (QPv av) NoF) (hP : va_P D classes ws H) (hS : va_S A H0 H locs)
    (kk : ∀ (H1 : Heap) (locs1 : List Loc), va_P D classes ws H1 → va_S A H0 H1 locs1 → W p l e R s m args below meth c H1 locs1 cells slots Q (F0 m (pc + 3) ls rest)) : W p l e R s m args below meth c H locs cells slots Q (F0 m pc ls st0) := by
  refine va_callv hr hS (fun _ _ h => h.elim) (fun _ h => h.elim) (fun u t H1 locs1 ht hvm hw hB hz hk hS1 => ?_)
  exact kk H1 locs1 (hP.kept (fun k q hq => hk q.1 ((hP k q hq).lt) (fun z => z))) hS1
theorem y_pSvE (F : CallFix p m c cc nL s args TB own) (hM : Met l y (wd y bytes maxL ret) (RM d 0 0) (PrePE D tys aK aV As wc) QPv 0 0 NoF)
    (hlink : Cond.methodLink own index y ∈ TB) (hstat : Cond.static y ∈ TB) (hini : Cond.initialized y.cls ∈ TB) (hcode : Cond.code y bytes maxL ret ∈ TB) (hd : hdT y As.length) (hR : d + 1 ≤ R.frames ∧ 8 + (maxL + 11) + 40 * d ≤ R.locals)
    (hK : va_K D classes tys s) (hN : NW s) (hP : va_P D classes ws H) (hS : va_S A s.heap H locs) (hE : EV aK aV A s s.heap) (is : List Nat) (hs : is.filterMap (fun i => ws[i]?) = wc)
    (hsize : ls.size = nL) (hstack : st0 = As.reverse ++ rest) (hW : (rest.map fun v => v.category).sum ≤ 8) (hdg : decode cc pc = .ok (.invokestatic index, 3)) (hf : cells ≤ R.cells ∧ slots ≤ R.slots)
    (kk : ∀ (H1 : Heap) (locs1 : List Loc), va_P D classes ws H1 → va_S A s.heap H1 locs1 → W p l e R s m args below meth c H1 locs1 cells slots Q (F0 m (pc + 3) ls rest)) : W p l e R s m args below meth c H locs cells slots Q (F0 m pc ls st0) := by
  have hts := F.2.2.2.2
  exact y_pv (va_runS (g := F0 m pc ls st0) (n := As.length) F hM ⟨x_CB hts hcode hini hlink hd hR, hts _ hstat⟩ ⟨PrePE.blind, y_PrePE hK hN (hP.sub is hs) hE hS⟩ rfl rfl hsize hstack (lv_room hW) hdg hf) hP hS kk
theorem y_iastK {B : Nat → Int × Int} (hexec : p.tables.exec = Jvm.exec) (hb : c.code = cc) (hK : va_K D classes tys s) (hP : va_P D classes ws H) (hD : va_D A ws) (hS : va_S A H0 H locs) (q0 t0 : Nat) {cA : ClassId} {n : Nat} {f : Nat → Int32} (ha : ws[q0]? = some (a, .inl (cA, n, .inl f))) (ht : tys[t0]? = some (cA, .int)) {i : Int32} {x : Int32} (hin : vp_in i n) (hdg : decode cc pc = .ok (.iastore, 1))
    (hq : ∀ j, j < n → rg (B j).1 (B j).2 (upd f i.toNatClampNeg x j))
    (kk : ∀ (g : Nat → Int32) (H1 : Heap) (locs1 : List Loc), g = upd f i.toNatClampNeg x → (∀ j, j < n → rg (B j).1 (B j).2 (g j)) → va_P D classes (ws.set q0 (a, .inl (cA, n, .inl g))) H1 → va_D A (ws.set q0 (a, .inl (cA, n, .inl g))) → va_S A H0 H1 locs1 → W p l e R s m args below meth c H1 locs1 cells slots Q (F0 m (pc + 1) ls rest)) : W p l e R s m args below meth c H locs cells slots Q (F0 m pc ls (.int x :: .int i :: .ref a :: rest)) :=
  va_iast hexec hb hK hP hD hS q0 t0 ha ht hin hdg (fun H1 l1 h1 h2 h3 => kk _ H1 l1 rfl hq h1 h2 h3)
end XYE
theorem kp_ne {f g : Nat → Int32} {x v : Int32} {a b : Int} {j : Nat} (e : g = upd f x.toNatClampNeg v) (h : rg a b x) (h0 : 0 ≤ a) (hj : (j : Int) < a ∨ b < (j : Int)) : g j = f j := by
  obtain ⟨i, hi, rfl, hib⟩ := rg_nat (x := x) (b := b) ⟨Int.le_trans h0 h.1, h.2⟩
  have ha := h.1
  rw [nI_toInt hi] at ha
  have ne : ¬ j = i := by omega
  rw [e, nI_clamp hi, pk_un ne]
theorem kp_rg {f g : Nat → Int32} {x v : Int32} {a b lo hi : Int} {j : Nat} (e : g = upd f x.toNatClampNeg v) (h : rg a b x) (h0 : 0 ≤ a) (hj : (j : Int) < a ∨ b < (j : Int)) (hr : rg lo hi (f j)) : rg lo hi (g j) := by rw [kp_ne e h h0 hj]; exact hr
theorem sh0 (x : Int32) : x >>> ((0 : Int32) &&& 31) = x := by
  have e : ((0 : Int32) &&& 31) = 0 := by decide
  rw [e]; simp
def chS (i : Nat) (k : Int32) : Int32 := ((((sB i).getD k.toNatClampNeg 0) &&& 255).toUInt32 % 65536).toInt32
theorem chS_n : ∀ i, i < 46 → ∀ k, k < 8 → narrow .char (.int (chS i (nI k))) = .int (chS i (nI k)) := by decide +kernel
theorem len_rg {i : Nat} (hi : i < 46) : rg 2 8 (nI (sL i)) := by
  have h := sL_rg i hi
  rw [rg, nI_toInt (by omega)]
  exact ⟨by omega, by omega⟩
theorem sL_t {i : Nat} (hi : i < 46) : (nI (sL i)).toInt = (sL i : Int) := by
  have h := sL_rg i hi
  exact nI_toInt (by omega)
theorem zt0 : (0 : Int32).toInt = 0 := rfl
theorem zt1 : (1 : Int32).toInt = 1 := by decide
theorem zt2 : (2 : Int32).toInt = 2 := by decide
theorem zt3 : (3 : Int32).toInt = 3 := by decide
theorem zt4 : (4 : Int32).toInt = 4 := by decide
def inW (a b c : Int64) : Int32 := if b.toInt ≤ a.toInt ∧ a.toInt ≤ c.toInt then 1 else 0
def seeV (f : Nat → Int32) (n k : Int32) : Int32 := if k.toInt < n.toInt then f k.toNatClampNeg &&& 255 else -1
theorem in_v1 {v lo hi : Int64} (h : lg_cmp v lo < 0) : 0 = inW v lo hi := by
  rw [lg_cmp_lt, Int64.lt_iff_toInt_lt] at h
  rw [inW, if_neg (by omega)]
theorem in_v2 {v lo hi : Int64} (h : 0 < lg_cmp v hi) : 0 = inW v lo hi := by
  rw [lg_cmp_gt, Int64.lt_iff_toInt_lt] at h
  rw [inW, if_neg (by omega)]
theorem in_v3 {v lo hi : Int64} (h : ¬ lg_cmp v lo < 0) (h2 : ¬ 0 < lg_cmp v hi) : 1 = inW v lo hi := by
  rw [inW, if_pos (in_path h h2)]
def isC (f : Nat → Int32) (fk tok at_ fr : Int32) (i : Nat) (n : Int) : Prop := fk.toInt = 0 ∧ tok.toInt = 1 ∧ at_.toInt - fr.toInt = (sL i : Int) ∧ ∀ k : Nat, (k : Int) < n → k < sL i → f (fr.toInt.toNat + k) = chS i (nI k)
abbrev isA (f : Nat → Int32) (fk tok at_ fr : Int32) (i : Nat) : Prop := isC f fk tok at_ fr i (sL i : Int)
theorem orL {x : Int} {P : Prop} (h : (x = 1 ∧ P) ∨ (x = 0 ∧ ¬ P)) (h0 : ¬ x = 0) : P := by
  rcases h with h | h
  · exact h.2
  · exact absurd h.1 h0
section IsC
variable {f : Nat → Int32} {fk tok at_ fr : Int32} {i : Nat}
theorem is_i0 {x : Int32} (h : (x.toInt = 1 ∧ (fk.toInt = 0 ∧ tok.toInt = 1 ∧ at_.toInt - fr.toInt = (sL i : Int))) ∨ (x.toInt = 0 ∧ ¬ (fk.toInt = 0 ∧ tok.toInt = 1 ∧ at_.toInt - fr.toInt = (sL i : Int)))) : (x.toInt = 1 ∧ isC f fk tok at_ fr i (0 : Int32).toInt) ∨ (x.toInt = 0 ∧ ¬ isC f fk tok at_ fr i (0 : Int32).toInt) := by
  rcases h with ⟨h, h1, h2, h3⟩ | ⟨h, h1⟩
  · exact Or.inl ⟨h, h1, h2, h3, fun k hk _ => by rw [zt0] at hk; omega⟩
  · exact Or.inr ⟨h, fun z => h1 ⟨z.1, z.2.1, z.2.2.1⟩⟩
theorem is_ix {idx n : Int32} (hn : rg 0 7 n) (hf : 0 ≤ fr.toInt) (ei : idx.toInt = fr.toInt + n.toInt) : idx.toNatClampNeg = fr.toInt.toNat + n.toInt.toNat ∧ n = nI n.toInt.toNat := by
  have h1 := hn.1
  have h2 := hn.2
  refine ⟨?_, Int32.toInt_inj.mp ?_⟩
  · show idx.toInt.toNat = _
    omega
  · rw [nI_toInt (by omega)]; omega
theorem is_s1 {idx n n' xb rc : Int32} (h : isC f fk tok at_ fr i n.toInt) (hn : rg 0 7 n) (hf : 0 ≤ fr.toInt) (e : n'.toInt = n.toInt + 1) (ei : idx.toInt = fr.toInt + n.toInt) (eb : xb = f idx.toNatClampNeg) (ec : rc = chS i n) (hq : xb.toInt = rc.toInt) : isC f fk tok at_ fr i n'.toInt := by
  obtain ⟨h1, h2, h3, h4⟩ := h
  obtain ⟨j1, j2⟩ := is_ix hn hf ei
  have n0 := hn.1
  refine ⟨h1, h2, h3, fun k hk hs => ?_⟩
  by_cases z : (k : Int) < n.toInt
  · exact h4 k z hs
  · have ek : k = n.toInt.toNat := by omega
    rw [ek, ← j1, ← eb, Int32.toInt_inj.mp hq, ec, ← j2]
theorem is_s0 {idx n n' xb rc : Int32} (hn : rg 0 7 n) (hf : 0 ≤ fr.toInt) (e : n'.toInt = n.toInt + 1) (ei : idx.toInt = fr.toInt + n.toInt) (eb : xb = f idx.toNatClampNeg) (ec : rc = chS i n) (hs : n.toInt < (sL i : Int)) (hq : ¬ xb.toInt = rc.toInt) : ¬ isC f fk tok at_ fr i n'.toInt := by
  intro z
  obtain ⟨j1, j2⟩ := is_ix hn hf ei
  have n0 := hn.1
  have h := z.2.2.2 n.toInt.toNat (by omega) (by omega)
  rw [← j1, ← eb, ← j2, ← ec] at h
  exact hq (congrArg Int32.toInt h)
theorem is_e1 {x : Int32} {n : Int} (h : (x.toInt = 1 ∧ isC f fk tok at_ fr i n) ∨ (x.toInt = 0 ∧ ¬ isC f fk tok at_ fr i n)) (hn : (sL i : Int) ≤ n) : x.toInt = 1 ↔ isA f fk tok at_ fr i := by
  constructor
  · intro z
    obtain ⟨h1, h2, h3, h4⟩ := orL h (by omega)
    exact ⟨h1, h2, h3, fun k hk hs => h4 k (by omega) hs⟩
  · intro z
    rcases h with h | h
    · exact h.1
    · exact absurd ⟨z.1, z.2.1, z.2.2.1, fun k _ hs => z.2.2.2 k (by omega) hs⟩ h.2
theorem is_e0 {x : Int32} {n : Int} (h : (x.toInt = 1 ∧ isC f fk tok at_ fr i n) ∨ (x.toInt = 0 ∧ ¬ isC f fk tok at_ fr i n)) (h0 : x.toInt = 0) : x.toInt = 1 ↔ isA f fk tok at_ fr i := by
  constructor
  · intro z; omega
  · intro z
    rcases h with h | h
    · exact h.1
    · exact absurd ⟨z.1, z.2.1, z.2.2.1, fun k _ hs => z.2.2.2 k (by omega) hs⟩ h.2
end IsC
