set_option maxHeartbeats 4000000 in
set_option maxRecDepth 100000 in
theorem law_0 {p : Program} {l : Launch} {e : Env} {s : State} {m : MethodId} {below : List Frame} {meth : Method} {c : Code} {bb L : Nat} {xs : Nat → Int32} {A : Nat → Prop} {D : va_G} {t : Nat → ClassId} {a b : Nat → Nat} (C0 : lw_At p s m meth c bb L xs) (hL : 6 ≤ L) (hL2 : L ≤ 6) (hA : ∀ q, s.heap.size ≤ q → A q) (hA2 : ∀ q, A q → s.heap.size ≤ q) (hK : va_K D classes (TY t) s) (hN : NW s) {H : Heap} {locs : List Loc} (hP : va_P D classes (cW t a ++ mW t b) H) (hD : va_D A (cW t a ++ mW t b)) (hS : va_S A s.heap H locs) {ls : Array Slot} (hl : lv_has ls 4 [(3, .int 0), (2, .ref (b 0)), (1, .ref (a 0)), (0, .ref bb)]) : W p l e room_1 s m #[Value.ref bb] below meth c H locs 600000 7302250 (lw_Z below #[Value.ref bb] s) (F0 m 304 ls []) := by
  obtain ⟨hx, hb, hr, hml, hown, hts0, hX, hbl, hlocks, hgv⟩ := id C0
  have hts : ∀ w ∈ TB, w.before #[Value.ref bb] s = true := fun w h => hts0 w (List.mem_filter.mp h).1
  have hown : s.vm.findClass RL = some m.cls := hown
  have hF : CallFix p m c code 4 s #[Value.ref bb] TB RL := ⟨hx, hb, hml, hown, hts⟩
  have hbA : ¬ A bb := fun z => absurd (hA2 bb z) (by omega)
  refine lv_aload_n hx hb dL_law_304 rfl (lv_at hl 2 rfl) ?_
  refine lv_aload_n hx hb dL_law_305 rfl (lv_at hl 3 rfl) ?_
  refine lv_iload_n hx hb dL_law_306 rfl (lv_at hl 0 rfl) ?_
  refine lv_iconst (v := 1) hx hb dL_law_307 (by decide) ?_
  refine lv_iadd hx hb dL_law_308 ?_
  refine x_seti 1 (by decide) ?_
  refine va_sld hx hb hX hbl hbA hS (vp_in_nI (n := 1) (by omega) (by omega)) dL_law_309 ?_
  refine x_seti (xs 1) rfl ?_
  refine lv_aload_n hx hb dL_law_310 rfl (lv_at hl 3 rfl) ?_
  refine lv_iload_n hx hb dL_law_311 rfl (lv_at hl 0 rfl) ?_
  refine lv_iconst (v := 2) hx hb dL_law_312 (by decide) ?_
  refine lv_iadd hx hb dL_law_313 ?_
  refine x_seti 2 (by decide) ?_
  refine va_sld hx hb hX hbl hbA hS (vp_in_nI (n := 2) (by omega) (by omega)) dL_law_314 ?_
  refine x_seti (xs 2) rfl ?_
  refine lv_aload_n hx hb dL_law_315 rfl (lv_at hl 3 rfl) ?_
  refine lv_iload_n hx hb dL_law_316 rfl (lv_at hl 0 rfl) ?_
  refine lv_iconst (v := 3) hx hb dL_law_317 (by decide) ?_
  refine lv_iadd hx hb dL_law_318 ?_
  refine x_seti 3 (by decide) ?_
  refine va_sld hx hb hX hbl hbA hS (vp_in_nI (n := 3) (by omega) (by omega)) dL_law_319 ?_
  refine x_seti (xs 3) rfl ?_
  refine lv_aload_n hx hb dL_law_320 rfl (lv_at hl 3 rfl) ?_
  refine lv_iload_n hx hb dL_law_321 rfl (lv_at hl 0 rfl) ?_
  refine lv_iconst (v := 4) hx hb dL_law_322 (by decide) ?_
  refine lv_iadd hx hb dL_law_323 ?_
  refine x_seti 4 (by decide) ?_
  refine va_sld hx hb hX hbl hbA hS (vp_in_nI (n := 4) (by omega) (by omega)) dL_law_324 ?_
  refine x_seti (xs 4) rfl ?_
  refine lv_aload_n hx hb dL_law_325 rfl (lv_at hl 3 rfl) ?_
  refine lv_iload_n hx hb dL_law_326 rfl (lv_at hl 0 rfl) ?_
  refine lv_iconst (v := 5) hx hb dL_law_327 (by decide) ?_
  refine lv_iadd hx hb dL_law_328 ?_
  refine x_seti 5 (by decide) ?_
  refine va_sld hx hb hX hbl hbA hS (vp_in_nI (n := 5) (by omega) (by omega)) dL_law_329 ?_
  refine x_seti (xs 5) rfl ?_
  refine x_wVi (wr := mW t b) hF (c_X11_feed l D t a (xs 1) (xs 2) (xs 3) (xs 4) (xs 5) H.size) m_470 m_471 m_472 m_1 m_473 hd_X11_feed ⟨Nat.le_of_ble_eq_true rfl, Nat.le_of_ble_eq_true rfl⟩ hK hN hP hD hS hA 0 (ci := 11) rfl rfl rfl [0, 1, 2] [109, 110, 111, 112, 113, 114, 115, 116, 117, 118, 119, 120, 121, 122, 123, 124, 125, 126, 127, 128] rfl rfl (by decide) (by decide) (by decide) hl.1 rfl (Nat.le_of_ble_eq_true rfl) dL_law_330 ⟨Nat.le_of_ble_eq_true rfl, Nat.le_of_ble_eq_true rfl⟩ (fun H locs hP hD hS => ?_)
  refine W.widen (k := 600000) (n := 7302250) (Nat.le_of_ble_eq_true rfl) (Nat.le_of_ble_eq_true rfl) ?_
  refine lv_aload_n hx hb dL_law_333 rfl (lv_at hl 1 rfl) ?_
  refine lv_aload_n hx hb dL_law_334 rfl (lv_at hl 3 rfl) ?_
  refine lv_iload_n hx hb dL_law_335 rfl (lv_at hl 0 rfl) ?_
  refine lv_iconst (v := 1) hx hb dL_law_336 (by decide) ?_
  refine lv_iadd hx hb dL_law_337 ?_
  refine x_seti 1 (by decide) ?_
  refine va_sld hx hb hX hbl hbA hS (vp_in_nI (n := 1) (by omega) (by omega)) dL_law_338 ?_
  refine x_seti (xs 1) rfl ?_
  refine lv_aload_n hx hb dL_law_339 rfl (lv_at hl 3 rfl) ?_
  refine lv_iload_n hx hb dL_law_340 rfl (lv_at hl 0 rfl) ?_
  refine lv_iconst (v := 2) hx hb dL_law_341 (by decide) ?_
  refine lv_iadd hx hb dL_law_342 ?_
  refine x_seti 2 (by decide) ?_
  refine va_sld hx hb hX hbl hbA hS (vp_in_nI (n := 2) (by omega) (by omega)) dL_law_343 ?_
  refine x_seti (xs 2) rfl ?_
  refine lv_aload_n hx hb dL_law_344 rfl (lv_at hl 3 rfl) ?_
  refine lv_iload_n hx hb dL_law_345 rfl (lv_at hl 0 rfl) ?_
  refine lv_iconst (v := 3) hx hb dL_law_346 (by decide) ?_
  refine lv_iadd hx hb dL_law_347 ?_
  refine x_seti 3 (by decide) ?_
  refine va_sld hx hb hX hbl hbA hS (vp_in_nI (n := 3) (by omega) (by omega)) dL_law_348 ?_
  refine x_seti (xs 3) rfl ?_
  refine lv_aload_n hx hb dL_law_349 rfl (lv_at hl 3 rfl) ?_
  refine lv_iload_n hx hb dL_law_350 rfl (lv_at hl 0 rfl) ?_
  refine lv_iconst (v := 4) hx hb dL_law_351 (by decide) ?_
  refine lv_iadd hx hb dL_law_352 ?_
  refine x_seti 4 (by decide) ?_
  refine va_sld hx hb hX hbl hbA hS (vp_in_nI (n := 4) (by omega) (by omega)) dL_law_353 ?_
  refine x_seti (xs 4) rfl ?_
  refine lv_aload_n hx hb dL_law_354 rfl (lv_at hl 3 rfl) ?_
  refine lv_iload_n hx hb dL_law_355 rfl (lv_at hl 0 rfl) ?_
  refine lv_iconst (v := 5) hx hb dL_law_356 (by decide) ?_
  refine lv_iadd hx hb dL_law_357 ?_
  refine x_seti 5 (by decide) ?_
  refine va_sld hx hb hX hbl hbA hS (vp_in_nI (n := 5) (by omega) (by omega)) dL_law_358 ?_
  refine x_seti (xs 5) rfl ?_
  refine x_wVi (wr := []) hF (c_X12_feed l D t b (xs 1) (xs 2) (xs 3) (xs 4) (xs 5) H.size) m_1476 m_1477 m_1478 m_13 m_1479 hd_X12_feed ⟨Nat.le_of_ble_eq_true rfl, Nat.le_of_ble_eq_true rfl⟩ hK hN hP hD hS hA 0 (ci := 12) rfl rfl rfl [0, 4, 5] [] rfl rfl (by decide) (by decide) (by decide) hl.1 rfl (Nat.le_of_ble_eq_true rfl) dL_law_359 ⟨Nat.le_of_ble_eq_true rfl, Nat.le_of_ble_eq_true rfl⟩ (fun H locs hP hD hS => ?_)
  refine W.widen (k := 600000) (n := 7302250) (Nat.le_of_ble_eq_true rfl) (Nat.le_of_ble_eq_true rfl) ?_
  refine lv_icmp_eq (tgt := 2006) hx hb dL_law_362 (by decide) (fun _ => ?_) (fun c9 => absurd rfl c9)
  refine lv_iinc (v := 6) (lv' := [(3, .int 6), (2, .ref (b 0)), (1, .ref (a 0)), (0, .ref bb)]) hx hb dL_law_2006 hl (k := 0) rfl (by decide) (by decide) rfl (fun ls hl => ?_)
  refine lv_goto (tgt := 18) hx hb dL_law_2009 (by decide) ?_
  exact law_end C0 hL2 hA2 hS (lv_sub hl [0, 3] rfl)

set_option maxHeartbeats 4000000 in
set_option maxRecDepth 100000 in
theorem law_1 {p : Program} {l : Launch} {e : Env} {s : State} {m : MethodId} {below : List Frame} {meth : Method} {c : Code} {bb L : Nat} {xs : Nat → Int32} {A : Nat → Prop} {D : va_G} {t : Nat → ClassId} {a b : Nat → Nat} (C0 : lw_At p s m meth c bb L xs) (hL : 6 ≤ L) (hL2 : L ≤ 6) (hA : ∀ q, s.heap.size ≤ q → A q) (hA2 : ∀ q, A q → s.heap.size ≤ q) (hK : va_K D classes (TY t) s) (hN : NW s) {H : Heap} {locs : List Loc} (hP : va_P D classes (cW t a ++ mW t b) H) (hD : va_D A (cW t a ++ mW t b)) (hS : va_S A s.heap H locs) {ls : Array Slot} (hl : lv_has ls 4 [(3, .int 0), (2, .ref (b 0)), (1, .ref (a 0)), (0, .ref bb)]) : W p l e room_1 s m #[Value.ref bb] below meth c H locs 600000 7302250 (lw_Z below #[Value.ref bb] s) (F0 m 367 ls []) := by
  obtain ⟨hx, hb, hr, hml, hown, hts0, hX, hbl, hlocks, hgv⟩ := id C0
  have hts : ∀ w ∈ TB, w.before #[Value.ref bb] s = true := fun w h => hts0 w (List.mem_filter.mp h).1
  have hown : s.vm.findClass RL = some m.cls := hown
  have hF : CallFix p m c code 4 s #[Value.ref bb] TB RL := ⟨hx, hb, hml, hown, hts⟩
  have hbA : ¬ A bb := fun z => absurd (hA2 bb z) (by omega)
  refine lv_aload_n hx hb dL_law_367 rfl (lv_at hl 2 rfl) ?_
  refine lv_aload_n hx hb dL_law_368 rfl (lv_at hl 3 rfl) ?_
  refine lv_iload_n hx hb dL_law_369 rfl (lv_at hl 0 rfl) ?_
  refine lv_iconst (v := 1) hx hb dL_law_370 (by decide) ?_
  refine lv_iadd hx hb dL_law_371 ?_
  refine x_seti 1 (by decide) ?_
  refine va_sld hx hb hX hbl hbA hS (vp_in_nI (n := 1) (by omega) (by omega)) dL_law_372 ?_
  refine x_seti (xs 1) rfl ?_
  refine x_wVi (wr := mW t b) hF (c_X11_end l D t a (xs 1) H.size) m_482 m_483 m_484 m_1 m_485 hd_X11_end ⟨Nat.le_of_ble_eq_true rfl, Nat.le_of_ble_eq_true rfl⟩ hK hN hP hD hS hA 0 (ci := 11) rfl rfl rfl [0, 1] [109, 110, 111, 112, 113, 114, 115, 116, 117, 118, 119, 120, 121, 122, 123, 124, 125, 126, 127, 128] rfl rfl (by decide) (by decide) (by decide) hl.1 rfl (Nat.le_of_ble_eq_true rfl) dL_law_373 ⟨Nat.le_of_ble_eq_true rfl, Nat.le_of_ble_eq_true rfl⟩ (fun H locs hP hD hS => ?_)
  refine W.widen (k := 600000) (n := 7302250) (Nat.le_of_ble_eq_true rfl) (Nat.le_of_ble_eq_true rfl) ?_
  refine lv_aload_n hx hb dL_law_376 rfl (lv_at hl 1 rfl) ?_
  refine lv_aload_n hx hb dL_law_377 rfl (lv_at hl 3 rfl) ?_
  refine lv_iload_n hx hb dL_law_378 rfl (lv_at hl 0 rfl) ?_
  refine lv_iconst (v := 1) hx hb dL_law_379 (by decide) ?_
  refine lv_iadd hx hb dL_law_380 ?_
  refine x_seti 1 (by decide) ?_
  refine va_sld hx hb hX hbl hbA hS (vp_in_nI (n := 1) (by omega) (by omega)) dL_law_381 ?_
  refine x_seti (xs 1) rfl ?_
  refine x_wVi (wr := []) hF (c_X12_end l D t b (xs 1) H.size) m_1480 m_1481 m_1482 m_13 m_1483 hd_X12_end ⟨Nat.le_of_ble_eq_true rfl, Nat.le_of_ble_eq_true rfl⟩ hK hN hP hD hS hA 0 (ci := 12) rfl rfl rfl [0] [] rfl rfl (by decide) (by decide) (by decide) hl.1 rfl (Nat.le_of_ble_eq_true rfl) dL_law_382 ⟨Nat.le_of_ble_eq_true rfl, Nat.le_of_ble_eq_true rfl⟩ (fun H locs hP hD hS => ?_)
  refine W.widen (k := 600000) (n := 7302250) (Nat.le_of_ble_eq_true rfl) (Nat.le_of_ble_eq_true rfl) ?_
  refine lv_icmp_eq (tgt := 2006) hx hb dL_law_385 (by decide) (fun _ => ?_) (fun c9 => absurd rfl c9)
  refine lv_iinc (v := 6) (lv' := [(3, .int 6), (2, .ref (b 0)), (1, .ref (a 0)), (0, .ref bb)]) hx hb dL_law_2006 hl (k := 0) rfl (by decide) (by decide) rfl (fun ls hl => ?_)
  refine lv_goto (tgt := 18) hx hb dL_law_2009 (by decide) ?_
  exact law_end C0 hL2 hA2 hS (lv_sub hl [0, 3] rfl)

set_option maxHeartbeats 4000000 in
set_option maxRecDepth 100000 in
theorem law_2 {p : Program} {l : Launch} {e : Env} {s : State} {m : MethodId} {below : List Frame} {meth : Method} {c : Code} {bb L : Nat} {xs : Nat → Int32} {A : Nat → Prop} {D : va_G} {t : Nat → ClassId} {a b : Nat → Nat} (C0 : lw_At p s m meth c bb L xs) (hL : 6 ≤ L) (hL2 : L ≤ 6) (hA : ∀ q, s.heap.size ≤ q → A q) (hA2 : ∀ q, A q → s.heap.size ≤ q) (hK : va_K D classes (TY t) s) (hN : NW s) {H : Heap} {locs : List Loc} (hP : va_P D classes (cW t a ++ mW t b) H) (hD : va_D A (cW t a ++ mW t b)) (hS : va_S A s.heap H locs) {ls : Array Slot} (hl : lv_has ls 4 [(3, .int 0), (2, .ref (b 0)), (1, .ref (a 0)), (0, .ref bb)]) : W p l e room_1 s m #[Value.ref bb] below meth c H locs 600000 7302250 (lw_Z below #[Value.ref bb] s) (F0 m 390 ls []) := by
  obtain ⟨hx, hb, hr, hml, hown, hts0, hX, hbl, hlocks, hgv⟩ := id C0
  have hts : ∀ w ∈ TB, w.before #[Value.ref bb] s = true := fun w h => hts0 w (List.mem_filter.mp h).1
  have hown : s.vm.findClass RL = some m.cls := hown
  have hF : CallFix p m c code 4 s #[Value.ref bb] TB RL := ⟨hx, hb, hml, hown, hts⟩
  have hbA : ¬ A bb := fun z => absurd (hA2 bb z) (by omega)
  refine lv_aload_n hx hb dL_law_390 rfl (lv_at hl 2 rfl) ?_
  refine x_wVi (wr := mW t b) hF (c_X11_chamber l D t a H.size) m_486 m_487 m_488 m_1 m_489 hd_X11_chamber ⟨Nat.le_of_ble_eq_true rfl, Nat.le_of_ble_eq_true rfl⟩ hK hN hP hD hS hA 0 (ci := 11) rfl rfl rfl [0, 3, 1, 14, 15, 16, 17, 18, 19, 20, 21, 22, 23, 24, 25, 26, 27, 28, 29, 30, 31, 32, 33, 34, 35, 36, 37, 38, 39, 40, 41, 42, 43, 44, 45, 46, 47, 48, 49, 50, 51] [109, 110, 111, 112, 113, 114, 115, 116, 117, 118, 119, 120, 121, 122, 123, 124, 125, 126, 127, 128] rfl rfl (by decide) (by decide) (by decide) hl.1 rfl (Nat.le_of_ble_eq_true rfl) dL_law_391 ⟨Nat.le_of_ble_eq_true rfl, Nat.le_of_ble_eq_true rfl⟩ (fun H locs hP hD hS => ?_)
  refine W.widen (k := 600000) (n := 7302250) (Nat.le_of_ble_eq_true rfl) (Nat.le_of_ble_eq_true rfl) ?_
  refine lv_aload_n hx hb dL_law_394 rfl (lv_at hl 1 rfl) ?_
  refine x_wVi (wr := []) hF (c_X12_chamber l D t b H.size) m_1488 m_1489 m_1490 m_13 m_1491 hd_X12_chamber ⟨Nat.le_of_ble_eq_true rfl, Nat.le_of_ble_eq_true rfl⟩ hK hN hP hD hS hA 0 (ci := 12) rfl rfl rfl [0, 1, 6] [] rfl rfl (by decide) (by decide) (by decide) hl.1 rfl (Nat.le_of_ble_eq_true rfl) dL_law_395 ⟨Nat.le_of_ble_eq_true rfl, Nat.le_of_ble_eq_true rfl⟩ (fun H locs hP hD hS => ?_)
  refine W.widen (k := 600000) (n := 7302250) (Nat.le_of_ble_eq_true rfl) (Nat.le_of_ble_eq_true rfl) ?_
  refine lv_icmp_eq (tgt := 2006) hx hb dL_law_398 (by decide) (fun _ => ?_) (fun c9 => absurd rfl c9)
  refine lv_iinc (v := 6) (lv' := [(3, .int 6), (2, .ref (b 0)), (1, .ref (a 0)), (0, .ref bb)]) hx hb dL_law_2006 hl (k := 0) rfl (by decide) (by decide) rfl (fun ls hl => ?_)
  refine lv_goto (tgt := 18) hx hb dL_law_2009 (by decide) ?_
  exact law_end C0 hL2 hA2 hS (lv_sub hl [0, 3] rfl)

set_option maxHeartbeats 4000000 in
set_option maxRecDepth 100000 in
theorem law_3 {p : Program} {l : Launch} {e : Env} {s : State} {m : MethodId} {below : List Frame} {meth : Method} {c : Code} {bb L : Nat} {xs : Nat → Int32} {A : Nat → Prop} {D : va_G} {t : Nat → ClassId} {a b : Nat → Nat} (C0 : lw_At p s m meth c bb L xs) (hL : 6 ≤ L) (hL2 : L ≤ 6) (hA : ∀ q, s.heap.size ≤ q → A q) (hA2 : ∀ q, A q → s.heap.size ≤ q) (hK : va_K D classes (TY t) s) (hN : NW s) {H : Heap} {locs : List Loc} (hP : va_P D classes (cW t a ++ mW t b) H) (hD : va_D A (cW t a ++ mW t b)) (hS : va_S A s.heap H locs) {ls : Array Slot} (hl : lv_has ls 4 [(3, .int 0), (2, .ref (b 0)), (1, .ref (a 0)), (0, .ref bb)]) : W p l e room_1 s m #[Value.ref bb] below meth c H locs 600000 7302250 (lw_Z below #[Value.ref bb] s) (F0 m 403 ls []) := by
  obtain ⟨hx, hb, hr, hml, hown, hts0, hX, hbl, hlocks, hgv⟩ := id C0
  have hts : ∀ w ∈ TB, w.before #[Value.ref bb] s = true := fun w h => hts0 w (List.mem_filter.mp h).1
  have hown : s.vm.findClass RL = some m.cls := hown
  have hF : CallFix p m c code 4 s #[Value.ref bb] TB RL := ⟨hx, hb, hml, hown, hts⟩
  have hbA : ¬ A bb := fun z => absurd (hA2 bb z) (by omega)
  refine lv_aload_n hx hb dL_law_403 rfl (lv_at hl 2 rfl) ?_
  refine lv_aload_n hx hb dL_law_404 rfl (lv_at hl 3 rfl) ?_
  refine lv_iload_n hx hb dL_law_405 rfl (lv_at hl 0 rfl) ?_
  refine lv_iconst (v := 1) hx hb dL_law_406 (by decide) ?_
  refine lv_iadd hx hb dL_law_407 ?_
  refine x_seti 1 (by decide) ?_
  refine va_sld hx hb hX hbl hbA hS (vp_in_nI (n := 1) (by omega) (by omega)) dL_law_408 ?_
  refine x_seti (xs 1) rfl ?_
  refine x_pV hF (c_X11_fault l D t a (xs 1)) m_694 m_695 m_696 m_1 m_697 hd_X11_fault ⟨Nat.le_of_ble_eq_true rfl, Nat.le_of_ble_eq_true rfl⟩ hK hN hP hS [0, 3] rfl 0 (ci := 11) rfl rfl rfl hl.1 rfl (Nat.le_of_ble_eq_true rfl) dL_law_409 ⟨Nat.le_of_ble_eq_true rfl, Nat.le_of_ble_eq_true rfl⟩ (fun H locs hP hS => ?_)
  refine lv_aload_n hx hb dL_law_412 rfl (lv_at hl 1 rfl) ?_
  refine lv_aload_n hx hb dL_law_413 rfl (lv_at hl 3 rfl) ?_
  refine lv_iload_n hx hb dL_law_414 rfl (lv_at hl 0 rfl) ?_
  refine lv_iconst (v := 1) hx hb dL_law_415 (by decide) ?_
  refine lv_iadd hx hb dL_law_416 ?_
  refine x_seti 1 (by decide) ?_
  refine va_sld hx hb hX hbl hbA hS (vp_in_nI (n := 1) (by omega) (by omega)) dL_law_417 ?_
  refine x_seti (xs 1) rfl ?_
  refine x_pV hF (c_X12_fault l D t b (xs 1)) m_1484 m_1485 m_1486 m_13 m_1487 hd_X12_fault ⟨Nat.le_of_ble_eq_true rfl, Nat.le_of_ble_eq_true rfl⟩ hK hN hP hS [109] rfl 0 (ci := 12) rfl rfl rfl hl.1 rfl (Nat.le_of_ble_eq_true rfl) dL_law_418 ⟨Nat.le_of_ble_eq_true rfl, Nat.le_of_ble_eq_true rfl⟩ (fun H locs hP hS => ?_)
  refine lv_icmp_eq (tgt := 2006) hx hb dL_law_421 (by decide) (fun _ => ?_) (fun c9 => absurd rfl c9)
  refine lv_iinc (v := 6) (lv' := [(3, .int 6), (2, .ref (b 0)), (1, .ref (a 0)), (0, .ref bb)]) hx hb dL_law_2006 hl (k := 0) rfl (by decide) (by decide) rfl (fun ls hl => ?_)
  refine lv_goto (tgt := 18) hx hb dL_law_2009 (by decide) ?_
  exact law_end C0 hL2 hA2 hS (lv_sub hl [0, 3] rfl)

set_option maxHeartbeats 4000000 in
set_option maxRecDepth 100000 in
theorem law_4 {p : Program} {l : Launch} {e : Env} {s : State} {m : MethodId} {below : List Frame} {meth : Method} {c : Code} {bb L : Nat} {xs : Nat → Int32} {A : Nat → Prop} {D : va_G} {t : Nat → ClassId} {a b : Nat → Nat} (C0 : lw_At p s m meth c bb L xs) (hL : 6 ≤ L) (hL2 : L ≤ 6) (hA : ∀ q, s.heap.size ≤ q → A q) (hA2 : ∀ q, A q → s.heap.size ≤ q) (hK : va_K D classes (TY t) s) (hN : NW s) {H : Heap} {locs : List Loc} (hP : va_P D classes (cW t a ++ mW t b) H) (hD : va_D A (cW t a ++ mW t b)) (hS : va_S A s.heap H locs) {ls : Array Slot} (hl : lv_has ls 4 [(3, .int 0), (2, .ref (b 0)), (1, .ref (a 0)), (0, .ref bb)]) : W p l e room_1 s m #[Value.ref bb] below meth c H locs 600000 7302250 (lw_Z below #[Value.ref bb] s) (F0 m 426 ls []) := by
  obtain ⟨hx, hb, hr, hml, hown, hts0, hX, hbl, hlocks, hgv⟩ := id C0
  have hts : ∀ w ∈ TB, w.before #[Value.ref bb] s = true := fun w h => hts0 w (List.mem_filter.mp h).1
  have hown : s.vm.findClass RL = some m.cls := hown
  have hF : CallFix p m c code 4 s #[Value.ref bb] TB RL := ⟨hx, hb, hml, hown, hts⟩
  have hbA : ¬ A bb := fun z => absurd (hA2 bb z) (by omega)
  refine lv_aload_n hx hb dL_law_426 rfl (lv_at hl 2 rfl) ?_
  refine lv_aload_n hx hb dL_law_427 rfl (lv_at hl 3 rfl) ?_
  refine lv_iload_n hx hb dL_law_428 rfl (lv_at hl 0 rfl) ?_
  refine lv_iconst (v := 1) hx hb dL_law_429 (by decide) ?_
  refine lv_iadd hx hb dL_law_430 ?_
  refine x_seti 1 (by decide) ?_
  refine va_sld hx hb hX hbl hbA hS (vp_in_nI (n := 1) (by omega) (by omega)) dL_law_431 ?_
  refine x_seti (xs 1) rfl ?_
  refine lv_aload_n hx hb dL_law_432 rfl (lv_at hl 3 rfl) ?_
  refine lv_iload_n hx hb dL_law_433 rfl (lv_at hl 0 rfl) ?_
  refine lv_iconst (v := 2) hx hb dL_law_434 (by decide) ?_
  refine lv_iadd hx hb dL_law_435 ?_
  refine x_seti 2 (by decide) ?_
  refine va_sld hx hb hX hbl hbA hS (vp_in_nI (n := 2) (by omega) (by omega)) dL_law_436 ?_
  refine x_seti (xs 2) rfl ?_
  refine x_pV hF (c_X11_word l D t a (xs 1) (xs 2)) m_698 m_699 m_700 m_1 m_701 hd_X11_word ⟨Nat.le_of_ble_eq_true rfl, Nat.le_of_ble_eq_true rfl⟩ hK hN hP hS [0, 33] rfl 0 (ci := 11) rfl rfl rfl hl.1 rfl (Nat.le_of_ble_eq_true rfl) dL_law_437 ⟨Nat.le_of_ble_eq_true rfl, Nat.le_of_ble_eq_true rfl⟩ (fun H locs hP hS => ?_)
  refine lv_aload_n hx hb dL_law_440 rfl (lv_at hl 1 rfl) ?_
  refine lv_aload_n hx hb dL_law_441 rfl (lv_at hl 3 rfl) ?_
  refine lv_iload_n hx hb dL_law_442 rfl (lv_at hl 0 rfl) ?_
  refine lv_iconst (v := 1) hx hb dL_law_443 (by decide) ?_
  refine lv_iadd hx hb dL_law_444 ?_
  refine x_seti 1 (by decide) ?_
  refine va_sld hx hb hX hbl hbA hS (vp_in_nI (n := 1) (by omega) (by omega)) dL_law_445 ?_
  refine x_seti (xs 1) rfl ?_
  refine lv_aload_n hx hb dL_law_446 rfl (lv_at hl 3 rfl) ?_
  refine lv_iload_n hx hb dL_law_447 rfl (lv_at hl 0 rfl) ?_
  refine lv_iconst (v := 2) hx hb dL_law_448 (by decide) ?_
  refine lv_iadd hx hb dL_law_449 ?_
  refine x_seti 2 (by decide) ?_
  refine va_sld hx hb hX hbl hbA hS (vp_in_nI (n := 2) (by omega) (by omega)) dL_law_450 ?_
  refine x_seti (xs 2) rfl ?_
  refine x_pV hF (c_X12_word l D t b (xs 1) (xs 2)) m_1603 m_1604 m_1605 m_13 m_1606 hd_X12_word ⟨Nat.le_of_ble_eq_true rfl, Nat.le_of_ble_eq_true rfl⟩ hK hN hP hS [109, 110] rfl 0 (ci := 12) rfl rfl rfl hl.1 rfl (Nat.le_of_ble_eq_true rfl) dL_law_451 ⟨Nat.le_of_ble_eq_true rfl, Nat.le_of_ble_eq_true rfl⟩ (fun H locs hP hS => ?_)
  refine lv_icmp_eq (tgt := 2006) hx hb dL_law_454 (by decide) (fun _ => ?_) (fun c9 => absurd rfl c9)
  refine lv_iinc (v := 6) (lv' := [(3, .int 6), (2, .ref (b 0)), (1, .ref (a 0)), (0, .ref bb)]) hx hb dL_law_2006 hl (k := 0) rfl (by decide) (by decide) rfl (fun ls hl => ?_)
  refine lv_goto (tgt := 18) hx hb dL_law_2009 (by decide) ?_
  exact law_end C0 hL2 hA2 hS (lv_sub hl [0, 3] rfl)

set_option maxHeartbeats 4000000 in
set_option maxRecDepth 100000 in
theorem law_5 {p : Program} {l : Launch} {e : Env} {s : State} {m : MethodId} {below : List Frame} {meth : Method} {c : Code} {bb L : Nat} {xs : Nat → Int32} {A : Nat → Prop} {D : va_G} {t : Nat → ClassId} {a b : Nat → Nat} (C0 : lw_At p s m meth c bb L xs) (hL : 6 ≤ L) (hL2 : L ≤ 6) (hA : ∀ q, s.heap.size ≤ q → A q) (hA2 : ∀ q, A q → s.heap.size ≤ q) (hK : va_K D classes (TY t) s) (hN : NW s) {H : Heap} {locs : List Loc} (hP : va_P D classes (cW t a ++ mW t b) H) (hD : va_D A (cW t a ++ mW t b)) (hS : va_S A s.heap H locs) {ls : Array Slot} (hl : lv_has ls 4 [(3, .int 0), (2, .ref (b 0)), (1, .ref (a 0)), (0, .ref bb)]) : W p l e room_1 s m #[Value.ref bb] below meth c H locs 600000 7302250 (lw_Z below #[Value.ref bb] s) (F0 m 459 ls []) := by
  obtain ⟨hx, hb, hr, hml, hown, hts0, hX, hbl, hlocks, hgv⟩ := id C0
  have hts : ∀ w ∈ TB, w.before #[Value.ref bb] s = true := fun w h => hts0 w (List.mem_filter.mp h).1
  have hown : s.vm.findClass RL = some m.cls := hown
  have hF : CallFix p m c code 4 s #[Value.ref bb] TB RL := ⟨hx, hb, hml, hown, hts⟩
  have hbA : ¬ A bb := fun z => absurd (hA2 bb z) (by omega)
  refine lv_aload_n hx hb dL_law_459 rfl (lv_at hl 2 rfl) ?_
  refine lv_aload_n hx hb dL_law_460 rfl (lv_at hl 3 rfl) ?_
  refine lv_iload_n hx hb dL_law_461 rfl (lv_at hl 0 rfl) ?_
  refine lv_iconst (v := 1) hx hb dL_law_462 (by decide) ?_
  refine lv_iadd hx hb dL_law_463 ?_
  refine x_seti 1 (by decide) ?_
  refine va_sld hx hb hX hbl hbA hS (vp_in_nI (n := 1) (by omega) (by omega)) dL_law_464 ?_
  refine x_seti (xs 1) rfl ?_
  refine lv_aload_n hx hb dL_law_465 rfl (lv_at hl 3 rfl) ?_
  refine lv_iload_n hx hb dL_law_466 rfl (lv_at hl 0 rfl) ?_
  refine lv_iconst (v := 2) hx hb dL_law_467 (by decide) ?_
  refine lv_iadd hx hb dL_law_468 ?_
  refine x_seti 2 (by decide) ?_
  refine va_sld hx hb hX hbl hbA hS (vp_in_nI (n := 2) (by omega) (by omega)) dL_law_469 ?_
  refine x_seti (xs 2) rfl ?_
  refine x_pV hF (c_X11_speaker l D t a (xs 1) (xs 2)) m_709 m_710 m_711 m_1 m_712 hd_X11_speaker ⟨Nat.le_of_ble_eq_true rfl, Nat.le_of_ble_eq_true rfl⟩ hK hN hP hS [0, 33] rfl 0 (ci := 11) rfl rfl rfl hl.1 rfl (Nat.le_of_ble_eq_true rfl) dL_law_470 ⟨Nat.le_of_ble_eq_true rfl, Nat.le_of_ble_eq_true rfl⟩ (fun H locs hP hS => ?_)
  refine lv_aload_n hx hb dL_law_473 rfl (lv_at hl 1 rfl) ?_
  refine lv_aload_n hx hb dL_law_474 rfl (lv_at hl 3 rfl) ?_
  refine lv_iload_n hx hb dL_law_475 rfl (lv_at hl 0 rfl) ?_
  refine lv_iconst (v := 1) hx hb dL_law_476 (by decide) ?_
  refine lv_iadd hx hb dL_law_477 ?_
  refine x_seti 1 (by decide) ?_
  refine va_sld hx hb hX hbl hbA hS (vp_in_nI (n := 1) (by omega) (by omega)) dL_law_478 ?_
  refine x_seti (xs 1) rfl ?_
  refine lv_aload_n hx hb dL_law_479 rfl (lv_at hl 3 rfl) ?_
  refine lv_iload_n hx hb dL_law_480 rfl (lv_at hl 0 rfl) ?_
  refine lv_iconst (v := 2) hx hb dL_law_481 (by decide) ?_
  refine lv_iadd hx hb dL_law_482 ?_
  refine x_seti 2 (by decide) ?_
  refine va_sld hx hb hX hbl hbA hS (vp_in_nI (n := 2) (by omega) (by omega)) dL_law_483 ?_
  refine x_seti (xs 2) rfl ?_
  refine x_pV hF (c_X12_speaker l D t b (xs 1) (xs 2)) m_1619 m_1620 m_1621 m_13 m_1622 hd_X12_speaker ⟨Nat.le_of_ble_eq_true rfl, Nat.le_of_ble_eq_true rfl⟩ hK hN hP hS [109, 110] rfl 0 (ci := 12) rfl rfl rfl hl.1 rfl (Nat.le_of_ble_eq_true rfl) dL_law_484 ⟨Nat.le_of_ble_eq_true rfl, Nat.le_of_ble_eq_true rfl⟩ (fun H locs hP hS => ?_)
  refine lv_icmp_eq (tgt := 2006) hx hb dL_law_487 (by decide) (fun _ => ?_) (fun c9 => absurd rfl c9)
  refine lv_iinc (v := 6) (lv' := [(3, .int 6), (2, .ref (b 0)), (1, .ref (a 0)), (0, .ref bb)]) hx hb dL_law_2006 hl (k := 0) rfl (by decide) (by decide) rfl (fun ls hl => ?_)
  refine lv_goto (tgt := 18) hx hb dL_law_2009 (by decide) ?_
  exact law_end C0 hL2 hA2 hS (lv_sub hl [0, 3] rfl)

set_option maxHeartbeats 4000000 in
set_option maxRecDepth 100000 in
theorem law_6 {p : Program} {l : Launch} {e : Env} {s : State} {m : MethodId} {below : List Frame} {meth : Method} {c : Code} {bb L : Nat} {xs : Nat → Int32} {A : Nat → Prop} {D : va_G} {t : Nat → ClassId} {a b : Nat → Nat} (C0 : lw_At p s m meth c bb L xs) (hL : 6 ≤ L) (hL2 : L ≤ 6) (hA : ∀ q, s.heap.size ≤ q → A q) (hA2 : ∀ q, A q → s.heap.size ≤ q) (hK : va_K D classes (TY t) s) (hN : NW s) {H : Heap} {locs : List Loc} (hP : va_P D classes (cW t a ++ mW t b) H) (hD : va_D A (cW t a ++ mW t b)) (hS : va_S A s.heap H locs) {ls : Array Slot} (hl : lv_has ls 4 [(3, .int 0), (2, .ref (b 0)), (1, .ref (a 0)), (0, .ref bb)]) : W p l e room_1 s m #[Value.ref bb] below meth c H locs 600000 7302250 (lw_Z below #[Value.ref bb] s) (F0 m 492 ls []) := by
  obtain ⟨hx, hb, hr, hml, hown, hts0, hX, hbl, hlocks, hgv⟩ := id C0
  have hts : ∀ w ∈ TB, w.before #[Value.ref bb] s = true := fun w h => hts0 w (List.mem_filter.mp h).1
  have hown : s.vm.findClass RL = some m.cls := hown
  have hF : CallFix p m c code 4 s #[Value.ref bb] TB RL := ⟨hx, hb, hml, hown, hts⟩
  have hbA : ¬ A bb := fun z => absurd (hA2 bb z) (by omega)
  refine lv_aload_n hx hb dL_law_492 rfl (lv_at hl 2 rfl) ?_
  refine lv_aload_n hx hb dL_law_493 rfl (lv_at hl 3 rfl) ?_
  refine lv_iload_n hx hb dL_law_494 rfl (lv_at hl 0 rfl) ?_
  refine lv_iconst (v := 1) hx hb dL_law_495 (by decide) ?_
  refine lv_iadd hx hb dL_law_496 ?_
  refine x_seti 1 (by decide) ?_
  refine va_sld hx hb hX hbl hbA hS (vp_in_nI (n := 1) (by omega) (by omega)) dL_law_497 ?_
  refine x_seti (xs 1) rfl ?_
  refine lv_aload_n hx hb dL_law_498 rfl (lv_at hl 3 rfl) ?_
  refine lv_iload_n hx hb dL_law_499 rfl (lv_at hl 0 rfl) ?_
  refine lv_iconst (v := 2) hx hb dL_law_500 (by decide) ?_
  refine lv_iadd hx hb dL_law_501 ?_
  refine x_seti 2 (by decide) ?_
  refine va_sld hx hb hX hbl hbA hS (vp_in_nI (n := 2) (by omega) (by omega)) dL_law_502 ?_
  refine x_seti (xs 2) rfl ?_
  refine x_pV hF (c_X11_district l D t a (xs 1) (xs 2)) m_717 m_718 m_719 m_1 m_720 hd_X11_district ⟨Nat.le_of_ble_eq_true rfl, Nat.le_of_ble_eq_true rfl⟩ hK hN hP hS [0, 33] rfl 0 (ci := 11) rfl rfl rfl hl.1 rfl (Nat.le_of_ble_eq_true rfl) dL_law_503 ⟨Nat.le_of_ble_eq_true rfl, Nat.le_of_ble_eq_true rfl⟩ (fun H locs hP hS => ?_)
  refine lv_aload_n hx hb dL_law_506 rfl (lv_at hl 1 rfl) ?_
  refine lv_aload_n hx hb dL_law_507 rfl (lv_at hl 3 rfl) ?_
  refine lv_iload_n hx hb dL_law_508 rfl (lv_at hl 0 rfl) ?_
  refine lv_iconst (v := 1) hx hb dL_law_509 (by decide) ?_
  refine lv_iadd hx hb dL_law_510 ?_
  refine x_seti 1 (by decide) ?_
  refine va_sld hx hb hX hbl hbA hS (vp_in_nI (n := 1) (by omega) (by omega)) dL_law_511 ?_
  refine x_seti (xs 1) rfl ?_
  refine lv_aload_n hx hb dL_law_512 rfl (lv_at hl 3 rfl) ?_
  refine lv_iload_n hx hb dL_law_513 rfl (lv_at hl 0 rfl) ?_
  refine lv_iconst (v := 2) hx hb dL_law_514 (by decide) ?_
  refine lv_iadd hx hb dL_law_515 ?_
  refine x_seti 2 (by decide) ?_
  refine va_sld hx hb hX hbl hbA hS (vp_in_nI (n := 2) (by omega) (by omega)) dL_law_516 ?_
  refine x_seti (xs 2) rfl ?_
  refine x_pV hF (c_X12_district l D t b (xs 1) (xs 2)) m_1632 m_1633 m_1634 m_13 m_1635 hd_X12_district ⟨Nat.le_of_ble_eq_true rfl, Nat.le_of_ble_eq_true rfl⟩ hK hN hP hS [109, 110] rfl 0 (ci := 12) rfl rfl rfl hl.1 rfl (Nat.le_of_ble_eq_true rfl) dL_law_517 ⟨Nat.le_of_ble_eq_true rfl, Nat.le_of_ble_eq_true rfl⟩ (fun H locs hP hS => ?_)
  refine lv_icmp_eq (tgt := 2006) hx hb dL_law_520 (by decide) (fun _ => ?_) (fun c9 => absurd rfl c9)
  refine lv_iinc (v := 6) (lv' := [(3, .int 6), (2, .ref (b 0)), (1, .ref (a 0)), (0, .ref bb)]) hx hb dL_law_2006 hl (k := 0) rfl (by decide) (by decide) rfl (fun ls hl => ?_)
  refine lv_goto (tgt := 18) hx hb dL_law_2009 (by decide) ?_
  exact law_end C0 hL2 hA2 hS (lv_sub hl [0, 3] rfl)

set_option maxHeartbeats 4000000 in
set_option maxRecDepth 100000 in
theorem law_7 {p : Program} {l : Launch} {e : Env} {s : State} {m : MethodId} {below : List Frame} {meth : Method} {c : Code} {bb L : Nat} {xs : Nat → Int32} {A : Nat → Prop} {D : va_G} {t : Nat → ClassId} {a b : Nat → Nat} (C0 : lw_At p s m meth c bb L xs) (hL : 6 ≤ L) (hL2 : L ≤ 6) (hA : ∀ q, s.heap.size ≤ q → A q) (hA2 : ∀ q, A q → s.heap.size ≤ q) (hK : va_K D classes (TY t) s) (hN : NW s) {H : Heap} {locs : List Loc} (hP : va_P D classes (cW t a ++ mW t b) H) (hD : va_D A (cW t a ++ mW t b)) (hS : va_S A s.heap H locs) {ls : Array Slot} (hl : lv_has ls 4 [(3, .int 0), (2, .ref (b 0)), (1, .ref (a 0)), (0, .ref bb)]) : W p l e room_1 s m #[Value.ref bb] below meth c H locs 600000 7302250 (lw_Z below #[Value.ref bb] s) (F0 m 525 ls []) := by
  obtain ⟨hx, hb, hr, hml, hown, hts0, hX, hbl, hlocks, hgv⟩ := id C0
  have hts : ∀ w ∈ TB, w.before #[Value.ref bb] s = true := fun w h => hts0 w (List.mem_filter.mp h).1
  have hown : s.vm.findClass RL = some m.cls := hown
  have hF : CallFix p m c code 4 s #[Value.ref bb] TB RL := ⟨hx, hb, hml, hown, hts⟩
  have hbA : ¬ A bb := fun z => absurd (hA2 bb z) (by omega)
  refine lv_aload_n hx hb dL_law_525 rfl (lv_at hl 2 rfl) ?_
  refine lv_aload_n hx hb dL_law_526 rfl (lv_at hl 3 rfl) ?_
  refine lv_iload_n hx hb dL_law_527 rfl (lv_at hl 0 rfl) ?_
  refine lv_iconst (v := 1) hx hb dL_law_528 (by decide) ?_
  refine lv_iadd hx hb dL_law_529 ?_
  refine x_seti 1 (by decide) ?_
  refine va_sld hx hb hX hbl hbA hS (vp_in_nI (n := 1) (by omega) (by omega)) dL_law_530 ?_
  refine x_seti (xs 1) rfl ?_
  refine lv_aload_n hx hb dL_law_531 rfl (lv_at hl 3 rfl) ?_
  refine lv_iload_n hx hb dL_law_532 rfl (lv_at hl 0 rfl) ?_
  refine lv_iconst (v := 2) hx hb dL_law_533 (by decide) ?_
  refine lv_iadd hx hb dL_law_534 ?_
  refine x_seti 2 (by decide) ?_
  refine va_sld hx hb hX hbl hbA hS (vp_in_nI (n := 2) (by omega) (by omega)) dL_law_535 ?_
  refine x_seti (xs 2) rfl ?_
  refine x_pV hF (c_X11_likes l D t a (xs 1) (xs 2)) m_742 m_743 m_744 m_1 m_745 hd_X11_likes ⟨Nat.le_of_ble_eq_true rfl, Nat.le_of_ble_eq_true rfl⟩ hK hN hP hS [0, 33] rfl 0 (ci := 11) rfl rfl rfl hl.1 rfl (Nat.le_of_ble_eq_true rfl) dL_law_536 ⟨Nat.le_of_ble_eq_true rfl, Nat.le_of_ble_eq_true rfl⟩ (fun H locs hP hS => ?_)
  refine lv_aload_n hx hb dL_law_539 rfl (lv_at hl 1 rfl) ?_
  refine lv_aload_n hx hb dL_law_540 rfl (lv_at hl 3 rfl) ?_
  refine lv_iload_n hx hb dL_law_541 rfl (lv_at hl 0 rfl) ?_
  refine lv_iconst (v := 1) hx hb dL_law_542 (by decide) ?_
  refine lv_iadd hx hb dL_law_543 ?_
  refine x_seti 1 (by decide) ?_
  refine va_sld hx hb hX hbl hbA hS (vp_in_nI (n := 1) (by omega) (by omega)) dL_law_544 ?_
  refine x_seti (xs 1) rfl ?_
  refine lv_aload_n hx hb dL_law_545 rfl (lv_at hl 3 rfl) ?_
  refine lv_iload_n hx hb dL_law_546 rfl (lv_at hl 0 rfl) ?_
  refine lv_iconst (v := 2) hx hb dL_law_547 (by decide) ?_
  refine lv_iadd hx hb dL_law_548 ?_
  refine x_seti 2 (by decide) ?_
  refine va_sld hx hb hX hbl hbA hS (vp_in_nI (n := 2) (by omega) (by omega)) dL_law_549 ?_
  refine x_seti (xs 2) rfl ?_
  refine x_pV hF (c_X12_likes l D t b (xs 1) (xs 2)) m_1660 m_1661 m_1662 m_13 m_1663 hd_X12_likes ⟨Nat.le_of_ble_eq_true rfl, Nat.le_of_ble_eq_true rfl⟩ hK hN hP hS [109, 110] rfl 0 (ci := 12) rfl rfl rfl hl.1 rfl (Nat.le_of_ble_eq_true rfl) dL_law_550 ⟨Nat.le_of_ble_eq_true rfl, Nat.le_of_ble_eq_true rfl⟩ (fun H locs hP hS => ?_)
  refine lv_icmp_eq (tgt := 2006) hx hb dL_law_553 (by decide) (fun _ => ?_) (fun c9 => absurd rfl c9)
  refine lv_iinc (v := 6) (lv' := [(3, .int 6), (2, .ref (b 0)), (1, .ref (a 0)), (0, .ref bb)]) hx hb dL_law_2006 hl (k := 0) rfl (by decide) (by decide) rfl (fun ls hl => ?_)
  refine lv_goto (tgt := 18) hx hb dL_law_2009 (by decide) ?_
  exact law_end C0 hL2 hA2 hS (lv_sub hl [0, 3] rfl)

set_option maxHeartbeats 4000000 in
set_option maxRecDepth 100000 in
theorem law_8 {p : Program} {l : Launch} {e : Env} {s : State} {m : MethodId} {below : List Frame} {meth : Method} {c : Code} {bb L : Nat} {xs : Nat → Int32} {A : Nat → Prop} {D : va_G} {t : Nat → ClassId} {a b : Nat → Nat} (C0 : lw_At p s m meth c bb L xs) (hL : 6 ≤ L) (hL2 : L ≤ 6) (hA : ∀ q, s.heap.size ≤ q → A q) (hA2 : ∀ q, A q → s.heap.size ≤ q) (hK : va_K D classes (TY t) s) (hN : NW s) {H : Heap} {locs : List Loc} (hP : va_P D classes (cW t a ++ mW t b) H) (hD : va_D A (cW t a ++ mW t b)) (hS : va_S A s.heap H locs) {ls : Array Slot} (hl : lv_has ls 4 [(3, .int 0), (2, .ref (b 0)), (1, .ref (a 0)), (0, .ref bb)]) : W p l e room_1 s m #[Value.ref bb] below meth c H locs 600000 7302250 (lw_Z below #[Value.ref bb] s) (F0 m 558 ls []) := by
  obtain ⟨hx, hb, hr, hml, hown, hts0, hX, hbl, hlocks, hgv⟩ := id C0
  have hts : ∀ w ∈ TB, w.before #[Value.ref bb] s = true := fun w h => hts0 w (List.mem_filter.mp h).1
  have hown : s.vm.findClass RL = some m.cls := hown
  have hF : CallFix p m c code 4 s #[Value.ref bb] TB RL := ⟨hx, hb, hml, hown, hts⟩
  have hbA : ¬ A bb := fun z => absurd (hA2 bb z) (by omega)
  refine lv_aload_n hx hb dL_law_558 rfl (lv_at hl 2 rfl) ?_
  refine lv_aload_n hx hb dL_law_559 rfl (lv_at hl 3 rfl) ?_
  refine lv_iload_n hx hb dL_law_560 rfl (lv_at hl 0 rfl) ?_
  refine lv_iconst (v := 1) hx hb dL_law_561 (by decide) ?_
  refine lv_iadd hx hb dL_law_562 ?_
  refine x_seti 1 (by decide) ?_
  refine va_sld hx hb hX hbl hbA hS (vp_in_nI (n := 1) (by omega) (by omega)) dL_law_563 ?_
  refine x_seti (xs 1) rfl ?_
  refine lv_aload_n hx hb dL_law_564 rfl (lv_at hl 3 rfl) ?_
  refine lv_iload_n hx hb dL_law_565 rfl (lv_at hl 0 rfl) ?_
  refine lv_iconst (v := 2) hx hb dL_law_566 (by decide) ?_
  refine lv_iadd hx hb dL_law_567 ?_
  refine x_seti 2 (by decide) ?_
  refine va_sld hx hb hX hbl hbA hS (vp_in_nI (n := 2) (by omega) (by omega)) dL_law_568 ?_
  refine x_seti (xs 2) rfl ?_
  refine x_pV hF (c_X11_order l D t a (xs 1) (xs 2)) m_758 m_759 m_760 m_1 m_761 hd_X11_order ⟨Nat.le_of_ble_eq_true rfl, Nat.le_of_ble_eq_true rfl⟩ hK hN hP hS [0, 33] rfl 0 (ci := 11) rfl rfl rfl hl.1 rfl (Nat.le_of_ble_eq_true rfl) dL_law_569 ⟨Nat.le_of_ble_eq_true rfl, Nat.le_of_ble_eq_true rfl⟩ (fun H locs hP hS => ?_)
  refine lv_aload_n hx hb dL_law_572 rfl (lv_at hl 1 rfl) ?_
  refine lv_aload_n hx hb dL_law_573 rfl (lv_at hl 3 rfl) ?_
  refine lv_iload_n hx hb dL_law_574 rfl (lv_at hl 0 rfl) ?_
  refine lv_iconst (v := 1) hx hb dL_law_575 (by decide) ?_
  refine lv_iadd hx hb dL_law_576 ?_
  refine x_seti 1 (by decide) ?_
  refine va_sld hx hb hX hbl hbA hS (vp_in_nI (n := 1) (by omega) (by omega)) dL_law_577 ?_
  refine x_seti (xs 1) rfl ?_
  refine lv_aload_n hx hb dL_law_578 rfl (lv_at hl 3 rfl) ?_
  refine lv_iload_n hx hb dL_law_579 rfl (lv_at hl 0 rfl) ?_
  refine lv_iconst (v := 2) hx hb dL_law_580 (by decide) ?_
  refine lv_iadd hx hb dL_law_581 ?_
  refine x_seti 2 (by decide) ?_
  refine va_sld hx hb hX hbl hbA hS (vp_in_nI (n := 2) (by omega) (by omega)) dL_law_582 ?_
  refine x_seti (xs 2) rfl ?_
  refine x_pV hF (c_X12_order l D t b (xs 1) (xs 2)) m_1671 m_1672 m_1673 m_13 m_1674 hd_X12_order ⟨Nat.le_of_ble_eq_true rfl, Nat.le_of_ble_eq_true rfl⟩ hK hN hP hS [109, 110] rfl 0 (ci := 12) rfl rfl rfl hl.1 rfl (Nat.le_of_ble_eq_true rfl) dL_law_583 ⟨Nat.le_of_ble_eq_true rfl, Nat.le_of_ble_eq_true rfl⟩ (fun H locs hP hS => ?_)
  refine lv_icmp_eq (tgt := 2006) hx hb dL_law_586 (by decide) (fun _ => ?_) (fun c9 => absurd rfl c9)
  refine lv_iinc (v := 6) (lv' := [(3, .int 6), (2, .ref (b 0)), (1, .ref (a 0)), (0, .ref bb)]) hx hb dL_law_2006 hl (k := 0) rfl (by decide) (by decide) rfl (fun ls hl => ?_)
  refine lv_goto (tgt := 18) hx hb dL_law_2009 (by decide) ?_
  exact law_end C0 hL2 hA2 hS (lv_sub hl [0, 3] rfl)

set_option maxHeartbeats 4000000 in
set_option maxRecDepth 100000 in
theorem law_9 {p : Program} {l : Launch} {e : Env} {s : State} {m : MethodId} {below : List Frame} {meth : Method} {c : Code} {bb L : Nat} {xs : Nat → Int32} {A : Nat → Prop} {D : va_G} {t : Nat → ClassId} {a b : Nat → Nat} (C0 : lw_At p s m meth c bb L xs) (hL : 6 ≤ L) (hL2 : L ≤ 6) (hA : ∀ q, s.heap.size ≤ q → A q) (hA2 : ∀ q, A q → s.heap.size ≤ q) (hK : va_K D classes (TY t) s) (hN : NW s) {H : Heap} {locs : List Loc} (hP : va_P D classes (cW t a ++ mW t b) H) (hD : va_D A (cW t a ++ mW t b)) (hS : va_S A s.heap H locs) {ls : Array Slot} (hl : lv_has ls 4 [(3, .int 0), (2, .ref (b 0)), (1, .ref (a 0)), (0, .ref bb)]) : W p l e room_1 s m #[Value.ref bb] below meth c H locs 600000 7302250 (lw_Z below #[Value.ref bb] s) (F0 m 591 ls []) := by
  obtain ⟨hx, hb, hr, hml, hown, hts0, hX, hbl, hlocks, hgv⟩ := id C0
  have hts : ∀ w ∈ TB, w.before #[Value.ref bb] s = true := fun w h => hts0 w (List.mem_filter.mp h).1
  have hown : s.vm.findClass RL = some m.cls := hown
  have hF : CallFix p m c code 4 s #[Value.ref bb] TB RL := ⟨hx, hb, hml, hown, hts⟩
  have hbA : ¬ A bb := fun z => absurd (hA2 bb z) (by omega)
  refine lv_aload_n hx hb dL_law_591 rfl (lv_at hl 2 rfl) ?_
  refine lv_aload_n hx hb dL_law_592 rfl (lv_at hl 3 rfl) ?_
  refine lv_iload_n hx hb dL_law_593 rfl (lv_at hl 0 rfl) ?_
  refine lv_iconst (v := 1) hx hb dL_law_594 (by decide) ?_
  refine lv_iadd hx hb dL_law_595 ?_
  refine x_seti 1 (by decide) ?_
  refine va_sld hx hb hX hbl hbA hS (vp_in_nI (n := 1) (by omega) (by omega)) dL_law_596 ?_
  refine x_seti (xs 1) rfl ?_
  refine x_pV hF (c_X11_votes l D t a (xs 1)) m_791 m_792 m_793 m_1 m_794 hd_X11_votes ⟨Nat.le_of_ble_eq_true rfl, Nat.le_of_ble_eq_true rfl⟩ hK hN hP hS [0, 33] rfl 0 (ci := 11) rfl rfl rfl hl.1 rfl (Nat.le_of_ble_eq_true rfl) dL_law_597 ⟨Nat.le_of_ble_eq_true rfl, Nat.le_of_ble_eq_true rfl⟩ (fun H locs hP hS => ?_)
  refine lv_aload_n hx hb dL_law_600 rfl (lv_at hl 1 rfl) ?_
  refine lv_aload_n hx hb dL_law_601 rfl (lv_at hl 3 rfl) ?_
  refine lv_iload_n hx hb dL_law_602 rfl (lv_at hl 0 rfl) ?_
  refine lv_iconst (v := 1) hx hb dL_law_603 (by decide) ?_
  refine lv_iadd hx hb dL_law_604 ?_
  refine x_seti 1 (by decide) ?_
  refine va_sld hx hb hX hbl hbA hS (vp_in_nI (n := 1) (by omega) (by omega)) dL_law_605 ?_
  refine x_seti (xs 1) rfl ?_
  refine x_pV hF (c_X12_votes l D t b (xs 1)) m_1691 m_1692 m_1693 m_13 m_1694 hd_X12_votes ⟨Nat.le_of_ble_eq_true rfl, Nat.le_of_ble_eq_true rfl⟩ hK hN hP hS [109, 110] rfl 0 (ci := 12) rfl rfl rfl hl.1 rfl (Nat.le_of_ble_eq_true rfl) dL_law_606 ⟨Nat.le_of_ble_eq_true rfl, Nat.le_of_ble_eq_true rfl⟩ (fun H locs hP hS => ?_)
  refine lv_icmp_eq (tgt := 2006) hx hb dL_law_609 (by decide) (fun _ => ?_) (fun c9 => absurd rfl c9)
  refine lv_iinc (v := 6) (lv' := [(3, .int 6), (2, .ref (b 0)), (1, .ref (a 0)), (0, .ref bb)]) hx hb dL_law_2006 hl (k := 0) rfl (by decide) (by decide) rfl (fun ls hl => ?_)
  refine lv_goto (tgt := 18) hx hb dL_law_2009 (by decide) ?_
  exact law_end C0 hL2 hA2 hS (lv_sub hl [0, 3] rfl)

set_option maxHeartbeats 4000000 in
set_option maxRecDepth 100000 in
theorem law_10 {p : Program} {l : Launch} {e : Env} {s : State} {m : MethodId} {below : List Frame} {meth : Method} {c : Code} {bb L : Nat} {xs : Nat → Int32} {A : Nat → Prop} {D : va_G} {t : Nat → ClassId} {a b : Nat → Nat} (C0 : lw_At p s m meth c bb L xs) (hL : 6 ≤ L) (hL2 : L ≤ 6) (hA : ∀ q, s.heap.size ≤ q → A q) (hA2 : ∀ q, A q → s.heap.size ≤ q) (hK : va_K D classes (TY t) s) (hN : NW s) {H : Heap} {locs : List Loc} (hP : va_P D classes (cW t a ++ mW t b) H) (hD : va_D A (cW t a ++ mW t b)) (hS : va_S A s.heap H locs) {ls : Array Slot} (hl : lv_has ls 4 [(3, .int 0), (2, .ref (b 0)), (1, .ref (a 0)), (0, .ref bb)]) : W p l e room_1 s m #[Value.ref bb] below meth c H locs 600000 7302250 (lw_Z below #[Value.ref bb] s) (F0 m 614 ls []) := by
  obtain ⟨hx, hb, hr, hml, hown, hts0, hX, hbl, hlocks, hgv⟩ := id C0
  have hts : ∀ w ∈ TB, w.before #[Value.ref bb] s = true := fun w h => hts0 w (List.mem_filter.mp h).1
  have hown : s.vm.findClass RL = some m.cls := hown
  have hF : CallFix p m c code 4 s #[Value.ref bb] TB RL := ⟨hx, hb, hml, hown, hts⟩
  have hbA : ¬ A bb := fun z => absurd (hA2 bb z) (by omega)
  refine lv_aload_n hx hb dL_law_614 rfl (lv_at hl 2 rfl) ?_
  refine lv_aload_n hx hb dL_law_615 rfl (lv_at hl 3 rfl) ?_
  refine lv_iload_n hx hb dL_law_616 rfl (lv_at hl 0 rfl) ?_
  refine lv_iconst (v := 1) hx hb dL_law_617 (by decide) ?_
  refine lv_iadd hx hb dL_law_618 ?_
  refine x_seti 1 (by decide) ?_
  refine va_sld hx hb hX hbl hbA hS (vp_in_nI (n := 1) (by omega) (by omega)) dL_law_619 ?_
  refine x_seti (xs 1) rfl ?_
  refine x_pV hF (c_X11_abstains l D t a (xs 1)) m_800 m_801 m_802 m_1 m_803 hd_X11_abstains ⟨Nat.le_of_ble_eq_true rfl, Nat.le_of_ble_eq_true rfl⟩ hK hN hP hS [0, 33] rfl 0 (ci := 11) rfl rfl rfl hl.1 rfl (Nat.le_of_ble_eq_true rfl) dL_law_620 ⟨Nat.le_of_ble_eq_true rfl, Nat.le_of_ble_eq_true rfl⟩ (fun H locs hP hS => ?_)
  refine lv_aload_n hx hb dL_law_623 rfl (lv_at hl 1 rfl) ?_
  refine lv_aload_n hx hb dL_law_624 rfl (lv_at hl 3 rfl) ?_
  refine lv_iload_n hx hb dL_law_625 rfl (lv_at hl 0 rfl) ?_
  refine lv_iconst (v := 1) hx hb dL_law_626 (by decide) ?_
  refine lv_iadd hx hb dL_law_627 ?_
  refine x_seti 1 (by decide) ?_
  refine va_sld hx hb hX hbl hbA hS (vp_in_nI (n := 1) (by omega) (by omega)) dL_law_628 ?_
  refine x_seti (xs 1) rfl ?_
  refine x_pV hF (c_X12_abstains l D t b (xs 1)) m_1703 m_1704 m_1705 m_13 m_1706 hd_X12_abstains ⟨Nat.le_of_ble_eq_true rfl, Nat.le_of_ble_eq_true rfl⟩ hK hN hP hS [109, 110] rfl 0 (ci := 12) rfl rfl rfl hl.1 rfl (Nat.le_of_ble_eq_true rfl) dL_law_629 ⟨Nat.le_of_ble_eq_true rfl, Nat.le_of_ble_eq_true rfl⟩ (fun H locs hP hS => ?_)
  refine lv_icmp_eq (tgt := 2006) hx hb dL_law_632 (by decide) (fun _ => ?_) (fun c9 => absurd rfl c9)
  refine lv_iinc (v := 6) (lv' := [(3, .int 6), (2, .ref (b 0)), (1, .ref (a 0)), (0, .ref bb)]) hx hb dL_law_2006 hl (k := 0) rfl (by decide) (by decide) rfl (fun ls hl => ?_)
  refine lv_goto (tgt := 18) hx hb dL_law_2009 (by decide) ?_
  exact law_end C0 hL2 hA2 hS (lv_sub hl [0, 3] rfl)

set_option maxHeartbeats 4000000 in
set_option maxRecDepth 100000 in
theorem law_11 {p : Program} {l : Launch} {e : Env} {s : State} {m : MethodId} {below : List Frame} {meth : Method} {c : Code} {bb L : Nat} {xs : Nat → Int32} {A : Nat → Prop} {D : va_G} {t : Nat → ClassId} {a b : Nat → Nat} (C0 : lw_At p s m meth c bb L xs) (hL : 6 ≤ L) (hL2 : L ≤ 6) (hA : ∀ q, s.heap.size ≤ q → A q) (hA2 : ∀ q, A q → s.heap.size ≤ q) (hK : va_K D classes (TY t) s) (hN : NW s) {H : Heap} {locs : List Loc} (hP : va_P D classes (cW t a ++ mW t b) H) (hD : va_D A (cW t a ++ mW t b)) (hS : va_S A s.heap H locs) {ls : Array Slot} (hl : lv_has ls 4 [(3, .int 0), (2, .ref (b 0)), (1, .ref (a 0)), (0, .ref bb)]) : W p l e room_1 s m #[Value.ref bb] below meth c H locs 600000 7302250 (lw_Z below #[Value.ref bb] s) (F0 m 637 ls []) := by
  obtain ⟨hx, hb, hr, hml, hown, hts0, hX, hbl, hlocks, hgv⟩ := id C0
  have hts : ∀ w ∈ TB, w.before #[Value.ref bb] s = true := fun w h => hts0 w (List.mem_filter.mp h).1
  have hown : s.vm.findClass RL = some m.cls := hown
  have hF : CallFix p m c code 4 s #[Value.ref bb] TB RL := ⟨hx, hb, hml, hown, hts⟩
  have hbA : ¬ A bb := fun z => absurd (hA2 bb z) (by omega)
  refine lv_aload_n hx hb dL_law_637 rfl (lv_at hl 2 rfl) ?_
  refine lv_aload_n hx hb dL_law_638 rfl (lv_at hl 3 rfl) ?_
  refine lv_iload_n hx hb dL_law_639 rfl (lv_at hl 0 rfl) ?_
  refine lv_iconst (v := 1) hx hb dL_law_640 (by decide) ?_
  refine lv_iadd hx hb dL_law_641 ?_
  refine x_seti 1 (by decide) ?_
  refine va_sld hx hb hX hbl hbA hS (vp_in_nI (n := 1) (by omega) (by omega)) dL_law_642 ?_
  refine x_seti (xs 1) rfl ?_
  refine lv_aload_n hx hb dL_law_643 rfl (lv_at hl 3 rfl) ?_
  refine lv_iload_n hx hb dL_law_644 rfl (lv_at hl 0 rfl) ?_
  refine lv_iconst (v := 2) hx hb dL_law_645 (by decide) ?_
  refine lv_iadd hx hb dL_law_646 ?_
  refine x_seti 2 (by decide) ?_
  refine va_sld hx hb hX hbl hbA hS (vp_in_nI (n := 2) (by omega) (by omega)) dL_law_647 ?_
  refine x_seti (xs 2) rfl ?_
  refine x_pV hF (c_X11_wins l D t a (xs 1) (xs 2)) m_804 m_805 m_806 m_1 m_807 hd_X11_wins ⟨Nat.le_of_ble_eq_true rfl, Nat.le_of_ble_eq_true rfl⟩ hK hN hP hS [0, 33] rfl 0 (ci := 11) rfl rfl rfl hl.1 rfl (Nat.le_of_ble_eq_true rfl) dL_law_648 ⟨Nat.le_of_ble_eq_true rfl, Nat.le_of_ble_eq_true rfl⟩ (fun H locs hP hS => ?_)
  refine lv_aload_n hx hb dL_law_651 rfl (lv_at hl 1 rfl) ?_
  refine lv_aload_n hx hb dL_law_652 rfl (lv_at hl 3 rfl) ?_
  refine lv_iload_n hx hb dL_law_653 rfl (lv_at hl 0 rfl) ?_
  refine lv_iconst (v := 1) hx hb dL_law_654 (by decide) ?_
  refine lv_iadd hx hb dL_law_655 ?_
  refine x_seti 1 (by decide) ?_
  refine va_sld hx hb hX hbl hbA hS (vp_in_nI (n := 1) (by omega) (by omega)) dL_law_656 ?_
  refine x_seti (xs 1) rfl ?_
  refine lv_aload_n hx hb dL_law_657 rfl (lv_at hl 3 rfl) ?_
  refine lv_iload_n hx hb dL_law_658 rfl (lv_at hl 0 rfl) ?_
  refine lv_iconst (v := 2) hx hb dL_law_659 (by decide) ?_
  refine lv_iadd hx hb dL_law_660 ?_
  refine x_seti 2 (by decide) ?_
  refine va_sld hx hb hX hbl hbA hS (vp_in_nI (n := 2) (by omega) (by omega)) dL_law_661 ?_
  refine x_seti (xs 2) rfl ?_
  refine x_pV hF (c_X12_wins l D t b (xs 1) (xs 2)) m_1707 m_1708 m_1709 m_13 m_1710 hd_X12_wins ⟨Nat.le_of_ble_eq_true rfl, Nat.le_of_ble_eq_true rfl⟩ hK hN hP hS [109, 110] rfl 0 (ci := 12) rfl rfl rfl hl.1 rfl (Nat.le_of_ble_eq_true rfl) dL_law_662 ⟨Nat.le_of_ble_eq_true rfl, Nat.le_of_ble_eq_true rfl⟩ (fun H locs hP hS => ?_)
  refine lv_icmp_eq (tgt := 2006) hx hb dL_law_665 (by decide) (fun _ => ?_) (fun c9 => absurd rfl c9)
  refine lv_iinc (v := 6) (lv' := [(3, .int 6), (2, .ref (b 0)), (1, .ref (a 0)), (0, .ref bb)]) hx hb dL_law_2006 hl (k := 0) rfl (by decide) (by decide) rfl (fun ls hl => ?_)
  refine lv_goto (tgt := 18) hx hb dL_law_2009 (by decide) ?_
  exact law_end C0 hL2 hA2 hS (lv_sub hl [0, 3] rfl)

set_option maxHeartbeats 4000000 in
set_option maxRecDepth 100000 in
theorem law_12 {p : Program} {l : Launch} {e : Env} {s : State} {m : MethodId} {below : List Frame} {meth : Method} {c : Code} {bb L : Nat} {xs : Nat → Int32} {A : Nat → Prop} {D : va_G} {t : Nat → ClassId} {a b : Nat → Nat} (C0 : lw_At p s m meth c bb L xs) (hL : 6 ≤ L) (hL2 : L ≤ 6) (hA : ∀ q, s.heap.size ≤ q → A q) (hA2 : ∀ q, A q → s.heap.size ≤ q) (hK : va_K D classes (TY t) s) (hN : NW s) {H : Heap} {locs : List Loc} (hP : va_P D classes (cW t a ++ mW t b) H) (hD : va_D A (cW t a ++ mW t b)) (hS : va_S A s.heap H locs) {ls : Array Slot} (hl : lv_has ls 4 [(3, .int 0), (2, .ref (b 0)), (1, .ref (a 0)), (0, .ref bb)]) : W p l e room_1 s m #[Value.ref bb] below meth c H locs 600000 7302250 (lw_Z below #[Value.ref bb] s) (F0 m 670 ls []) := by
  obtain ⟨hx, hb, hr, hml, hown, hts0, hX, hbl, hlocks, hgv⟩ := id C0
  have hts : ∀ w ∈ TB, w.before #[Value.ref bb] s = true := fun w h => hts0 w (List.mem_filter.mp h).1
  have hown : s.vm.findClass RL = some m.cls := hown
  have hF : CallFix p m c code 4 s #[Value.ref bb] TB RL := ⟨hx, hb, hml, hown, hts⟩
  have hbA : ¬ A bb := fun z => absurd (hA2 bb z) (by omega)
  refine lv_aload_n hx hb dL_law_670 rfl (lv_at hl 2 rfl) ?_
  refine lv_aload_n hx hb dL_law_671 rfl (lv_at hl 3 rfl) ?_
  refine lv_iload_n hx hb dL_law_672 rfl (lv_at hl 0 rfl) ?_
  refine lv_iconst (v := 1) hx hb dL_law_673 (by decide) ?_
  refine lv_iadd hx hb dL_law_674 ?_
  refine x_seti 1 (by decide) ?_
  refine va_sld hx hb hX hbl hbA hS (vp_in_nI (n := 1) (by omega) (by omega)) dL_law_675 ?_
  refine x_seti (xs 1) rfl ?_
  refine lv_aload_n hx hb dL_law_676 rfl (lv_at hl 3 rfl) ?_
  refine lv_iload_n hx hb dL_law_677 rfl (lv_at hl 0 rfl) ?_
  refine lv_iconst (v := 2) hx hb dL_law_678 (by decide) ?_
  refine lv_iadd hx hb dL_law_679 ?_
  refine x_seti 2 (by decide) ?_
  refine va_sld hx hb hX hbl hbA hS (vp_in_nI (n := 2) (by omega) (by omega)) dL_law_680 ?_
  refine x_seti (xs 2) rfl ?_
  refine x_pV hF (c_X11_sits l D t a (xs 1) (xs 2)) m_841 m_842 m_843 m_1 m_844 hd_X11_sits ⟨Nat.le_of_ble_eq_true rfl, Nat.le_of_ble_eq_true rfl⟩ hK hN hP hS [0, 33] rfl 0 (ci := 11) rfl rfl rfl hl.1 rfl (Nat.le_of_ble_eq_true rfl) dL_law_681 ⟨Nat.le_of_ble_eq_true rfl, Nat.le_of_ble_eq_true rfl⟩ (fun H locs hP hS => ?_)
  refine lv_aload_n hx hb dL_law_684 rfl (lv_at hl 1 rfl) ?_
  refine lv_aload_n hx hb dL_law_685 rfl (lv_at hl 3 rfl) ?_
  refine lv_iload_n hx hb dL_law_686 rfl (lv_at hl 0 rfl) ?_
  refine lv_iconst (v := 1) hx hb dL_law_687 (by decide) ?_
  refine lv_iadd hx hb dL_law_688 ?_
  refine x_seti 1 (by decide) ?_
  refine va_sld hx hb hX hbl hbA hS (vp_in_nI (n := 1) (by omega) (by omega)) dL_law_689 ?_
  refine x_seti (xs 1) rfl ?_
  refine lv_aload_n hx hb dL_law_690 rfl (lv_at hl 3 rfl) ?_
  refine lv_iload_n hx hb dL_law_691 rfl (lv_at hl 0 rfl) ?_
  refine lv_iconst (v := 2) hx hb dL_law_692 (by decide) ?_
  refine lv_iadd hx hb dL_law_693 ?_
  refine x_seti 2 (by decide) ?_
  refine va_sld hx hb hX hbl hbA hS (vp_in_nI (n := 2) (by omega) (by omega)) dL_law_694 ?_
  refine x_seti (xs 2) rfl ?_
  refine x_pV hF (c_X12_sits l D t b (xs 1) (xs 2)) m_1730 m_1731 m_1732 m_13 m_1733 hd_X12_sits ⟨Nat.le_of_ble_eq_true rfl, Nat.le_of_ble_eq_true rfl⟩ hK hN hP hS [109, 110] rfl 0 (ci := 12) rfl rfl rfl hl.1 rfl (Nat.le_of_ble_eq_true rfl) dL_law_695 ⟨Nat.le_of_ble_eq_true rfl, Nat.le_of_ble_eq_true rfl⟩ (fun H locs hP hS => ?_)
  refine lv_icmp_eq (tgt := 2006) hx hb dL_law_698 (by decide) (fun _ => ?_) (fun c9 => absurd rfl c9)
  refine lv_iinc (v := 6) (lv' := [(3, .int 6), (2, .ref (b 0)), (1, .ref (a 0)), (0, .ref bb)]) hx hb dL_law_2006 hl (k := 0) rfl (by decide) (by decide) rfl (fun ls hl => ?_)
  refine lv_goto (tgt := 18) hx hb dL_law_2009 (by decide) ?_
  exact law_end C0 hL2 hA2 hS (lv_sub hl [0, 3] rfl)

set_option maxHeartbeats 4000000 in
set_option maxRecDepth 100000 in
theorem law_13 {p : Program} {l : Launch} {e : Env} {s : State} {m : MethodId} {below : List Frame} {meth : Method} {c : Code} {bb L : Nat} {xs : Nat → Int32} {A : Nat → Prop} {D : va_G} {t : Nat → ClassId} {a b : Nat → Nat} (C0 : lw_At p s m meth c bb L xs) (hL : 6 ≤ L) (hL2 : L ≤ 6) (hA : ∀ q, s.heap.size ≤ q → A q) (hA2 : ∀ q, A q → s.heap.size ≤ q) (hK : va_K D classes (TY t) s) (hN : NW s) {H : Heap} {locs : List Loc} (hP : va_P D classes (cW t a ++ mW t b) H) (hD : va_D A (cW t a ++ mW t b)) (hS : va_S A s.heap H locs) {ls : Array Slot} (hl : lv_has ls 4 [(3, .int 0), (2, .ref (b 0)), (1, .ref (a 0)), (0, .ref bb)]) : W p l e room_1 s m #[Value.ref bb] below meth c H locs 600000 7302250 (lw_Z below #[Value.ref bb] s) (F0 m 703 ls []) := by
  obtain ⟨hx, hb, hr, hml, hown, hts0, hX, hbl, hlocks, hgv⟩ := id C0
  have hts : ∀ w ∈ TB, w.before #[Value.ref bb] s = true := fun w h => hts0 w (List.mem_filter.mp h).1
  have hown : s.vm.findClass RL = some m.cls := hown
  have hF : CallFix p m c code 4 s #[Value.ref bb] TB RL := ⟨hx, hb, hml, hown, hts⟩
  have hbA : ¬ A bb := fun z => absurd (hA2 bb z) (by omega)
  refine lv_aload_n hx hb dL_law_703 rfl (lv_at hl 2 rfl) ?_
  refine lv_aload_n hx hb dL_law_704 rfl (lv_at hl 3 rfl) ?_
  refine lv_iload_n hx hb dL_law_705 rfl (lv_at hl 0 rfl) ?_
  refine lv_iconst (v := 1) hx hb dL_law_706 (by decide) ?_
  refine lv_iadd hx hb dL_law_707 ?_
  refine x_seti 1 (by decide) ?_
  refine va_sld hx hb hX hbl hbA hS (vp_in_nI (n := 1) (by omega) (by omega)) dL_law_708 ?_
  refine x_seti (xs 1) rfl ?_
  refine lv_aload_n hx hb dL_law_709 rfl (lv_at hl 3 rfl) ?_
  refine lv_iload_n hx hb dL_law_710 rfl (lv_at hl 0 rfl) ?_
  refine lv_iconst (v := 2) hx hb dL_law_711 (by decide) ?_
  refine lv_iadd hx hb dL_law_712 ?_
  refine x_seti 2 (by decide) ?_
  refine va_sld hx hb hX hbl hbA hS (vp_in_nI (n := 2) (by omega) (by omega)) dL_law_713 ?_
  refine x_seti (xs 2) rfl ?_
  refine x_pV hF (c_X11_with l D t a (xs 1) (xs 2)) m_855 m_856 m_857 m_1 m_858 hd_X11_with ⟨Nat.le_of_ble_eq_true rfl, Nat.le_of_ble_eq_true rfl⟩ hK hN hP hS [0, 33] rfl 0 (ci := 11) rfl rfl rfl hl.1 rfl (Nat.le_of_ble_eq_true rfl) dL_law_714 ⟨Nat.le_of_ble_eq_true rfl, Nat.le_of_ble_eq_true rfl⟩ (fun H locs hP hS => ?_)
  refine lv_aload_n hx hb dL_law_717 rfl (lv_at hl 1 rfl) ?_
  refine lv_aload_n hx hb dL_law_718 rfl (lv_at hl 3 rfl) ?_
  refine lv_iload_n hx hb dL_law_719 rfl (lv_at hl 0 rfl) ?_
  refine lv_iconst (v := 1) hx hb dL_law_720 (by decide) ?_
  refine lv_iadd hx hb dL_law_721 ?_
  refine x_seti 1 (by decide) ?_
  refine va_sld hx hb hX hbl hbA hS (vp_in_nI (n := 1) (by omega) (by omega)) dL_law_722 ?_
  refine x_seti (xs 1) rfl ?_
  refine lv_aload_n hx hb dL_law_723 rfl (lv_at hl 3 rfl) ?_
  refine lv_iload_n hx hb dL_law_724 rfl (lv_at hl 0 rfl) ?_
  refine lv_iconst (v := 2) hx hb dL_law_725 (by decide) ?_
  refine lv_iadd hx hb dL_law_726 ?_
  refine x_seti 2 (by decide) ?_
  refine va_sld hx hb hX hbl hbA hS (vp_in_nI (n := 2) (by omega) (by omega)) dL_law_727 ?_
  refine x_seti (xs 2) rfl ?_
  refine x_pV hF (c_X12_with l D t b (xs 1) (xs 2)) m_1738 m_1739 m_1740 m_13 m_1741 hd_X12_with ⟨Nat.le_of_ble_eq_true rfl, Nat.le_of_ble_eq_true rfl⟩ hK hN hP hS [109, 110] rfl 0 (ci := 12) rfl rfl rfl hl.1 rfl (Nat.le_of_ble_eq_true rfl) dL_law_728 ⟨Nat.le_of_ble_eq_true rfl, Nat.le_of_ble_eq_true rfl⟩ (fun H locs hP hS => ?_)
  refine lv_icmp_eq (tgt := 2006) hx hb dL_law_731 (by decide) (fun _ => ?_) (fun c9 => absurd rfl c9)
  refine lv_iinc (v := 6) (lv' := [(3, .int 6), (2, .ref (b 0)), (1, .ref (a 0)), (0, .ref bb)]) hx hb dL_law_2006 hl (k := 0) rfl (by decide) (by decide) rfl (fun ls hl => ?_)
  refine lv_goto (tgt := 18) hx hb dL_law_2009 (by decide) ?_
  exact law_end C0 hL2 hA2 hS (lv_sub hl [0, 3] rfl)

set_option maxHeartbeats 4000000 in
set_option maxRecDepth 100000 in
theorem law_14 {p : Program} {l : Launch} {e : Env} {s : State} {m : MethodId} {below : List Frame} {meth : Method} {c : Code} {bb L : Nat} {xs : Nat → Int32} {A : Nat → Prop} {D : va_G} {t : Nat → ClassId} {a b : Nat → Nat} (C0 : lw_At p s m meth c bb L xs) (hL : 6 ≤ L) (hL2 : L ≤ 6) (hA : ∀ q, s.heap.size ≤ q → A q) (hA2 : ∀ q, A q → s.heap.size ≤ q) (hK : va_K D classes (TY t) s) (hN : NW s) {H : Heap} {locs : List Loc} (hP : va_P D classes (cW t a ++ mW t b) H) (hD : va_D A (cW t a ++ mW t b)) (hS : va_S A s.heap H locs) {ls : Array Slot} (hl : lv_has ls 4 [(3, .int 0), (2, .ref (b 0)), (1, .ref (a 0)), (0, .ref bb)]) : W p l e room_1 s m #[Value.ref bb] below meth c H locs 600000 7302250 (lw_Z below #[Value.ref bb] s) (F0 m 736 ls []) := by
  obtain ⟨hx, hb, hr, hml, hown, hts0, hX, hbl, hlocks, hgv⟩ := id C0
  have hts : ∀ w ∈ TB, w.before #[Value.ref bb] s = true := fun w h => hts0 w (List.mem_filter.mp h).1
  have hown : s.vm.findClass RL = some m.cls := hown
  have hF : CallFix p m c code 4 s #[Value.ref bb] TB RL := ⟨hx, hb, hml, hown, hts⟩
  have hbA : ¬ A bb := fun z => absurd (hA2 bb z) (by omega)
  refine lv_aload_n hx hb dL_law_736 rfl (lv_at hl 2 rfl) ?_
  refine lv_aload_n hx hb dL_law_737 rfl (lv_at hl 3 rfl) ?_
  refine lv_iload_n hx hb dL_law_738 rfl (lv_at hl 0 rfl) ?_
  refine lv_iconst (v := 1) hx hb dL_law_739 (by decide) ?_
  refine lv_iadd hx hb dL_law_740 ?_
  refine x_seti 1 (by decide) ?_
  refine va_sld hx hb hX hbl hbA hS (vp_in_nI (n := 1) (by omega) (by omega)) dL_law_741 ?_
  refine x_seti (xs 1) rfl ?_
  refine lv_aload_n hx hb dL_law_742 rfl (lv_at hl 3 rfl) ?_
  refine lv_iload_n hx hb dL_law_743 rfl (lv_at hl 0 rfl) ?_
  refine lv_iconst (v := 2) hx hb dL_law_744 (by decide) ?_
  refine lv_iadd hx hb dL_law_745 ?_
  refine x_seti 2 (by decide) ?_
  refine va_sld hx hb hX hbl hbA hS (vp_in_nI (n := 2) (by omega) (by omega)) dL_law_746 ?_
  refine x_seti (xs 2) rfl ?_
  refine x_pV hF (c_X11_struck l D t a (xs 1) (xs 2)) m_859 m_860 m_861 m_1 m_862 hd_X11_struck ⟨Nat.le_of_ble_eq_true rfl, Nat.le_of_ble_eq_true rfl⟩ hK hN hP hS [0, 33] rfl 0 (ci := 11) rfl rfl rfl hl.1 rfl (Nat.le_of_ble_eq_true rfl) dL_law_747 ⟨Nat.le_of_ble_eq_true rfl, Nat.le_of_ble_eq_true rfl⟩ (fun H locs hP hS => ?_)
  refine lv_aload_n hx hb dL_law_750 rfl (lv_at hl 1 rfl) ?_
  refine lv_aload_n hx hb dL_law_751 rfl (lv_at hl 3 rfl) ?_
  refine lv_iload_n hx hb dL_law_752 rfl (lv_at hl 0 rfl) ?_
  refine lv_iconst (v := 1) hx hb dL_law_753 (by decide) ?_
  refine lv_iadd hx hb dL_law_754 ?_
  refine x_seti 1 (by decide) ?_
  refine va_sld hx hb hX hbl hbA hS (vp_in_nI (n := 1) (by omega) (by omega)) dL_law_755 ?_
  refine x_seti (xs 1) rfl ?_
  refine lv_aload_n hx hb dL_law_756 rfl (lv_at hl 3 rfl) ?_
  refine lv_iload_n hx hb dL_law_757 rfl (lv_at hl 0 rfl) ?_
  refine lv_iconst (v := 2) hx hb dL_law_758 (by decide) ?_
  refine lv_iadd hx hb dL_law_759 ?_
  refine x_seti 2 (by decide) ?_
  refine va_sld hx hb hX hbl hbA hS (vp_in_nI (n := 2) (by omega) (by omega)) dL_law_760 ?_
  refine x_seti (xs 2) rfl ?_
  refine x_pV hF (c_X12_struck l D t b (xs 1) (xs 2)) m_1742 m_1743 m_1744 m_13 m_1745 hd_X12_struck ⟨Nat.le_of_ble_eq_true rfl, Nat.le_of_ble_eq_true rfl⟩ hK hN hP hS [109, 110] rfl 0 (ci := 12) rfl rfl rfl hl.1 rfl (Nat.le_of_ble_eq_true rfl) dL_law_761 ⟨Nat.le_of_ble_eq_true rfl, Nat.le_of_ble_eq_true rfl⟩ (fun H locs hP hS => ?_)
  refine lv_icmp_eq (tgt := 2006) hx hb dL_law_764 (by decide) (fun _ => ?_) (fun c9 => absurd rfl c9)
  refine lv_iinc (v := 6) (lv' := [(3, .int 6), (2, .ref (b 0)), (1, .ref (a 0)), (0, .ref bb)]) hx hb dL_law_2006 hl (k := 0) rfl (by decide) (by decide) rfl (fun ls hl => ?_)
  refine lv_goto (tgt := 18) hx hb dL_law_2009 (by decide) ?_
  exact law_end C0 hL2 hA2 hS (lv_sub hl [0, 3] rfl)

set_option maxHeartbeats 4000000 in
set_option maxRecDepth 100000 in
theorem law_15 {p : Program} {l : Launch} {e : Env} {s : State} {m : MethodId} {below : List Frame} {meth : Method} {c : Code} {bb L : Nat} {xs : Nat → Int32} {A : Nat → Prop} {D : va_G} {t : Nat → ClassId} {a b : Nat → Nat} (C0 : lw_At p s m meth c bb L xs) (hL : 6 ≤ L) (hL2 : L ≤ 6) (hA : ∀ q, s.heap.size ≤ q → A q) (hA2 : ∀ q, A q → s.heap.size ≤ q) (hK : va_K D classes (TY t) s) (hN : NW s) {H : Heap} {locs : List Loc} (hP : va_P D classes (cW t a ++ mW t b) H) (hD : va_D A (cW t a ++ mW t b)) (hS : va_S A s.heap H locs) {ls : Array Slot} (hl : lv_has ls 4 [(3, .int 0), (2, .ref (b 0)), (1, .ref (a 0)), (0, .ref bb)]) : W p l e room_1 s m #[Value.ref bb] below meth c H locs 600000 7302250 (lw_Z below #[Value.ref bb] s) (F0 m 769 ls []) := by
  obtain ⟨hx, hb, hr, hml, hown, hts0, hX, hbl, hlocks, hgv⟩ := id C0
  have hts : ∀ w ∈ TB, w.before #[Value.ref bb] s = true := fun w h => hts0 w (List.mem_filter.mp h).1
  have hown : s.vm.findClass RL = some m.cls := hown
  have hF : CallFix p m c code 4 s #[Value.ref bb] TB RL := ⟨hx, hb, hml, hown, hts⟩
  have hbA : ¬ A bb := fun z => absurd (hA2 bb z) (by omega)
  refine lv_aload_n hx hb dL_law_769 rfl (lv_at hl 2 rfl) ?_
  refine lv_aload_n hx hb dL_law_770 rfl (lv_at hl 3 rfl) ?_
  refine lv_iload_n hx hb dL_law_771 rfl (lv_at hl 0 rfl) ?_
  refine lv_iconst (v := 1) hx hb dL_law_772 (by decide) ?_
  refine lv_iadd hx hb dL_law_773 ?_
  refine x_seti 1 (by decide) ?_
  refine va_sld hx hb hX hbl hbA hS (vp_in_nI (n := 1) (by omega) (by omega)) dL_law_774 ?_
  refine x_seti (xs 1) rfl ?_
  refine lv_aload_n hx hb dL_law_775 rfl (lv_at hl 3 rfl) ?_
  refine lv_iload_n hx hb dL_law_776 rfl (lv_at hl 0 rfl) ?_
  refine lv_iconst (v := 2) hx hb dL_law_777 (by decide) ?_
  refine lv_iadd hx hb dL_law_778 ?_
  refine x_seti 2 (by decide) ?_
  refine va_sld hx hb hX hbl hbA hS (vp_in_nI (n := 2) (by omega) (by omega)) dL_law_779 ?_
  refine x_seti (xs 2) rfl ?_
  refine x_pV hF (c_X11_beats l D t a (xs 1) (xs 2)) m_867 m_868 m_869 m_1 m_870 hd_X11_beats ⟨Nat.le_of_ble_eq_true rfl, Nat.le_of_ble_eq_true rfl⟩ hK hN hP hS [0, 33] rfl 0 (ci := 11) rfl rfl rfl hl.1 rfl (Nat.le_of_ble_eq_true rfl) dL_law_780 ⟨Nat.le_of_ble_eq_true rfl, Nat.le_of_ble_eq_true rfl⟩ (fun H locs hP hS => ?_)
  refine lv_aload_n hx hb dL_law_783 rfl (lv_at hl 1 rfl) ?_
  refine lv_aload_n hx hb dL_law_784 rfl (lv_at hl 3 rfl) ?_
  refine lv_iload_n hx hb dL_law_785 rfl (lv_at hl 0 rfl) ?_
  refine lv_iconst (v := 1) hx hb dL_law_786 (by decide) ?_
  refine lv_iadd hx hb dL_law_787 ?_
  refine x_seti 1 (by decide) ?_
  refine va_sld hx hb hX hbl hbA hS (vp_in_nI (n := 1) (by omega) (by omega)) dL_law_788 ?_
  refine x_seti (xs 1) rfl ?_
  refine lv_aload_n hx hb dL_law_789 rfl (lv_at hl 3 rfl) ?_
  refine lv_iload_n hx hb dL_law_790 rfl (lv_at hl 0 rfl) ?_
  refine lv_iconst (v := 2) hx hb dL_law_791 (by decide) ?_
  refine lv_iadd hx hb dL_law_792 ?_
  refine x_seti 2 (by decide) ?_
  refine va_sld hx hb hX hbl hbA hS (vp_in_nI (n := 2) (by omega) (by omega)) dL_law_793 ?_
  refine x_seti (xs 2) rfl ?_
  refine x_pV hF (c_X12_beats l D t b (xs 1) (xs 2)) m_1746 m_1747 m_1748 m_13 m_1749 hd_X12_beats ⟨Nat.le_of_ble_eq_true rfl, Nat.le_of_ble_eq_true rfl⟩ hK hN hP hS [109, 110] rfl 0 (ci := 12) rfl rfl rfl hl.1 rfl (Nat.le_of_ble_eq_true rfl) dL_law_794 ⟨Nat.le_of_ble_eq_true rfl, Nat.le_of_ble_eq_true rfl⟩ (fun H locs hP hS => ?_)
  refine lv_icmp_eq (tgt := 2006) hx hb dL_law_797 (by decide) (fun _ => ?_) (fun c9 => absurd rfl c9)
  refine lv_iinc (v := 6) (lv' := [(3, .int 6), (2, .ref (b 0)), (1, .ref (a 0)), (0, .ref bb)]) hx hb dL_law_2006 hl (k := 0) rfl (by decide) (by decide) rfl (fun ls hl => ?_)
  refine lv_goto (tgt := 18) hx hb dL_law_2009 (by decide) ?_
  exact law_end C0 hL2 hA2 hS (lv_sub hl [0, 3] rfl)

set_option maxHeartbeats 4000000 in
set_option maxRecDepth 100000 in
theorem law_16 {p : Program} {l : Launch} {e : Env} {s : State} {m : MethodId} {below : List Frame} {meth : Method} {c : Code} {bb L : Nat} {xs : Nat → Int32} {A : Nat → Prop} {D : va_G} {t : Nat → ClassId} {a b : Nat → Nat} (C0 : lw_At p s m meth c bb L xs) (hL : 6 ≤ L) (hL2 : L ≤ 6) (hA : ∀ q, s.heap.size ≤ q → A q) (hA2 : ∀ q, A q → s.heap.size ≤ q) (hK : va_K D classes (TY t) s) (hN : NW s) {H : Heap} {locs : List Loc} (hP : va_P D classes (cW t a ++ mW t b) H) (hD : va_D A (cW t a ++ mW t b)) (hS : va_S A s.heap H locs) {ls : Array Slot} (hl : lv_has ls 4 [(3, .int 0), (2, .ref (b 0)), (1, .ref (a 0)), (0, .ref bb)]) : W p l e room_1 s m #[Value.ref bb] below meth c H locs 600000 7302250 (lw_Z below #[Value.ref bb] s) (F0 m 802 ls []) := by
  obtain ⟨hx, hb, hr, hml, hown, hts0, hX, hbl, hlocks, hgv⟩ := id C0
  have hts : ∀ w ∈ TB, w.before #[Value.ref bb] s = true := fun w h => hts0 w (List.mem_filter.mp h).1
  have hown : s.vm.findClass RL = some m.cls := hown
  have hF : CallFix p m c code 4 s #[Value.ref bb] TB RL := ⟨hx, hb, hml, hown, hts⟩
  have hbA : ¬ A bb := fun z => absurd (hA2 bb z) (by omega)
  refine lv_aload_n hx hb dL_law_802 rfl (lv_at hl 2 rfl) ?_
  refine lv_aload_n hx hb dL_law_803 rfl (lv_at hl 3 rfl) ?_
  refine lv_iload_n hx hb dL_law_804 rfl (lv_at hl 0 rfl) ?_
  refine lv_iconst (v := 1) hx hb dL_law_805 (by decide) ?_
  refine lv_iadd hx hb dL_law_806 ?_
  refine x_seti 1 (by decide) ?_
  refine va_sld hx hb hX hbl hbA hS (vp_in_nI (n := 1) (by omega) (by omega)) dL_law_807 ?_
  refine x_seti (xs 1) rfl ?_
  refine x_pV hF (c_X11_best l D t a (xs 1)) m_875 m_876 m_877 m_1 m_878 hd_X11_best ⟨Nat.le_of_ble_eq_true rfl, Nat.le_of_ble_eq_true rfl⟩ hK hN hP hS [0, 33] rfl 0 (ci := 11) rfl rfl rfl hl.1 rfl (Nat.le_of_ble_eq_true rfl) dL_law_808 ⟨Nat.le_of_ble_eq_true rfl, Nat.le_of_ble_eq_true rfl⟩ (fun H locs hP hS => ?_)
  refine lv_aload_n hx hb dL_law_811 rfl (lv_at hl 1 rfl) ?_
  refine lv_aload_n hx hb dL_law_812 rfl (lv_at hl 3 rfl) ?_
  refine lv_iload_n hx hb dL_law_813 rfl (lv_at hl 0 rfl) ?_
  refine lv_iconst (v := 1) hx hb dL_law_814 (by decide) ?_
  refine lv_iadd hx hb dL_law_815 ?_
  refine x_seti 1 (by decide) ?_
  refine va_sld hx hb hX hbl hbA hS (vp_in_nI (n := 1) (by omega) (by omega)) dL_law_816 ?_
  refine x_seti (xs 1) rfl ?_
  refine x_pV hF (c_X12_best l D t b (xs 1)) m_1758 m_1759 m_1760 m_13 m_1761 hd_X12_best ⟨Nat.le_of_ble_eq_true rfl, Nat.le_of_ble_eq_true rfl⟩ hK hN hP hS [109, 110] rfl 0 (ci := 12) rfl rfl rfl hl.1 rfl (Nat.le_of_ble_eq_true rfl) dL_law_817 ⟨Nat.le_of_ble_eq_true rfl, Nat.le_of_ble_eq_true rfl⟩ (fun H locs hP hS => ?_)
  refine lv_icmp_eq (tgt := 2006) hx hb dL_law_820 (by decide) (fun _ => ?_) (fun c9 => absurd rfl c9)
  refine lv_iinc (v := 6) (lv' := [(3, .int 6), (2, .ref (b 0)), (1, .ref (a 0)), (0, .ref bb)]) hx hb dL_law_2006 hl (k := 0) rfl (by decide) (by decide) rfl (fun ls hl => ?_)
  refine lv_goto (tgt := 18) hx hb dL_law_2009 (by decide) ?_
  exact law_end C0 hL2 hA2 hS (lv_sub hl [0, 3] rfl)

set_option maxHeartbeats 4000000 in
set_option maxRecDepth 100000 in
theorem law_17 {p : Program} {l : Launch} {e : Env} {s : State} {m : MethodId} {below : List Frame} {meth : Method} {c : Code} {bb L : Nat} {xs : Nat → Int32} {A : Nat → Prop} {D : va_G} {t : Nat → ClassId} {a b : Nat → Nat} (C0 : lw_At p s m meth c bb L xs) (hL : 6 ≤ L) (hL2 : L ≤ 6) (hA : ∀ q, s.heap.size ≤ q → A q) (hA2 : ∀ q, A q → s.heap.size ≤ q) (hK : va_K D classes (TY t) s) (hN : NW s) {H : Heap} {locs : List Loc} (hP : va_P D classes (cW t a ++ mW t b) H) (hD : va_D A (cW t a ++ mW t b)) (hS : va_S A s.heap H locs) {ls : Array Slot} (hl : lv_has ls 4 [(3, .int 0), (2, .ref (b 0)), (1, .ref (a 0)), (0, .ref bb)]) : W p l e room_1 s m #[Value.ref bb] below meth c H locs 600000 7302250 (lw_Z below #[Value.ref bb] s) (F0 m 825 ls []) := by
  obtain ⟨hx, hb, hr, hml, hown, hts0, hX, hbl, hlocks, hgv⟩ := id C0
  have hts : ∀ w ∈ TB, w.before #[Value.ref bb] s = true := fun w h => hts0 w (List.mem_filter.mp h).1
  have hown : s.vm.findClass RL = some m.cls := hown
  have hF : CallFix p m c code 4 s #[Value.ref bb] TB RL := ⟨hx, hb, hml, hown, hts⟩
  have hbA : ¬ A bb := fun z => absurd (hA2 bb z) (by omega)
  refine lv_aload_n hx hb dL_law_825 rfl (lv_at hl 2 rfl) ?_
  refine lv_aload_n hx hb dL_law_826 rfl (lv_at hl 3 rfl) ?_
  refine lv_iload_n hx hb dL_law_827 rfl (lv_at hl 0 rfl) ?_
  refine lv_iconst (v := 1) hx hb dL_law_828 (by decide) ?_
  refine lv_iadd hx hb dL_law_829 ?_
  refine x_seti 1 (by decide) ?_
  refine va_sld hx hb hX hbl hbA hS (vp_in_nI (n := 1) (by omega) (by omega)) dL_law_830 ?_
  refine x_seti (xs 1) rfl ?_
  refine lv_aload_n hx hb dL_law_831 rfl (lv_at hl 3 rfl) ?_
  refine lv_iload_n hx hb dL_law_832 rfl (lv_at hl 0 rfl) ?_
  refine lv_iconst (v := 2) hx hb dL_law_833 (by decide) ?_
  refine lv_iadd hx hb dL_law_834 ?_
  refine x_seti 2 (by decide) ?_
  refine va_sld hx hb hX hbl hbA hS (vp_in_nI (n := 2) (by omega) (by omega)) dL_law_835 ?_
  refine x_seti (xs 2) rfl ?_
  refine x_pV hF (c_X11_unlike l D t a (xs 1) (xs 2)) m_888 m_889 m_890 m_1 m_891 hd_X11_unlike ⟨Nat.le_of_ble_eq_true rfl, Nat.le_of_ble_eq_true rfl⟩ hK hN hP hS [0, 33] rfl 0 (ci := 11) rfl rfl rfl hl.1 rfl (Nat.le_of_ble_eq_true rfl) dL_law_836 ⟨Nat.le_of_ble_eq_true rfl, Nat.le_of_ble_eq_true rfl⟩ (fun H locs hP hS => ?_)
  refine lv_aload_n hx hb dL_law_839 rfl (lv_at hl 1 rfl) ?_
  refine lv_aload_n hx hb dL_law_840 rfl (lv_at hl 3 rfl) ?_
  refine lv_iload_n hx hb dL_law_841 rfl (lv_at hl 0 rfl) ?_
  refine lv_iconst (v := 1) hx hb dL_law_842 (by decide) ?_
  refine lv_iadd hx hb dL_law_843 ?_
  refine x_seti 1 (by decide) ?_
  refine va_sld hx hb hX hbl hbA hS (vp_in_nI (n := 1) (by omega) (by omega)) dL_law_844 ?_
  refine x_seti (xs 1) rfl ?_
  refine lv_aload_n hx hb dL_law_845 rfl (lv_at hl 3 rfl) ?_
  refine lv_iload_n hx hb dL_law_846 rfl (lv_at hl 0 rfl) ?_
  refine lv_iconst (v := 2) hx hb dL_law_847 (by decide) ?_
  refine lv_iadd hx hb dL_law_848 ?_
  refine x_seti 2 (by decide) ?_
  refine va_sld hx hb hX hbl hbA hS (vp_in_nI (n := 2) (by omega) (by omega)) dL_law_849 ?_
  refine x_seti (xs 2) rfl ?_
  refine x_pV hF (c_X12_unlike_ l D t b (xs 1) (xs 2)) m_1762 m_1763 m_1764 m_13 m_1765 hd_X12_unlike_ ⟨Nat.le_of_ble_eq_true rfl, Nat.le_of_ble_eq_true rfl⟩ hK hN hP hS [109, 110] rfl 0 (ci := 12) rfl rfl rfl hl.1 rfl (Nat.le_of_ble_eq_true rfl) dL_law_850 ⟨Nat.le_of_ble_eq_true rfl, Nat.le_of_ble_eq_true rfl⟩ (fun H locs hP hS => ?_)
  refine lv_icmp_eq (tgt := 2006) hx hb dL_law_853 (by decide) (fun _ => ?_) (fun c9 => absurd rfl c9)
  refine lv_iinc (v := 6) (lv' := [(3, .int 6), (2, .ref (b 0)), (1, .ref (a 0)), (0, .ref bb)]) hx hb dL_law_2006 hl (k := 0) rfl (by decide) (by decide) rfl (fun ls hl => ?_)
  refine lv_goto (tgt := 18) hx hb dL_law_2009 (by decide) ?_
  exact law_end C0 hL2 hA2 hS (lv_sub hl [0, 3] rfl)

set_option maxHeartbeats 4000000 in
set_option maxRecDepth 100000 in
theorem law_18 {p : Program} {l : Launch} {e : Env} {s : State} {m : MethodId} {below : List Frame} {meth : Method} {c : Code} {bb L : Nat} {xs : Nat → Int32} {A : Nat → Prop} {D : va_G} {t : Nat → ClassId} {a b : Nat → Nat} (C0 : lw_At p s m meth c bb L xs) (hL : 6 ≤ L) (hL2 : L ≤ 6) (hA : ∀ q, s.heap.size ≤ q → A q) (hA2 : ∀ q, A q → s.heap.size ≤ q) (hK : va_K D classes (TY t) s) (hN : NW s) {H : Heap} {locs : List Loc} (hP : va_P D classes (cW t a ++ mW t b) H) (hD : va_D A (cW t a ++ mW t b)) (hS : va_S A s.heap H locs) {ls : Array Slot} (hl : lv_has ls 4 [(3, .int 0), (2, .ref (b 0)), (1, .ref (a 0)), (0, .ref bb)]) : W p l e room_1 s m #[Value.ref bb] below meth c H locs 600000 7302250 (lw_Z below #[Value.ref bb] s) (F0 m 858 ls []) := by
  obtain ⟨hx, hb, hr, hml, hown, hts0, hX, hbl, hlocks, hgv⟩ := id C0
  have hts : ∀ w ∈ TB, w.before #[Value.ref bb] s = true := fun w h => hts0 w (List.mem_filter.mp h).1
  have hown : s.vm.findClass RL = some m.cls := hown
  have hF : CallFix p m c code 4 s #[Value.ref bb] TB RL := ⟨hx, hb, hml, hown, hts⟩
  have hbA : ¬ A bb := fun z => absurd (hA2 bb z) (by omega)
  refine lv_aload_n hx hb dL_law_858 rfl (lv_at hl 2 rfl) ?_
  refine lv_aload_n hx hb dL_law_859 rfl (lv_at hl 3 rfl) ?_
  refine lv_iload_n hx hb dL_law_860 rfl (lv_at hl 0 rfl) ?_
  refine lv_iconst (v := 1) hx hb dL_law_861 (by decide) ?_
  refine lv_iadd hx hb dL_law_862 ?_
  refine x_seti 1 (by decide) ?_
  refine va_sld hx hb hX hbl hbA hS (vp_in_nI (n := 1) (by omega) (by omega)) dL_law_863 ?_
  refine x_seti (xs 1) rfl ?_
  refine x_pV hF (c_X11_synonyms l D t a (xs 1)) m_896 m_897 m_898 m_1 m_899 hd_X11_synonyms ⟨Nat.le_of_ble_eq_true rfl, Nat.le_of_ble_eq_true rfl⟩ hK hN hP hS [0, 33] rfl 0 (ci := 11) rfl rfl rfl hl.1 rfl (Nat.le_of_ble_eq_true rfl) dL_law_864 ⟨Nat.le_of_ble_eq_true rfl, Nat.le_of_ble_eq_true rfl⟩ (fun H locs hP hS => ?_)
  refine lv_aload_n hx hb dL_law_867 rfl (lv_at hl 1 rfl) ?_
  refine lv_aload_n hx hb dL_law_868 rfl (lv_at hl 3 rfl) ?_
  refine lv_iload_n hx hb dL_law_869 rfl (lv_at hl 0 rfl) ?_
  refine lv_iconst (v := 1) hx hb dL_law_870 (by decide) ?_
  refine lv_iadd hx hb dL_law_871 ?_
  refine x_seti 1 (by decide) ?_
  refine va_sld hx hb hX hbl hbA hS (vp_in_nI (n := 1) (by omega) (by omega)) dL_law_872 ?_
  refine x_seti (xs 1) rfl ?_
  refine x_pV hF (c_X12_synonyms l D t b (xs 1)) m_1770 m_1771 m_1772 m_13 m_1773 hd_X12_synonyms ⟨Nat.le_of_ble_eq_true rfl, Nat.le_of_ble_eq_true rfl⟩ hK hN hP hS [109, 110] rfl 0 (ci := 12) rfl rfl rfl hl.1 rfl (Nat.le_of_ble_eq_true rfl) dL_law_873 ⟨Nat.le_of_ble_eq_true rfl, Nat.le_of_ble_eq_true rfl⟩ (fun H locs hP hS => ?_)
  refine lv_icmp_eq (tgt := 2006) hx hb dL_law_876 (by decide) (fun _ => ?_) (fun c9 => absurd rfl c9)
  refine lv_iinc (v := 6) (lv' := [(3, .int 6), (2, .ref (b 0)), (1, .ref (a 0)), (0, .ref bb)]) hx hb dL_law_2006 hl (k := 0) rfl (by decide) (by decide) rfl (fun ls hl => ?_)
  refine lv_goto (tgt := 18) hx hb dL_law_2009 (by decide) ?_
  exact law_end C0 hL2 hA2 hS (lv_sub hl [0, 3] rfl)

set_option maxHeartbeats 4000000 in
set_option maxRecDepth 100000 in
theorem law_19 {p : Program} {l : Launch} {e : Env} {s : State} {m : MethodId} {below : List Frame} {meth : Method} {c : Code} {bb L : Nat} {xs : Nat → Int32} {A : Nat → Prop} {D : va_G} {t : Nat → ClassId} {a b : Nat → Nat} (C0 : lw_At p s m meth c bb L xs) (hL : 6 ≤ L) (hL2 : L ≤ 6) (hA : ∀ q, s.heap.size ≤ q → A q) (hA2 : ∀ q, A q → s.heap.size ≤ q) (hK : va_K D classes (TY t) s) (hN : NW s) {H : Heap} {locs : List Loc} (hP : va_P D classes (cW t a ++ mW t b) H) (hD : va_D A (cW t a ++ mW t b)) (hS : va_S A s.heap H locs) {ls : Array Slot} (hl : lv_has ls 4 [(3, .int 0), (2, .ref (b 0)), (1, .ref (a 0)), (0, .ref bb)]) : W p l e room_1 s m #[Value.ref bb] below meth c H locs 600000 7302250 (lw_Z below #[Value.ref bb] s) (F0 m 881 ls []) := by
  obtain ⟨hx, hb, hr, hml, hown, hts0, hX, hbl, hlocks, hgv⟩ := id C0
  have hts : ∀ w ∈ TB, w.before #[Value.ref bb] s = true := fun w h => hts0 w (List.mem_filter.mp h).1
  have hown : s.vm.findClass RL = some m.cls := hown
  have hF : CallFix p m c code 4 s #[Value.ref bb] TB RL := ⟨hx, hb, hml, hown, hts⟩
  have hbA : ¬ A bb := fun z => absurd (hA2 bb z) (by omega)
  refine lv_aload_n hx hb dL_law_881 rfl (lv_at hl 2 rfl) ?_
  refine lv_aload_n hx hb dL_law_882 rfl (lv_at hl 3 rfl) ?_
  refine lv_iload_n hx hb dL_law_883 rfl (lv_at hl 0 rfl) ?_
  refine lv_iconst (v := 1) hx hb dL_law_884 (by decide) ?_
  refine lv_iadd hx hb dL_law_885 ?_
  refine x_seti 1 (by decide) ?_
  refine va_sld hx hb hX hbl hbA hS (vp_in_nI (n := 1) (by omega) (by omega)) dL_law_886 ?_
  refine x_seti (xs 1) rfl ?_
  refine x_pV hF (c_X11_spoils l D t a (xs 1)) m_900 m_901 m_902 m_1 m_903 hd_X11_spoils ⟨Nat.le_of_ble_eq_true rfl, Nat.le_of_ble_eq_true rfl⟩ hK hN hP hS [0, 33] rfl 0 (ci := 11) rfl rfl rfl hl.1 rfl (Nat.le_of_ble_eq_true rfl) dL_law_887 ⟨Nat.le_of_ble_eq_true rfl, Nat.le_of_ble_eq_true rfl⟩ (fun H locs hP hS => ?_)
  refine lv_aload_n hx hb dL_law_890 rfl (lv_at hl 1 rfl) ?_
  refine lv_aload_n hx hb dL_law_891 rfl (lv_at hl 3 rfl) ?_
  refine lv_iload_n hx hb dL_law_892 rfl (lv_at hl 0 rfl) ?_
  refine lv_iconst (v := 1) hx hb dL_law_893 (by decide) ?_
  refine lv_iadd hx hb dL_law_894 ?_
  refine x_seti 1 (by decide) ?_
  refine va_sld hx hb hX hbl hbA hS (vp_in_nI (n := 1) (by omega) (by omega)) dL_law_895 ?_
  refine x_seti (xs 1) rfl ?_
  refine x_pV hF (c_X12_spoils l D t b (xs 1)) m_1774 m_1775 m_1776 m_13 m_1777 hd_X12_spoils ⟨Nat.le_of_ble_eq_true rfl, Nat.le_of_ble_eq_true rfl⟩ hK hN hP hS [109, 110] rfl 0 (ci := 12) rfl rfl rfl hl.1 rfl (Nat.le_of_ble_eq_true rfl) dL_law_896 ⟨Nat.le_of_ble_eq_true rfl, Nat.le_of_ble_eq_true rfl⟩ (fun H locs hP hS => ?_)
  refine lv_icmp_eq (tgt := 2006) hx hb dL_law_899 (by decide) (fun _ => ?_) (fun c9 => absurd rfl c9)
  refine lv_iinc (v := 6) (lv' := [(3, .int 6), (2, .ref (b 0)), (1, .ref (a 0)), (0, .ref bb)]) hx hb dL_law_2006 hl (k := 0) rfl (by decide) (by decide) rfl (fun ls hl => ?_)
  refine lv_goto (tgt := 18) hx hb dL_law_2009 (by decide) ?_
  exact law_end C0 hL2 hA2 hS (lv_sub hl [0, 3] rfl)

set_option maxHeartbeats 4000000 in
set_option maxRecDepth 100000 in
theorem law_20 {p : Program} {l : Launch} {e : Env} {s : State} {m : MethodId} {below : List Frame} {meth : Method} {c : Code} {bb L : Nat} {xs : Nat → Int32} {A : Nat → Prop} {D : va_G} {t : Nat → ClassId} {a b : Nat → Nat} (C0 : lw_At p s m meth c bb L xs) (hL : 6 ≤ L) (hL2 : L ≤ 6) (hA : ∀ q, s.heap.size ≤ q → A q) (hA2 : ∀ q, A q → s.heap.size ≤ q) (hK : va_K D classes (TY t) s) (hN : NW s) {H : Heap} {locs : List Loc} (hP : va_P D classes (cW t a ++ mW t b) H) (hD : va_D A (cW t a ++ mW t b)) (hS : va_S A s.heap H locs) {ls : Array Slot} (hl : lv_has ls 4 [(3, .int 0), (2, .ref (b 0)), (1, .ref (a 0)), (0, .ref bb)]) : W p l e room_1 s m #[Value.ref bb] below meth c H locs 600000 7302250 (lw_Z below #[Value.ref bb] s) (F0 m 904 ls []) := by
  obtain ⟨hx, hb, hr, hml, hown, hts0, hX, hbl, hlocks, hgv⟩ := id C0
  have hts : ∀ w ∈ TB, w.before #[Value.ref bb] s = true := fun w h => hts0 w (List.mem_filter.mp h).1
  have hown : s.vm.findClass RL = some m.cls := hown
  have hF : CallFix p m c code 4 s #[Value.ref bb] TB RL := ⟨hx, hb, hml, hown, hts⟩
  have hbA : ¬ A bb := fun z => absurd (hA2 bb z) (by omega)
  refine lv_aload_n hx hb dL_law_904 rfl (lv_at hl 2 rfl) ?_
  refine x_pV hF (c_X11_spoilers l D t a) m_908 m_909 m_910 m_1 m_911 hd_X11_spoilers ⟨Nat.le_of_ble_eq_true rfl, Nat.le_of_ble_eq_true rfl⟩ hK hN hP hS [0, 33] rfl 0 (ci := 11) rfl rfl rfl hl.1 rfl (Nat.le_of_ble_eq_true rfl) dL_law_905 ⟨Nat.le_of_ble_eq_true rfl, Nat.le_of_ble_eq_true rfl⟩ (fun H locs hP hS => ?_)
  refine lv_aload_n hx hb dL_law_908 rfl (lv_at hl 1 rfl) ?_
  refine x_pV hF (c_X12_spoilers l D t b) m_1782 m_1783 m_1784 m_13 m_1785 hd_X12_spoilers ⟨Nat.le_of_ble_eq_true rfl, Nat.le_of_ble_eq_true rfl⟩ hK hN hP hS [109, 110] rfl 0 (ci := 12) rfl rfl rfl hl.1 rfl (Nat.le_of_ble_eq_true rfl) dL_law_909 ⟨Nat.le_of_ble_eq_true rfl, Nat.le_of_ble_eq_true rfl⟩ (fun H locs hP hS => ?_)
  refine lv_icmp_eq (tgt := 2006) hx hb dL_law_912 (by decide) (fun _ => ?_) (fun c9 => absurd rfl c9)
  refine lv_iinc (v := 6) (lv' := [(3, .int 6), (2, .ref (b 0)), (1, .ref (a 0)), (0, .ref bb)]) hx hb dL_law_2006 hl (k := 0) rfl (by decide) (by decide) rfl (fun ls hl => ?_)
  refine lv_goto (tgt := 18) hx hb dL_law_2009 (by decide) ?_
  exact law_end C0 hL2 hA2 hS (lv_sub hl [0, 3] rfl)

set_option maxHeartbeats 4000000 in
set_option maxRecDepth 100000 in
theorem law_21 {p : Program} {l : Launch} {e : Env} {s : State} {m : MethodId} {below : List Frame} {meth : Method} {c : Code} {bb L : Nat} {xs : Nat → Int32} {A : Nat → Prop} {D : va_G} {t : Nat → ClassId} {a b : Nat → Nat} (C0 : lw_At p s m meth c bb L xs) (hL : 6 ≤ L) (hL2 : L ≤ 6) (hA : ∀ q, s.heap.size ≤ q → A q) (hA2 : ∀ q, A q → s.heap.size ≤ q) (hK : va_K D classes (TY t) s) (hN : NW s) {H : Heap} {locs : List Loc} (hP : va_P D classes (cW t a ++ mW t b) H) (hD : va_D A (cW t a ++ mW t b)) (hS : va_S A s.heap H locs) {ls : Array Slot} (hl : lv_has ls 4 [(3, .int 0), (2, .ref (b 0)), (1, .ref (a 0)), (0, .ref bb)]) : W p l e room_1 s m #[Value.ref bb] below meth c H locs 600000 7302250 (lw_Z below #[Value.ref bb] s) (F0 m 917 ls []) := by
  obtain ⟨hx, hb, hr, hml, hown, hts0, hX, hbl, hlocks, hgv⟩ := id C0
  have hts : ∀ w ∈ TB, w.before #[Value.ref bb] s = true := fun w h => hts0 w (List.mem_filter.mp h).1
  have hown : s.vm.findClass RL = some m.cls := hown
  have hF : CallFix p m c code 4 s #[Value.ref bb] TB RL := ⟨hx, hb, hml, hown, hts⟩
  have hbA : ¬ A bb := fun z => absurd (hA2 bb z) (by omega)
  refine lv_aload_n hx hb dL_law_917 rfl (lv_at hl 2 rfl) ?_
  refine x_pV hF (c_X11_elected l D t a) m_918 m_919 m_920 m_1 m_921 hd_X11_elected ⟨Nat.le_of_ble_eq_true rfl, Nat.le_of_ble_eq_true rfl⟩ hK hN hP hS [0, 33] rfl 0 (ci := 11) rfl rfl rfl hl.1 rfl (Nat.le_of_ble_eq_true rfl) dL_law_918 ⟨Nat.le_of_ble_eq_true rfl, Nat.le_of_ble_eq_true rfl⟩ (fun H locs hP hS => ?_)
  refine lv_aload_n hx hb dL_law_921 rfl (lv_at hl 1 rfl) ?_
  refine x_pV hF (c_X12_elected l D t b) m_1786 m_1787 m_1788 m_13 m_1789 hd_X12_elected ⟨Nat.le_of_ble_eq_true rfl, Nat.le_of_ble_eq_true rfl⟩ hK hN hP hS [109, 110] rfl 0 (ci := 12) rfl rfl rfl hl.1 rfl (Nat.le_of_ble_eq_true rfl) dL_law_922 ⟨Nat.le_of_ble_eq_true rfl, Nat.le_of_ble_eq_true rfl⟩ (fun H locs hP hS => ?_)
  refine lv_icmp_eq (tgt := 2006) hx hb dL_law_925 (by decide) (fun _ => ?_) (fun c9 => absurd rfl c9)
  refine lv_iinc (v := 6) (lv' := [(3, .int 6), (2, .ref (b 0)), (1, .ref (a 0)), (0, .ref bb)]) hx hb dL_law_2006 hl (k := 0) rfl (by decide) (by decide) rfl (fun ls hl => ?_)
  refine lv_goto (tgt := 18) hx hb dL_law_2009 (by decide) ?_
  exact law_end C0 hL2 hA2 hS (lv_sub hl [0, 3] rfl)

set_option maxHeartbeats 4000000 in
set_option maxRecDepth 100000 in
theorem law_22 {p : Program} {l : Launch} {e : Env} {s : State} {m : MethodId} {below : List Frame} {meth : Method} {c : Code} {bb L : Nat} {xs : Nat → Int32} {A : Nat → Prop} {D : va_G} {t : Nat → ClassId} {a b : Nat → Nat} (C0 : lw_At p s m meth c bb L xs) (hL : 6 ≤ L) (hL2 : L ≤ 6) (hA : ∀ q, s.heap.size ≤ q → A q) (hA2 : ∀ q, A q → s.heap.size ≤ q) (hK : va_K D classes (TY t) s) (hN : NW s) {H : Heap} {locs : List Loc} (hP : va_P D classes (cW t a ++ mW t b) H) (hD : va_D A (cW t a ++ mW t b)) (hS : va_S A s.heap H locs) {ls : Array Slot} (hl : lv_has ls 4 [(3, .int 0), (2, .ref (b 0)), (1, .ref (a 0)), (0, .ref bb)]) : W p l e room_1 s m #[Value.ref bb] below meth c H locs 600000 7302250 (lw_Z below #[Value.ref bb] s) (F0 m 930 ls []) := by
  obtain ⟨hx, hb, hr, hml, hown, hts0, hX, hbl, hlocks, hgv⟩ := id C0
  have hts : ∀ w ∈ TB, w.before #[Value.ref bb] s = true := fun w h => hts0 w (List.mem_filter.mp h).1
  have hown : s.vm.findClass RL = some m.cls := hown
  have hF : CallFix p m c code 4 s #[Value.ref bb] TB RL := ⟨hx, hb, hml, hown, hts⟩
  have hbA : ¬ A bb := fun z => absurd (hA2 bb z) (by omega)
  refine lv_aload_n hx hb dL_law_930 rfl (lv_at hl 2 rfl) ?_
  refine x_pV hF (c_X11_sitting l D t a) m_926 m_927 m_928 m_1 m_929 hd_X11_sitting ⟨Nat.le_of_ble_eq_true rfl, Nat.le_of_ble_eq_true rfl⟩ hK hN hP hS [0, 33] rfl 0 (ci := 11) rfl rfl rfl hl.1 rfl (Nat.le_of_ble_eq_true rfl) dL_law_931 ⟨Nat.le_of_ble_eq_true rfl, Nat.le_of_ble_eq_true rfl⟩ (fun H locs hP hS => ?_)
  refine lv_aload_n hx hb dL_law_934 rfl (lv_at hl 1 rfl) ?_
  refine x_pV hF (c_X12_sitting l D t b) m_1794 m_1795 m_1796 m_13 m_1797 hd_X12_sitting ⟨Nat.le_of_ble_eq_true rfl, Nat.le_of_ble_eq_true rfl⟩ hK hN hP hS [109, 110] rfl 0 (ci := 12) rfl rfl rfl hl.1 rfl (Nat.le_of_ble_eq_true rfl) dL_law_935 ⟨Nat.le_of_ble_eq_true rfl, Nat.le_of_ble_eq_true rfl⟩ (fun H locs hP hS => ?_)
  refine lv_icmp_eq (tgt := 2006) hx hb dL_law_938 (by decide) (fun _ => ?_) (fun c9 => absurd rfl c9)
  refine lv_iinc (v := 6) (lv' := [(3, .int 6), (2, .ref (b 0)), (1, .ref (a 0)), (0, .ref bb)]) hx hb dL_law_2006 hl (k := 0) rfl (by decide) (by decide) rfl (fun ls hl => ?_)
  refine lv_goto (tgt := 18) hx hb dL_law_2009 (by decide) ?_
  exact law_end C0 hL2 hA2 hS (lv_sub hl [0, 3] rfl)

set_option maxHeartbeats 4000000 in
set_option maxRecDepth 100000 in
theorem law_23 {p : Program} {l : Launch} {e : Env} {s : State} {m : MethodId} {below : List Frame} {meth : Method} {c : Code} {bb L : Nat} {xs : Nat → Int32} {A : Nat → Prop} {D : va_G} {t : Nat → ClassId} {a b : Nat → Nat} (C0 : lw_At p s m meth c bb L xs) (hL : 6 ≤ L) (hL2 : L ≤ 6) (hA : ∀ q, s.heap.size ≤ q → A q) (hA2 : ∀ q, A q → s.heap.size ≤ q) (hK : va_K D classes (TY t) s) (hN : NW s) {H : Heap} {locs : List Loc} (hP : va_P D classes (cW t a ++ mW t b) H) (hD : va_D A (cW t a ++ mW t b)) (hS : va_S A s.heap H locs) {ls : Array Slot} (hl : lv_has ls 4 [(3, .int 0), (2, .ref (b 0)), (1, .ref (a 0)), (0, .ref bb)]) : W p l e room_1 s m #[Value.ref bb] below meth c H locs 600000 7302250 (lw_Z below #[Value.ref bb] s) (F0 m 943 ls []) := by
  obtain ⟨hx, hb, hr, hml, hown, hts0, hX, hbl, hlocks, hgv⟩ := id C0
  have hts : ∀ w ∈ TB, w.before #[Value.ref bb] s = true := fun w h => hts0 w (List.mem_filter.mp h).1
  have hown : s.vm.findClass RL = some m.cls := hown
  have hF : CallFix p m c code 4 s #[Value.ref bb] TB RL := ⟨hx, hb, hml, hown, hts⟩
  have hbA : ¬ A bb := fun z => absurd (hA2 bb z) (by omega)
  refine lv_aload_n hx hb dL_law_943 rfl (lv_at hl 2 rfl) ?_
  refine x_pV hF (c_X11_term l D t a) m_930 m_931 m_932 m_1 m_933 hd_X11_term ⟨Nat.le_of_ble_eq_true rfl, Nat.le_of_ble_eq_true rfl⟩ hK hN hP hS [0, 33] rfl 0 (ci := 11) rfl rfl rfl hl.1 rfl (Nat.le_of_ble_eq_true rfl) dL_law_944 ⟨Nat.le_of_ble_eq_true rfl, Nat.le_of_ble_eq_true rfl⟩ (fun H locs hP hS => ?_)
  refine lv_aload_n hx hb dL_law_947 rfl (lv_at hl 1 rfl) ?_
  refine x_pV hF (c_X12_term l D t b) m_1798 m_1799 m_1800 m_13 m_1801 hd_X12_term ⟨Nat.le_of_ble_eq_true rfl, Nat.le_of_ble_eq_true rfl⟩ hK hN hP hS [109, 110] rfl 0 (ci := 12) rfl rfl rfl hl.1 rfl (Nat.le_of_ble_eq_true rfl) dL_law_948 ⟨Nat.le_of_ble_eq_true rfl, Nat.le_of_ble_eq_true rfl⟩ (fun H locs hP hS => ?_)
  refine lv_icmp_eq (tgt := 2006) hx hb dL_law_951 (by decide) (fun _ => ?_) (fun c9 => absurd rfl c9)
  refine lv_iinc (v := 6) (lv' := [(3, .int 6), (2, .ref (b 0)), (1, .ref (a 0)), (0, .ref bb)]) hx hb dL_law_2006 hl (k := 0) rfl (by decide) (by decide) rfl (fun ls hl => ?_)
  refine lv_goto (tgt := 18) hx hb dL_law_2009 (by decide) ?_
  exact law_end C0 hL2 hA2 hS (lv_sub hl [0, 3] rfl)

set_option maxHeartbeats 4000000 in
set_option maxRecDepth 100000 in
theorem law_24 {p : Program} {l : Launch} {e : Env} {s : State} {m : MethodId} {below : List Frame} {meth : Method} {c : Code} {bb L : Nat} {xs : Nat → Int32} {A : Nat → Prop} {D : va_G} {t : Nat → ClassId} {a b : Nat → Nat} (C0 : lw_At p s m meth c bb L xs) (hL : 6 ≤ L) (hL2 : L ≤ 6) (hA : ∀ q, s.heap.size ≤ q → A q) (hA2 : ∀ q, A q → s.heap.size ≤ q) (hK : va_K D classes (TY t) s) (hN : NW s) {H : Heap} {locs : List Loc} (hP : va_P D classes (cW t a ++ mW t b) H) (hD : va_D A (cW t a ++ mW t b)) (hS : va_S A s.heap H locs) {ls : Array Slot} (hl : lv_has ls 4 [(3, .int 0), (2, .ref (b 0)), (1, .ref (a 0)), (0, .ref bb)]) : W p l e room_1 s m #[Value.ref bb] below meth c H locs 600000 7302250 (lw_Z below #[Value.ref bb] s) (F0 m 956 ls []) := by
  obtain ⟨hx, hb, hr, hml, hown, hts0, hX, hbl, hlocks, hgv⟩ := id C0
  have hts : ∀ w ∈ TB, w.before #[Value.ref bb] s = true := fun w h => hts0 w (List.mem_filter.mp h).1
  have hown : s.vm.findClass RL = some m.cls := hown
  have hF : CallFix p m c code 4 s #[Value.ref bb] TB RL := ⟨hx, hb, hml, hown, hts⟩
  have hbA : ¬ A bb := fun z => absurd (hA2 bb z) (by omega)
  refine lv_aload_n hx hb dL_law_956 rfl (lv_at hl 2 rfl) ?_
  refine x_pV hF (c_X11_undo l D t a) m_940 m_941 m_942 m_1 m_943 hd_X11_undo ⟨Nat.le_of_ble_eq_true rfl, Nat.le_of_ble_eq_true rfl⟩ hK hN hP hS [0, 33] rfl 0 (ci := 11) rfl rfl rfl hl.1 rfl (Nat.le_of_ble_eq_true rfl) dL_law_957 ⟨Nat.le_of_ble_eq_true rfl, Nat.le_of_ble_eq_true rfl⟩ (fun H locs hP hS => ?_)
  refine lv_aload_n hx hb dL_law_960 rfl (lv_at hl 1 rfl) ?_
  refine x_pV hF (c_X12_undo l D t b) m_1806 m_1807 m_1808 m_13 m_1809 hd_X12_undo ⟨Nat.le_of_ble_eq_true rfl, Nat.le_of_ble_eq_true rfl⟩ hK hN hP hS [109, 110] rfl 0 (ci := 12) rfl rfl rfl hl.1 rfl (Nat.le_of_ble_eq_true rfl) dL_law_961 ⟨Nat.le_of_ble_eq_true rfl, Nat.le_of_ble_eq_true rfl⟩ (fun H locs hP hS => ?_)
  refine lv_icmp_eq (tgt := 2006) hx hb dL_law_964 (by decide) (fun _ => ?_) (fun c9 => absurd rfl c9)
  refine lv_iinc (v := 6) (lv' := [(3, .int 6), (2, .ref (b 0)), (1, .ref (a 0)), (0, .ref bb)]) hx hb dL_law_2006 hl (k := 0) rfl (by decide) (by decide) rfl (fun ls hl => ?_)
  refine lv_goto (tgt := 18) hx hb dL_law_2009 (by decide) ?_
  exact law_end C0 hL2 hA2 hS (lv_sub hl [0, 3] rfl)

set_option maxHeartbeats 4000000 in
set_option maxRecDepth 100000 in
theorem law_25 {p : Program} {l : Launch} {e : Env} {s : State} {m : MethodId} {below : List Frame} {meth : Method} {c : Code} {bb L : Nat} {xs : Nat → Int32} {A : Nat → Prop} {D : va_G} {t : Nat → ClassId} {a b : Nat → Nat} (C0 : lw_At p s m meth c bb L xs) (hL : 6 ≤ L) (hL2 : L ≤ 6) (hA : ∀ q, s.heap.size ≤ q → A q) (hA2 : ∀ q, A q → s.heap.size ≤ q) (hK : va_K D classes (TY t) s) (hN : NW s) {H : Heap} {locs : List Loc} (hP : va_P D classes (cW t a ++ mW t b) H) (hD : va_D A (cW t a ++ mW t b)) (hS : va_S A s.heap H locs) {ls : Array Slot} (hl : lv_has ls 4 [(3, .int 0), (2, .ref (b 0)), (1, .ref (a 0)), (0, .ref bb)]) : W p l e room_1 s m #[Value.ref bb] below meth c H locs 600000 7302250 (lw_Z below #[Value.ref bb] s) (F0 m 969 ls []) := by
  obtain ⟨hx, hb, hr, hml, hown, hts0, hX, hbl, hlocks, hgv⟩ := id C0
  have hts : ∀ w ∈ TB, w.before #[Value.ref bb] s = true := fun w h => hts0 w (List.mem_filter.mp h).1
  have hown : s.vm.findClass RL = some m.cls := hown
  have hF : CallFix p m c code 4 s #[Value.ref bb] TB RL := ⟨hx, hb, hml, hown, hts⟩
  have hbA : ¬ A bb := fun z => absurd (hA2 bb z) (by omega)
  refine lv_aload_n hx hb dL_law_969 rfl (lv_at hl 2 rfl) ?_
  refine lv_aload_n hx hb dL_law_970 rfl (lv_at hl 3 rfl) ?_
  refine lv_iload_n hx hb dL_law_971 rfl (lv_at hl 0 rfl) ?_
  refine lv_iconst (v := 1) hx hb dL_law_972 (by decide) ?_
  refine lv_iadd hx hb dL_law_973 ?_
  refine x_seti 1 (by decide) ?_
  refine va_sld hx hb hX hbl hbA hS (vp_in_nI (n := 1) (by omega) (by omega)) dL_law_974 ?_
  refine x_seti (xs 1) rfl ?_
  refine x_pV hF (c_X11_led l D t a (xs 1)) m_948 m_949 m_950 m_1 m_951 hd_X11_led ⟨Nat.le_of_ble_eq_true rfl, Nat.le_of_ble_eq_true rfl⟩ hK hN hP hS [0, 33] rfl 0 (ci := 11) rfl rfl rfl hl.1 rfl (Nat.le_of_ble_eq_true rfl) dL_law_975 ⟨Nat.le_of_ble_eq_true rfl, Nat.le_of_ble_eq_true rfl⟩ (fun H locs hP hS => ?_)
  refine lv_aload_n hx hb dL_law_978 rfl (lv_at hl 1 rfl) ?_
  refine lv_aload_n hx hb dL_law_979 rfl (lv_at hl 3 rfl) ?_
  refine lv_iload_n hx hb dL_law_980 rfl (lv_at hl 0 rfl) ?_
  refine lv_iconst (v := 1) hx hb dL_law_981 (by decide) ?_
  refine lv_iadd hx hb dL_law_982 ?_
  refine x_seti 1 (by decide) ?_
  refine va_sld hx hb hX hbl hbA hS (vp_in_nI (n := 1) (by omega) (by omega)) dL_law_983 ?_
  refine x_seti (xs 1) rfl ?_
  refine x_pV hF (c_X12_led l D t b (xs 1)) m_1810 m_1811 m_1812 m_13 m_1813 hd_X12_led ⟨Nat.le_of_ble_eq_true rfl, Nat.le_of_ble_eq_true rfl⟩ hK hN hP hS [109, 110] rfl 0 (ci := 12) rfl rfl rfl hl.1 rfl (Nat.le_of_ble_eq_true rfl) dL_law_984 ⟨Nat.le_of_ble_eq_true rfl, Nat.le_of_ble_eq_true rfl⟩ (fun H locs hP hS => ?_)
  refine lv_icmp_eq (tgt := 2006) hx hb dL_law_987 (by decide) (fun _ => ?_) (fun c9 => absurd rfl c9)
  refine lv_iinc (v := 6) (lv' := [(3, .int 6), (2, .ref (b 0)), (1, .ref (a 0)), (0, .ref bb)]) hx hb dL_law_2006 hl (k := 0) rfl (by decide) (by decide) rfl (fun ls hl => ?_)
  refine lv_goto (tgt := 18) hx hb dL_law_2009 (by decide) ?_
  exact law_end C0 hL2 hA2 hS (lv_sub hl [0, 3] rfl)

set_option maxHeartbeats 4000000 in
set_option maxRecDepth 100000 in
theorem law_26 {p : Program} {l : Launch} {e : Env} {s : State} {m : MethodId} {below : List Frame} {meth : Method} {c : Code} {bb L : Nat} {xs : Nat → Int32} {A : Nat → Prop} {D : va_G} {t : Nat → ClassId} {a b : Nat → Nat} (C0 : lw_At p s m meth c bb L xs) (hL : 6 ≤ L) (hL2 : L ≤ 6) (hA : ∀ q, s.heap.size ≤ q → A q) (hA2 : ∀ q, A q → s.heap.size ≤ q) (hK : va_K D classes (TY t) s) (hN : NW s) {H : Heap} {locs : List Loc} (hP : va_P D classes (cW t a ++ mW t b) H) (hD : va_D A (cW t a ++ mW t b)) (hS : va_S A s.heap H locs) {ls : Array Slot} (hl : lv_has ls 4 [(3, .int 0), (2, .ref (b 0)), (1, .ref (a 0)), (0, .ref bb)]) : W p l e room_1 s m #[Value.ref bb] below meth c H locs 600000 7302250 (lw_Z below #[Value.ref bb] s) (F0 m 992 ls []) := by
  obtain ⟨hx, hb, hr, hml, hown, hts0, hX, hbl, hlocks, hgv⟩ := id C0
  have hts : ∀ w ∈ TB, w.before #[Value.ref bb] s = true := fun w h => hts0 w (List.mem_filter.mp h).1
  have hown : s.vm.findClass RL = some m.cls := hown
  have hF : CallFix p m c code 4 s #[Value.ref bb] TB RL := ⟨hx, hb, hml, hown, hts⟩
  have hbA : ¬ A bb := fun z => absurd (hA2 bb z) (by omega)
  refine lv_aload_n hx hb dL_law_992 rfl (lv_at hl 2 rfl) ?_
  refine x_pV hF (c_X11_dies l D t a) m_952 m_953 m_954 m_1 m_955 hd_X11_dies ⟨Nat.le_of_ble_eq_true rfl, Nat.le_of_ble_eq_true rfl⟩ hK hN hP hS [0, 33] rfl 0 (ci := 11) rfl rfl rfl hl.1 rfl (Nat.le_of_ble_eq_true rfl) dL_law_993 ⟨Nat.le_of_ble_eq_true rfl, Nat.le_of_ble_eq_true rfl⟩ (fun H locs hP hS => ?_)
  refine lv_aload_n hx hb dL_law_996 rfl (lv_at hl 1 rfl) ?_
  refine x_pV hF (c_X12_dies l D t b) m_1814 m_1815 m_1816 m_13 m_1817 hd_X12_dies ⟨Nat.le_of_ble_eq_true rfl, Nat.le_of_ble_eq_true rfl⟩ hK hN hP hS [109, 110] rfl 0 (ci := 12) rfl rfl rfl hl.1 rfl (Nat.le_of_ble_eq_true rfl) dL_law_997 ⟨Nat.le_of_ble_eq_true rfl, Nat.le_of_ble_eq_true rfl⟩ (fun H locs hP hS => ?_)
  refine lv_icmp_eq (tgt := 2006) hx hb dL_law_1000 (by decide) (fun _ => ?_) (fun c9 => absurd rfl c9)
  refine lv_iinc (v := 6) (lv' := [(3, .int 6), (2, .ref (b 0)), (1, .ref (a 0)), (0, .ref bb)]) hx hb dL_law_2006 hl (k := 0) rfl (by decide) (by decide) rfl (fun ls hl => ?_)
  refine lv_goto (tgt := 18) hx hb dL_law_2009 (by decide) ?_
  exact law_end C0 hL2 hA2 hS (lv_sub hl [0, 3] rfl)

set_option maxHeartbeats 4000000 in
set_option maxRecDepth 100000 in
theorem law_27 {p : Program} {l : Launch} {e : Env} {s : State} {m : MethodId} {below : List Frame} {meth : Method} {c : Code} {bb L : Nat} {xs : Nat → Int32} {A : Nat → Prop} {D : va_G} {t : Nat → ClassId} {a b : Nat → Nat} (C0 : lw_At p s m meth c bb L xs) (hL : 6 ≤ L) (hL2 : L ≤ 6) (hA : ∀ q, s.heap.size ≤ q → A q) (hA2 : ∀ q, A q → s.heap.size ≤ q) (hK : va_K D classes (TY t) s) (hN : NW s) {H : Heap} {locs : List Loc} (hP : va_P D classes (cW t a ++ mW t b) H) (hD : va_D A (cW t a ++ mW t b)) (hS : va_S A s.heap H locs) {ls : Array Slot} (hl : lv_has ls 4 [(3, .int 0), (2, .ref (b 0)), (1, .ref (a 0)), (0, .ref bb)]) : W p l e room_1 s m #[Value.ref bb] below meth c H locs 600000 7302250 (lw_Z below #[Value.ref bb] s) (F0 m 1005 ls []) := by
  obtain ⟨hx, hb, hr, hml, hown, hts0, hX, hbl, hlocks, hgv⟩ := id C0
  have hts : ∀ w ∈ TB, w.before #[Value.ref bb] s = true := fun w h => hts0 w (List.mem_filter.mp h).1
  have hown : s.vm.findClass RL = some m.cls := hown
  have hF : CallFix p m c code 4 s #[Value.ref bb] TB RL := ⟨hx, hb, hml, hown, hts⟩
  have hbA : ¬ A bb := fun z => absurd (hA2 bb z) (by omega)
  refine lv_aload_n hx hb dL_law_1005 rfl (lv_at hl 2 rfl) ?_
  refine lv_aload_n hx hb dL_law_1006 rfl (lv_at hl 3 rfl) ?_
  refine lv_iload_n hx hb dL_law_1007 rfl (lv_at hl 0 rfl) ?_
  refine lv_iconst (v := 1) hx hb dL_law_1008 (by decide) ?_
  refine lv_iadd hx hb dL_law_1009 ?_
  refine x_seti 1 (by decide) ?_
  refine va_sld hx hb hX hbl hbA hS (vp_in_nI (n := 1) (by omega) (by omega)) dL_law_1010 ?_
  refine x_seti (xs 1) rfl ?_
  refine x_pV hF (c_X11_said l D t a (xs 1)) m_964 m_965 m_966 m_1 m_967 hd_X11_said ⟨Nat.le_of_ble_eq_true rfl, Nat.le_of_ble_eq_true rfl⟩ hK hN hP hS [0, 33] rfl 0 (ci := 11) rfl rfl rfl hl.1 rfl (Nat.le_of_ble_eq_true rfl) dL_law_1011 ⟨Nat.le_of_ble_eq_true rfl, Nat.le_of_ble_eq_true rfl⟩ (fun H locs hP hS => ?_)
  refine lv_aload_n hx hb dL_law_1014 rfl (lv_at hl 1 rfl) ?_
  refine lv_aload_n hx hb dL_law_1015 rfl (lv_at hl 3 rfl) ?_
  refine lv_iload_n hx hb dL_law_1016 rfl (lv_at hl 0 rfl) ?_
  refine lv_iconst (v := 1) hx hb dL_law_1017 (by decide) ?_
  refine lv_iadd hx hb dL_law_1018 ?_
  refine x_seti 1 (by decide) ?_
  refine va_sld hx hb hX hbl hbA hS (vp_in_nI (n := 1) (by omega) (by omega)) dL_law_1019 ?_
  refine x_seti (xs 1) rfl ?_
  refine x_pV hF (c_X12_said l D t b (xs 1)) m_1818 m_1819 m_1820 m_13 m_1821 hd_X12_said ⟨Nat.le_of_ble_eq_true rfl, Nat.le_of_ble_eq_true rfl⟩ hK hN hP hS [109, 110] rfl 0 (ci := 12) rfl rfl rfl hl.1 rfl (Nat.le_of_ble_eq_true rfl) dL_law_1020 ⟨Nat.le_of_ble_eq_true rfl, Nat.le_of_ble_eq_true rfl⟩ (fun H locs hP hS => ?_)
  refine lv_icmp_eq (tgt := 2006) hx hb dL_law_1023 (by decide) (fun _ => ?_) (fun c9 => absurd rfl c9)
  refine lv_iinc (v := 6) (lv' := [(3, .int 6), (2, .ref (b 0)), (1, .ref (a 0)), (0, .ref bb)]) hx hb dL_law_2006 hl (k := 0) rfl (by decide) (by decide) rfl (fun ls hl => ?_)
  refine lv_goto (tgt := 18) hx hb dL_law_2009 (by decide) ?_
  exact law_end C0 hL2 hA2 hS (lv_sub hl [0, 3] rfl)

set_option maxHeartbeats 4000000 in
set_option maxRecDepth 100000 in
theorem law_28 {p : Program} {l : Launch} {e : Env} {s : State} {m : MethodId} {below : List Frame} {meth : Method} {c : Code} {bb L : Nat} {xs : Nat → Int32} {A : Nat → Prop} {D : va_G} {t : Nat → ClassId} {a b : Nat → Nat} (C0 : lw_At p s m meth c bb L xs) (hL : 6 ≤ L) (hL2 : L ≤ 6) (hA : ∀ q, s.heap.size ≤ q → A q) (hA2 : ∀ q, A q → s.heap.size ≤ q) (hK : va_K D classes (TY t) s) (hN : NW s) {H : Heap} {locs : List Loc} (hP : va_P D classes (cW t a ++ mW t b) H) (hD : va_D A (cW t a ++ mW t b)) (hS : va_S A s.heap H locs) {ls : Array Slot} (hl : lv_has ls 4 [(3, .int 0), (2, .ref (b 0)), (1, .ref (a 0)), (0, .ref bb)]) : W p l e room_1 s m #[Value.ref bb] below meth c H locs 600000 7302250 (lw_Z below #[Value.ref bb] s) (F0 m 1028 ls []) := by
  obtain ⟨hx, hb, hr, hml, hown, hts0, hX, hbl, hlocks, hgv⟩ := id C0
  have hts : ∀ w ∈ TB, w.before #[Value.ref bb] s = true := fun w h => hts0 w (List.mem_filter.mp h).1
  have hown : s.vm.findClass RL = some m.cls := hown
  have hF : CallFix p m c code 4 s #[Value.ref bb] TB RL := ⟨hx, hb, hml, hown, hts⟩
  have hbA : ¬ A bb := fun z => absurd (hA2 bb z) (by omega)
  refine lv_aload_n hx hb dL_law_1028 rfl (lv_at hl 2 rfl) ?_
  refine lv_aload_n hx hb dL_law_1029 rfl (lv_at hl 3 rfl) ?_
  refine lv_iload_n hx hb dL_law_1030 rfl (lv_at hl 0 rfl) ?_
  refine lv_iconst (v := 1) hx hb dL_law_1031 (by decide) ?_
  refine lv_iadd hx hb dL_law_1032 ?_
  refine x_seti 1 (by decide) ?_
  refine va_sld hx hb hX hbl hbA hS (vp_in_nI (n := 1) (by omega) (by omega)) dL_law_1033 ?_
  refine x_seti (xs 1) rfl ?_
  refine x_pV hF (c_X11_least l D t a (xs 1)) m_997 m_998 m_999 m_1 m_1000 hd_X11_least ⟨Nat.le_of_ble_eq_true rfl, Nat.le_of_ble_eq_true rfl⟩ hK hN hP hS [0, 33] rfl 0 (ci := 11) rfl rfl rfl hl.1 rfl (Nat.le_of_ble_eq_true rfl) dL_law_1034 ⟨Nat.le_of_ble_eq_true rfl, Nat.le_of_ble_eq_true rfl⟩ (fun H locs hP hS => ?_)
  refine lv_aload_n hx hb dL_law_1037 rfl (lv_at hl 1 rfl) ?_
  refine lv_aload_n hx hb dL_law_1038 rfl (lv_at hl 3 rfl) ?_
  refine lv_iload_n hx hb dL_law_1039 rfl (lv_at hl 0 rfl) ?_
  refine lv_iconst (v := 1) hx hb dL_law_1040 (by decide) ?_
  refine lv_iadd hx hb dL_law_1041 ?_
  refine x_seti 1 (by decide) ?_
  refine va_sld hx hb hX hbl hbA hS (vp_in_nI (n := 1) (by omega) (by omega)) dL_law_1042 ?_
  refine x_seti (xs 1) rfl ?_
  refine x_pV hF (c_X12_least l D t b (xs 1)) m_1838 m_1839 m_1840 m_13 m_1841 hd_X12_least ⟨Nat.le_of_ble_eq_true rfl, Nat.le_of_ble_eq_true rfl⟩ hK hN hP hS [109, 110] rfl 0 (ci := 12) rfl rfl rfl hl.1 rfl (Nat.le_of_ble_eq_true rfl) dL_law_1043 ⟨Nat.le_of_ble_eq_true rfl, Nat.le_of_ble_eq_true rfl⟩ (fun H locs hP hS => ?_)
  refine lv_icmp_eq (tgt := 2006) hx hb dL_law_1046 (by decide) (fun _ => ?_) (fun c9 => absurd rfl c9)
  refine lv_iinc (v := 6) (lv' := [(3, .int 6), (2, .ref (b 0)), (1, .ref (a 0)), (0, .ref bb)]) hx hb dL_law_2006 hl (k := 0) rfl (by decide) (by decide) rfl (fun ls hl => ?_)
  refine lv_goto (tgt := 18) hx hb dL_law_2009 (by decide) ?_
  exact law_end C0 hL2 hA2 hS (lv_sub hl [0, 3] rfl)

set_option maxHeartbeats 4000000 in
set_option maxRecDepth 100000 in
theorem law_29 {p : Program} {l : Launch} {e : Env} {s : State} {m : MethodId} {below : List Frame} {meth : Method} {c : Code} {bb L : Nat} {xs : Nat → Int32} {A : Nat → Prop} {D : va_G} {t : Nat → ClassId} {a b : Nat → Nat} (C0 : lw_At p s m meth c bb L xs) (hL : 6 ≤ L) (hL2 : L ≤ 6) (hA : ∀ q, s.heap.size ≤ q → A q) (hA2 : ∀ q, A q → s.heap.size ≤ q) (hK : va_K D classes (TY t) s) (hN : NW s) {H : Heap} {locs : List Loc} (hP : va_P D classes (cW t a ++ mW t b) H) (hD : va_D A (cW t a ++ mW t b)) (hS : va_S A s.heap H locs) {ls : Array Slot} (hl : lv_has ls 4 [(3, .int 0), (2, .ref (b 0)), (1, .ref (a 0)), (0, .ref bb)]) : W p l e room_1 s m #[Value.ref bb] below meth c H locs 600000 7302250 (lw_Z below #[Value.ref bb] s) (F0 m 1051 ls []) := by
  obtain ⟨hx, hb, hr, hml, hown, hts0, hX, hbl, hlocks, hgv⟩ := id C0
  have hts : ∀ w ∈ TB, w.before #[Value.ref bb] s = true := fun w h => hts0 w (List.mem_filter.mp h).1
  have hown : s.vm.findClass RL = some m.cls := hown
  have hF : CallFix p m c code 4 s #[Value.ref bb] TB RL := ⟨hx, hb, hml, hown, hts⟩
  have hbA : ¬ A bb := fun z => absurd (hA2 bb z) (by omega)
  refine lv_aload_n hx hb dL_law_1051 rfl (lv_at hl 2 rfl) ?_
  refine lv_aload_n hx hb dL_law_1052 rfl (lv_at hl 3 rfl) ?_
  refine lv_iload_n hx hb dL_law_1053 rfl (lv_at hl 0 rfl) ?_
  refine lv_iconst (v := 1) hx hb dL_law_1054 (by decide) ?_
  refine lv_iadd hx hb dL_law_1055 ?_
  refine x_seti 1 (by decide) ?_
  refine va_sld hx hb hX hbl hbA hS (vp_in_nI (n := 1) (by omega) (by omega)) dL_law_1056 ?_
  refine x_seti (xs 1) rfl ?_
  refine x_pV hF (c_X11_round l D t a (xs 1)) m_1001 m_1002 m_1003 m_1 m_1004 hd_X11_round ⟨Nat.le_of_ble_eq_true rfl, Nat.le_of_ble_eq_true rfl⟩ hK hN hP hS [0, 33] rfl 0 (ci := 11) rfl rfl rfl hl.1 rfl (Nat.le_of_ble_eq_true rfl) dL_law_1057 ⟨Nat.le_of_ble_eq_true rfl, Nat.le_of_ble_eq_true rfl⟩ (fun H locs hP hS => ?_)
  refine lv_aload_n hx hb dL_law_1060 rfl (lv_at hl 1 rfl) ?_
  refine lv_aload_n hx hb dL_law_1061 rfl (lv_at hl 3 rfl) ?_
  refine lv_iload_n hx hb dL_law_1062 rfl (lv_at hl 0 rfl) ?_
  refine lv_iconst (v := 1) hx hb dL_law_1063 (by decide) ?_
  refine lv_iadd hx hb dL_law_1064 ?_
  refine x_seti 1 (by decide) ?_
  refine va_sld hx hb hX hbl hbA hS (vp_in_nI (n := 1) (by omega) (by omega)) dL_law_1065 ?_
  refine x_seti (xs 1) rfl ?_
  refine x_pV hF (c_X12_round l D t b (xs 1)) m_1842 m_1843 m_1844 m_13 m_1845 hd_X12_round ⟨Nat.le_of_ble_eq_true rfl, Nat.le_of_ble_eq_true rfl⟩ hK hN hP hS [109, 110] rfl 0 (ci := 12) rfl rfl rfl hl.1 rfl (Nat.le_of_ble_eq_true rfl) dL_law_1066 ⟨Nat.le_of_ble_eq_true rfl, Nat.le_of_ble_eq_true rfl⟩ (fun H locs hP hS => ?_)
  refine lv_icmp_eq (tgt := 2006) hx hb dL_law_1069 (by decide) (fun _ => ?_) (fun c9 => absurd rfl c9)
  refine lv_iinc (v := 6) (lv' := [(3, .int 6), (2, .ref (b 0)), (1, .ref (a 0)), (0, .ref bb)]) hx hb dL_law_2006 hl (k := 0) rfl (by decide) (by decide) rfl (fun ls hl => ?_)
  refine lv_goto (tgt := 18) hx hb dL_law_2009 (by decide) ?_
  exact law_end C0 hL2 hA2 hS (lv_sub hl [0, 3] rfl)

set_option maxHeartbeats 4000000 in
set_option maxRecDepth 100000 in
theorem law_30 {p : Program} {l : Launch} {e : Env} {s : State} {m : MethodId} {below : List Frame} {meth : Method} {c : Code} {bb L : Nat} {xs : Nat → Int32} {A : Nat → Prop} {D : va_G} {t : Nat → ClassId} {a b : Nat → Nat} (C0 : lw_At p s m meth c bb L xs) (hL : 6 ≤ L) (hL2 : L ≤ 6) (hA : ∀ q, s.heap.size ≤ q → A q) (hA2 : ∀ q, A q → s.heap.size ≤ q) (hK : va_K D classes (TY t) s) (hN : NW s) {H : Heap} {locs : List Loc} (hP : va_P D classes (cW t a ++ mW t b) H) (hD : va_D A (cW t a ++ mW t b)) (hS : va_S A s.heap H locs) {ls : Array Slot} (hl : lv_has ls 4 [(3, .int 0), (2, .ref (b 0)), (1, .ref (a 0)), (0, .ref bb)]) : W p l e room_1 s m #[Value.ref bb] below meth c H locs 600000 7302250 (lw_Z below #[Value.ref bb] s) (F0 m 1074 ls []) := by
  obtain ⟨hx, hb, hr, hml, hown, hts0, hX, hbl, hlocks, hgv⟩ := id C0
  have hts : ∀ w ∈ TB, w.before #[Value.ref bb] s = true := fun w h => hts0 w (List.mem_filter.mp h).1
  have hown : s.vm.findClass RL = some m.cls := hown
  have hF : CallFix p m c code 4 s #[Value.ref bb] TB RL := ⟨hx, hb, hml, hown, hts⟩
  have hbA : ¬ A bb := fun z => absurd (hA2 bb z) (by omega)
  refine lv_aload_n hx hb dL_law_1074 rfl (lv_at hl 2 rfl) ?_
  refine x_pV hF (c_X11_dumb l D t a) m_1013 m_1014 m_1015 m_1 m_1016 hd_X11_dumb ⟨Nat.le_of_ble_eq_true rfl, Nat.le_of_ble_eq_true rfl⟩ hK hN hP hS [0, 33] rfl 0 (ci := 11) rfl rfl rfl hl.1 rfl (Nat.le_of_ble_eq_true rfl) dL_law_1075 ⟨Nat.le_of_ble_eq_true rfl, Nat.le_of_ble_eq_true rfl⟩ (fun H locs hP hS => ?_)
  refine lv_aload_n hx hb dL_law_1078 rfl (lv_at hl 1 rfl) ?_
  refine x_pV hF (c_X12_dumb l D t b) m_1846 m_1847 m_1848 m_13 m_1849 hd_X12_dumb ⟨Nat.le_of_ble_eq_true rfl, Nat.le_of_ble_eq_true rfl⟩ hK hN hP hS [109, 110] rfl 0 (ci := 12) rfl rfl rfl hl.1 rfl (Nat.le_of_ble_eq_true rfl) dL_law_1079 ⟨Nat.le_of_ble_eq_true rfl, Nat.le_of_ble_eq_true rfl⟩ (fun H locs hP hS => ?_)
  refine lv_icmp_eq (tgt := 2006) hx hb dL_law_1082 (by decide) (fun _ => ?_) (fun c9 => absurd rfl c9)
  refine lv_iinc (v := 6) (lv' := [(3, .int 6), (2, .ref (b 0)), (1, .ref (a 0)), (0, .ref bb)]) hx hb dL_law_2006 hl (k := 0) rfl (by decide) (by decide) rfl (fun ls hl => ?_)
  refine lv_goto (tgt := 18) hx hb dL_law_2009 (by decide) ?_
  exact law_end C0 hL2 hA2 hS (lv_sub hl [0, 3] rfl)

set_option maxHeartbeats 4000000 in
set_option maxRecDepth 100000 in
theorem law_31 {p : Program} {l : Launch} {e : Env} {s : State} {m : MethodId} {below : List Frame} {meth : Method} {c : Code} {bb L : Nat} {xs : Nat → Int32} {A : Nat → Prop} {D : va_G} {t : Nat → ClassId} {a b : Nat → Nat} (C0 : lw_At p s m meth c bb L xs) (hL : 6 ≤ L) (hL2 : L ≤ 6) (hA : ∀ q, s.heap.size ≤ q → A q) (hA2 : ∀ q, A q → s.heap.size ≤ q) (hK : va_K D classes (TY t) s) (hN : NW s) {H : Heap} {locs : List Loc} (hP : va_P D classes (cW t a ++ mW t b) H) (hD : va_D A (cW t a ++ mW t b)) (hS : va_S A s.heap H locs) {ls : Array Slot} (hl : lv_has ls 4 [(3, .int 0), (2, .ref (b 0)), (1, .ref (a 0)), (0, .ref bb)]) : W p l e room_1 s m #[Value.ref bb] below meth c H locs 600000 7302250 (lw_Z below #[Value.ref bb] s) (F0 m 1087 ls []) := by
  obtain ⟨hx, hb, hr, hml, hown, hts0, hX, hbl, hlocks, hgv⟩ := id C0
  have hts : ∀ w ∈ TB, w.before #[Value.ref bb] s = true := fun w h => hts0 w (List.mem_filter.mp h).1
  have hown : s.vm.findClass RL = some m.cls := hown
  have hF : CallFix p m c code 4 s #[Value.ref bb] TB RL := ⟨hx, hb, hml, hown, hts⟩
  have hbA : ¬ A bb := fun z => absurd (hA2 bb z) (by omega)
  refine lv_aload_n hx hb dL_law_1087 rfl (lv_at hl 2 rfl) ?_
  refine lv_aload_n hx hb dL_law_1088 rfl (lv_at hl 3 rfl) ?_
  refine lv_iload_n hx hb dL_law_1089 rfl (lv_at hl 0 rfl) ?_
  refine lv_iconst (v := 1) hx hb dL_law_1090 (by decide) ?_
  refine lv_iadd hx hb dL_law_1091 ?_
  refine x_seti 1 (by decide) ?_
  refine va_sld hx hb hX hbl hbA hS (vp_in_nI (n := 1) (by omega) (by omega)) dL_law_1092 ?_
  refine x_seti (xs 1) rfl ?_
  refine x_pV hF (c_X11_cost l D t a (xs 1)) m_1021 m_1022 m_1023 m_1 m_1024 hd_X11_cost ⟨Nat.le_of_ble_eq_true rfl, Nat.le_of_ble_eq_true rfl⟩ hK hN hP hS [0, 33] rfl 0 (ci := 11) rfl rfl rfl hl.1 rfl (Nat.le_of_ble_eq_true rfl) dL_law_1093 ⟨Nat.le_of_ble_eq_true rfl, Nat.le_of_ble_eq_true rfl⟩ (fun H locs hP hS => ?_)
  refine lv_aload_n hx hb dL_law_1096 rfl (lv_at hl 1 rfl) ?_
  refine lv_aload_n hx hb dL_law_1097 rfl (lv_at hl 3 rfl) ?_
  refine lv_iload_n hx hb dL_law_1098 rfl (lv_at hl 0 rfl) ?_
  refine lv_iconst (v := 1) hx hb dL_law_1099 (by decide) ?_
  refine lv_iadd hx hb dL_law_1100 ?_
  refine x_seti 1 (by decide) ?_
  refine va_sld hx hb hX hbl hbA hS (vp_in_nI (n := 1) (by omega) (by omega)) dL_law_1101 ?_
  refine x_seti (xs 1) rfl ?_
  refine x_pV hF (c_X12_cost l D t b (xs 1)) m_1854 m_1855 m_1856 m_13 m_1857 hd_X12_cost ⟨Nat.le_of_ble_eq_true rfl, Nat.le_of_ble_eq_true rfl⟩ hK hN hP hS [109, 110] rfl 0 (ci := 12) rfl rfl rfl hl.1 rfl (Nat.le_of_ble_eq_true rfl) dL_law_1102 ⟨Nat.le_of_ble_eq_true rfl, Nat.le_of_ble_eq_true rfl⟩ (fun H locs hP hS => ?_)
  refine lv_icmp_eq (tgt := 2006) hx hb dL_law_1105 (by decide) (fun _ => ?_) (fun c9 => absurd rfl c9)
  refine lv_iinc (v := 6) (lv' := [(3, .int 6), (2, .ref (b 0)), (1, .ref (a 0)), (0, .ref bb)]) hx hb dL_law_2006 hl (k := 0) rfl (by decide) (by decide) rfl (fun ls hl => ?_)
  refine lv_goto (tgt := 18) hx hb dL_law_2009 (by decide) ?_
  exact law_end C0 hL2 hA2 hS (lv_sub hl [0, 3] rfl)

