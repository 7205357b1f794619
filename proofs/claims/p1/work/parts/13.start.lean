set_option maxHeartbeats 4000000 in
set_option maxRecDepth 100000 in
theorem whole_start {p : Program} {e : Env} {s : State} {m : MethodId} {below : List Frame} {meth : Method} {c : Code} (l : Launch) {bb L : Nat} {xs : Nat → Int32} (hL : L ≤ 6) (C0 : lw_At p s m meth c bb L xs) : W p l e room_1 s m #[Value.ref bb] below meth c s.heap [] 0 0 (lw_Z below #[Value.ref bb] s) (entryFrame m ([Value.ref bb] : List Value).toArray 4) := by
  obtain ⟨hx, hb, hr, hml, hown, hts0, hX, hbl, hlocks, hgv⟩ := id C0
  have hts : ∀ w ∈ TB, w.before #[Value.ref bb] s = true := fun w h => hts0 w (List.mem_filter.mp h).1
  have hown : s.vm.findClass RL = some m.cls := hown
  have hF : CallFix p m c code 4 s #[Value.ref bb] TB RL := ⟨hx, hb, hml, hown, hts⟩
  obtain ⟨c0, i0, k0⟩ := u_known (C := RX0) (T := TX0) (N := 19) (n := 19) hts iX0 (hts _ m_47)
  obtain ⟨c1, i1, k1⟩ := u_known (C := RX1) (T := TX1) (N := 6) (n := 6) hts iX1 (hts _ m_361)
  obtain ⟨c2, i2, k2⟩ := u_known (C := RX2) (T := TX2) (N := 13) (n := 13) hts iX2 (hts _ m_270)
  obtain ⟨c3, i3, k3⟩ := u_known (C := RX3) (T := TX3) (N := 3) (n := 3) hts iX3 (hts _ m_344)
  obtain ⟨c4, i4, k4⟩ := u_known (C := RX4) (T := TX4) (N := 8) (n := 8) hts iX4 (hts _ m_234)
  obtain ⟨c5, i5, k5⟩ := u_known (C := RX5) (T := TX5) (N := 4) (n := 4) hts iX5 (hts _ m_53)
  obtain ⟨c6, i6, k6⟩ := u_known (C := RX6) (T := TX6) (N := 3) (n := 3) hts iX6 (hts _ m_412)
  obtain ⟨c7, i7, k7⟩ := u_known (C := RX7) (T := TX7) (N := 5) (n := 5) hts iX7 (hts _ m_388)
  obtain ⟨c8, i8, k8⟩ := u_known (C := RX8) (T := TX8) (N := 2) (n := 2) hts iX8 (hts _ m_31)
  obtain ⟨c9, i9, k9⟩ := u_known (C := RX9) (T := TX9) (N := 7) (n := 7) hts iX9 (hts _ m_80)
  obtain ⟨c10, i10, k10⟩ := u_known (C := RX10) (T := TX10) (N := 3) (n := 3) hts iX10 (hts _ m_326)
  obtain ⟨c11, i11, k11⟩ := u_known (C := RX11) (T := TX11) (N := 12) (n := 12) hts iX11 (hts _ m_23)
  obtain ⟨c12, i12, k12⟩ := u_known (C := RX12) (T := TX12) (N := 40) (n := 40) hts iX12 (hts _ m_1339)
  obtain ⟨D, hKc⟩ : ∃ D : va_G, ∀ (k : Nat) (q : vw_C), classes[k]? = some q → u_Kn s q.1 q.2.1 q.2.2 (D.1 k) (D.2 k) := by
    refine ⟨(fun k => [c0, c1, c2, c3, c4, c5, c6, c7, c8, c9, c10, c11, c12].getD k c0, fun k => [i0, i1, i2, i3, i4, i5, i6, i7, i8, i9, i10, i11, i12].getD k i0), ?_⟩
    intro k q hq
    match k, hq with
    | 0, hq => cases hq; exact k0
    | 1, hq => cases hq; exact k1
    | 2, hq => cases hq; exact k2
    | 3, hq => cases hq; exact k3
    | 4, hq => cases hq; exact k4
    | 5, hq => cases hq; exact k5
    | 6, hq => cases hq; exact k6
    | 7, hq => cases hq; exact k7
    | 8, hq => cases hq; exact k8
    | 9, hq => cases hq; exact k9
    | 10, hq => cases hq; exact k10
    | 11, hq => cases hq; exact k11
    | 12, hq => cases hq; exact k12
    | k + 13, hq => simp [classes] at hq
  have hN : NW s := NW.of hts0
  obtain ⟨t0, at0, ra0⟩ := x_tyP (ty := .int) (hts _ m_78) (fun _ h => h)
  obtain ⟨t1, at1, ra1⟩ := x_tyP (ty := .byte) (hts _ m_45) (fun _ h => h)
  obtain ⟨t2, at2, ra2⟩ := x_tyP (ty := .long) (hts _ m_432) (fun _ h => h)
  obtain ⟨t3, at3, ra3⟩ := x_tyP (ty := .boolean) (hts _ m_386) (fun _ h => h)
  obtain ⟨t4, at4, ra4⟩ := x_tyQ (C := RX0) (hN _ n_266)
  obtain ⟨t5, at5, ra5⟩ := x_tyQ (C := RX6) (hN _ n_268)
  obtain ⟨t, hK⟩ : ∃ t : Nat → ClassId, va_K D classes (TY t) s := by
    refine ⟨fun k => [t0, t1, t2, t3, t4, t5].getD k t0, hKc, ?_⟩
    intro k q hq
    match k, hq with
    | 0, hq => cases hq; exact ⟨at0, ra0⟩
    | 1, hq => cases hq; exact ⟨at1, ra1⟩
    | 2, hq => cases hq; exact ⟨at2, ra2⟩
    | 3, hq => cases hq; exact ⟨at3, ra3⟩
    | 4, hq => cases hq; exact ⟨at4, ra4⟩
    | 5, hq => cases hq; exact ⟨at5, ra5⟩
    | k + 6, hq => simp [TY] at hq
  obtain ⟨A, hA, hA2⟩ : ∃ A : Nat → Prop, (∀ q, s.heap.size ≤ q → A q) ∧ (∀ q, A q → s.heap.size ≤ q) := ⟨fun q => s.heap.size ≤ q, fun _ h => h, fun _ h => h⟩
  have hbA : ¬ A bb := fun z => absurd (hA2 bb z) (by omega)
  have hS : va_S A s.heap s.heap [] := va_S.rf
  have hP : va_P D classes [] s.heap := fun k q h => by simp at h
  have hD : va_D A [] := ⟨fun i j p q h => by simp at h, fun k q h => by simp at h⟩
  have hl := lv_entry ([.ref bb]) (n := 4) (Nat.le_of_ble_eq_true rfl)
  rw [lg_entry_eq]
  generalize (lg_sl ([.ref bb]) ++ List.replicate (4 - (lg_sl ([.ref bb])).length) Slot.unset).toArray = ls at hl ⊢
  have hl : lv_has ls 4 [(0, .ref bb)] := hl
  refine va_new (ci := 11) (fs := [.null, .null, .null, .null, .null, .int 0, .null, .null, .null, .null, .null, .null]) (C := RX11) (T := TX11) (N := 12) hx hb hts iX11 tyX11 tyX11_ok hown (hts _ m_22) (hts _ m_23) (hts _ m_1) hK hP hD hS hA rfl (fun j hj => dfX11 j hj) (Nat.le_of_ble_eq_true rfl) (Nat.le_of_ble_eq_true rfl) dL_law_0 (fun q1 H hP hD hS => ?_)
  have hP : va_P D classes [(q1, .inr (11, [.null, .null, .null, .null, .null, .int 0, .null, .null, .null, .null, .null, .null]))] H := hP
  have hD : va_D A [(q1, .inr (11, [.null, .null, .null, .null, .null, .int 0, .null, .null, .null, .null, .null, .null]))] := hD
  refine W.widen (k := 1) (n := 12) (Nat.le_of_ble_eq_true rfl) (Nat.le_of_ble_eq_true rfl) ?_
  refine lv_dup hx hb dL_law_3 rfl ?_
  refine x_wI (wr := []) (As := []) hF (c_X11_init l D t q1 H.size) m_24 m_25 m_1 m_26 rfl hd_X11_init ⟨Nat.le_of_ble_eq_true rfl, Nat.le_of_ble_eq_true rfl⟩ hK hN hP hD hS hA [0] [] rfl rfl (by decide) (by decide) (by decide) hl.1 rfl (Nat.le_of_ble_eq_true rfl) dL_law_4 ⟨Nat.le_of_ble_eq_true rfl, Nat.le_of_ble_eq_true rfl⟩ (fun u1 H locs hP hD hS => ?_)
  obtain ⟨a, ha⟩ := u1
  subst ha
  have hP : va_P D classes (cW t a) H := hP
  have hD : va_D A (cW t a) := hD
  refine W.widen (k := 123) (n := 6289) (Nat.le_of_ble_eq_true rfl) (Nat.le_of_ble_eq_true rfl) ?_
  refine lv_astore_n (lv' := [(1, .ref (a 0)), (0, .ref bb)]) hx hb dL_law_7 rfl hl (by decide) rfl (fun ls hl => ?_)
  refine va_new (ci := 12) (fs := [.int 0, .null, .null, .null, .null, .int 0, .null, .int 0, .int 0, .int 0, .int 0, .int 0, .int 0, .int 0, .null, .int 0, .null, .int 0, .int 0, .int 0, .null, .int 0, .null, .int 0, .null, .null, .null, .int 0, .int 0, .int 0, .null, .null, .null, .int 0, .int 0, .int 0, .null, .null, .null, .null]) (C := RX12) (T := TX12) (N := 40) hx hb hts iX12 tyX12 tyX12_ok hown (hts _ m_1338) (hts _ m_1339) (hts _ m_13) hK hP hD hS hA rfl (fun j hj => dfX12 j hj) (Nat.le_of_ble_eq_true rfl) (Nat.le_of_ble_eq_true rfl) dL_law_8 (fun q2 H hP hD hS => ?_)
  have hP : va_P D classes (cW t a ++ [(q2, .inr (12, [.int 0, .null, .null, .null, .null, .int 0, .null, .int 0, .int 0, .int 0, .int 0, .int 0, .int 0, .int 0, .null, .int 0, .null, .int 0, .int 0, .int 0, .null, .int 0, .null, .int 0, .null, .null, .null, .int 0, .int 0, .int 0, .null, .null, .null, .int 0, .int 0, .int 0, .null, .null, .null, .null]))]) H := hP
  have hD : va_D A (cW t a ++ [(q2, .inr (12, [.int 0, .null, .null, .null, .null, .int 0, .null, .int 0, .int 0, .int 0, .int 0, .int 0, .int 0, .int 0, .null, .int 0, .null, .int 0, .int 0, .int 0, .null, .int 0, .null, .int 0, .null, .null, .null, .int 0, .int 0, .int 0, .null, .null, .null, .int 0, .int 0, .int 0, .null, .null, .null, .null]))]) := hD
  refine W.widen (k := 124) (n := 6329) (Nat.le_of_ble_eq_true rfl) (Nat.le_of_ble_eq_true rfl) ?_
  refine lv_dup hx hb dL_law_11 rfl ?_
  refine x_wI (wr := cW t a) (As := []) hF (c_X12_init l D t q2 H.size) m_1340 m_1341 m_13 m_1342 rfl hd_X12_init ⟨Nat.le_of_ble_eq_true rfl, Nat.le_of_ble_eq_true rfl⟩ hK hN hP hD hS hA [109] [0, 1, 2, 3, 4, 5, 6, 7, 8, 9, 10, 11, 12, 13, 14, 15, 16, 17, 18, 19, 20, 21, 22, 23, 24, 25, 26, 27, 28, 29, 30, 31, 32, 33, 34, 35, 36, 37, 38, 39, 40, 41, 42, 43, 44, 45, 46, 47, 48, 49, 50, 51, 52, 53, 54, 55, 56, 57, 58, 59, 60, 61, 62, 63, 64, 65, 66, 67, 68, 69, 70, 71, 72, 73, 74, 75, 76, 77, 78, 79, 80, 81, 82, 83, 84, 85, 86, 87, 88, 89, 90, 91, 92, 93, 94, 95, 96, 97, 98, 99, 100, 101, 102, 103, 104, 105, 106, 107, 108] rfl rfl (by decide) (by decide) (by decide) hl.1 rfl (Nat.le_of_ble_eq_true rfl) dL_law_12 ⟨Nat.le_of_ble_eq_true rfl, Nat.le_of_ble_eq_true rfl⟩ (fun u2 H locs hP hD hS => ?_)
  obtain ⟨b, hb0⟩ := u2
  subst hb0
  have hP : va_P D classes (cW t a ++ mW t b) H := hP
  have hD : va_D A (cW t a ++ mW t b) := hD
  refine W.widen (k := 600000) (n := 7302250) (Nat.le_of_ble_eq_true rfl) (Nat.le_of_ble_eq_true rfl) ?_
  refine lv_astore_n (lv' := [(2, .ref (b 0)), (1, .ref (a 0)), (0, .ref bb)]) hx hb dL_law_15 rfl hl (by decide) rfl (fun ls hl => ?_)
  refine lv_iconst (v := 0) hx hb dL_law_16 (by decide) ?_
  refine lv_istore_n (lv' := [(3, .int 0), (2, .ref (b 0)), (1, .ref (a 0)), (0, .ref bb)]) hx hb dL_law_17 rfl hl (by decide) rfl (fun ls hl => ?_)
  refine lv_iload_n hx hb dL_law_18 rfl (lv_at hl 0 rfl) ?_
  refine lv_aload_n hx hb dL_law_19 rfl (lv_at hl 3 rfl) ?_
  refine va_slen hx hb hX hbl hbA hS dL_law_20 ?_
  refine lv_bipush (v := 6) hx hb dL_law_21 (by decide) ?_
  refine lv_isub hx hb dL_law_23 ?_
  refine lv_icmp_gt (tgt := 2012) hx hb dL_law_24 (by decide) (fun _ => ?_) (fun c9 => ?_)
  · refine lv_iconst (v := 1) hx hb dL_law_2012 (by decide) ?_
    refine va_forget (fun q hq => hA2 _ (hS.2.2 q hq)) ?_
    exact lw_ret hx hb hr hlocks dL_law_2013
  · have hL6 : 6 ≤ L := x_six0 L hL c9
    refine lv_aload_n hx hb dL_law_27 rfl (lv_at hl 3 rfl) ?_
    refine lv_iload_n hx hb dL_law_28 rfl (lv_at hl 0 rfl) ?_
    refine va_sld hx hb hX hbl hbA hS (vp_in_nI (n := 0) (by omega) (by omega)) dL_law_29 ?_
    refine lv_bipush (v := 63) hx hb dL_law_30 (by decide) ?_
    refine lv_iand hx hb dL_law_32 ?_
    obtain ⟨j, hj, hje⟩ := pk_andE (xs (0 : Int32).toNatClampNeg) (m := 63) 6 (by decide)
    refine x_seti (nI j) hje ?_
    match j, hj with
    | 0, _ =>
      refine lv_tableIn (off := 271) (tgt := 304) hx hb dL_law_33 (by decide) (by decide) rfl (by decide) ?_
      exact law_0 C0 hL6 hL hA hA2 hK hN hP hD hS hl
    | 1, _ =>
      refine lv_tableIn (off := 334) (tgt := 367) hx hb dL_law_33 (by decide) (by decide) rfl (by decide) ?_
      exact law_1 C0 hL6 hL hA hA2 hK hN hP hD hS hl
    | 2, _ =>
      refine lv_tableIn (off := 357) (tgt := 390) hx hb dL_law_33 (by decide) (by decide) rfl (by decide) ?_
      exact law_2 C0 hL6 hL hA hA2 hK hN hP hD hS hl
    | 3, _ =>
      refine lv_tableIn (off := 370) (tgt := 403) hx hb dL_law_33 (by decide) (by decide) rfl (by decide) ?_
      exact law_3 C0 hL6 hL hA hA2 hK hN hP hD hS hl
    | 4, _ =>
      refine lv_tableIn (off := 393) (tgt := 426) hx hb dL_law_33 (by decide) (by decide) rfl (by decide) ?_
      exact law_4 C0 hL6 hL hA hA2 hK hN hP hD hS hl
    | 5, _ =>
      refine lv_tableIn (off := 426) (tgt := 459) hx hb dL_law_33 (by decide) (by decide) rfl (by decide) ?_
      exact law_5 C0 hL6 hL hA hA2 hK hN hP hD hS hl
    | 6, _ =>
      refine lv_tableIn (off := 459) (tgt := 492) hx hb dL_law_33 (by decide) (by decide) rfl (by decide) ?_
      exact law_6 C0 hL6 hL hA hA2 hK hN hP hD hS hl
    | 7, _ =>
      refine lv_tableIn (off := 492) (tgt := 525) hx hb dL_law_33 (by decide) (by decide) rfl (by decide) ?_
      exact law_7 C0 hL6 hL hA hA2 hK hN hP hD hS hl
    | 8, _ =>
      refine lv_tableIn (off := 525) (tgt := 558) hx hb dL_law_33 (by decide) (by decide) rfl (by decide) ?_
      exact law_8 C0 hL6 hL hA hA2 hK hN hP hD hS hl
    | 9, _ =>
      refine lv_tableIn (off := 558) (tgt := 591) hx hb dL_law_33 (by decide) (by decide) rfl (by decide) ?_
      exact law_9 C0 hL6 hL hA hA2 hK hN hP hD hS hl
    | 10, _ =>
      refine lv_tableIn (off := 581) (tgt := 614) hx hb dL_law_33 (by decide) (by decide) rfl (by decide) ?_
      exact law_10 C0 hL6 hL hA hA2 hK hN hP hD hS hl
    | 11, _ =>
      refine lv_tableIn (off := 604) (tgt := 637) hx hb dL_law_33 (by decide) (by decide) rfl (by decide) ?_
      exact law_11 C0 hL6 hL hA hA2 hK hN hP hD hS hl
    | 12, _ =>
      refine lv_tableIn (off := 637) (tgt := 670) hx hb dL_law_33 (by decide) (by decide) rfl (by decide) ?_
      exact law_12 C0 hL6 hL hA hA2 hK hN hP hD hS hl
    | 13, _ =>
      refine lv_tableIn (off := 670) (tgt := 703) hx hb dL_law_33 (by decide) (by decide) rfl (by decide) ?_
      exact law_13 C0 hL6 hL hA hA2 hK hN hP hD hS hl
    | 14, _ =>
      refine lv_tableIn (off := 703) (tgt := 736) hx hb dL_law_33 (by decide) (by decide) rfl (by decide) ?_
      exact law_14 C0 hL6 hL hA hA2 hK hN hP hD hS hl
    | 15, _ =>
      refine lv_tableIn (off := 736) (tgt := 769) hx hb dL_law_33 (by decide) (by decide) rfl (by decide) ?_
      exact law_15 C0 hL6 hL hA hA2 hK hN hP hD hS hl
    | 16, _ =>
      refine lv_tableIn (off := 769) (tgt := 802) hx hb dL_law_33 (by decide) (by decide) rfl (by decide) ?_
      exact law_16 C0 hL6 hL hA hA2 hK hN hP hD hS hl
    | 17, _ =>
      refine lv_tableIn (off := 792) (tgt := 825) hx hb dL_law_33 (by decide) (by decide) rfl (by decide) ?_
      exact law_17 C0 hL6 hL hA hA2 hK hN hP hD hS hl
    | 18, _ =>
      refine lv_tableIn (off := 825) (tgt := 858) hx hb dL_law_33 (by decide) (by decide) rfl (by decide) ?_
      exact law_18 C0 hL6 hL hA hA2 hK hN hP hD hS hl
    | 19, _ =>
      refine lv_tableIn (off := 848) (tgt := 881) hx hb dL_law_33 (by decide) (by decide) rfl (by decide) ?_
      exact law_19 C0 hL6 hL hA hA2 hK hN hP hD hS hl
    | 20, _ =>
      refine lv_tableIn (off := 871) (tgt := 904) hx hb dL_law_33 (by decide) (by decide) rfl (by decide) ?_
      exact law_20 C0 hL6 hL hA hA2 hK hN hP hD hS hl
    | 21, _ =>
      refine lv_tableIn (off := 884) (tgt := 917) hx hb dL_law_33 (by decide) (by decide) rfl (by decide) ?_
      exact law_21 C0 hL6 hL hA hA2 hK hN hP hD hS hl
    | 22, _ =>
      refine lv_tableIn (off := 897) (tgt := 930) hx hb dL_law_33 (by decide) (by decide) rfl (by decide) ?_
      exact law_22 C0 hL6 hL hA hA2 hK hN hP hD hS hl
    | 23, _ =>
      refine lv_tableIn (off := 910) (tgt := 943) hx hb dL_law_33 (by decide) (by decide) rfl (by decide) ?_
      exact law_23 C0 hL6 hL hA hA2 hK hN hP hD hS hl
    | 24, _ =>
      refine lv_tableIn (off := 923) (tgt := 956) hx hb dL_law_33 (by decide) (by decide) rfl (by decide) ?_
      exact law_24 C0 hL6 hL hA hA2 hK hN hP hD hS hl
    | 25, _ =>
      refine lv_tableIn (off := 936) (tgt := 969) hx hb dL_law_33 (by decide) (by decide) rfl (by decide) ?_
      exact law_25 C0 hL6 hL hA hA2 hK hN hP hD hS hl
    | 26, _ =>
      refine lv_tableIn (off := 959) (tgt := 992) hx hb dL_law_33 (by decide) (by decide) rfl (by decide) ?_
      exact law_26 C0 hL6 hL hA hA2 hK hN hP hD hS hl
    | 27, _ =>
      refine lv_tableIn (off := 972) (tgt := 1005) hx hb dL_law_33 (by decide) (by decide) rfl (by decide) ?_
      exact law_27 C0 hL6 hL hA hA2 hK hN hP hD hS hl
    | 28, _ =>
      refine lv_tableIn (off := 995) (tgt := 1028) hx hb dL_law_33 (by decide) (by decide) rfl (by decide) ?_
      exact law_28 C0 hL6 hL hA hA2 hK hN hP hD hS hl
    | 29, _ =>
      refine lv_tableIn (off := 1018) (tgt := 1051) hx hb dL_law_33 (by decide) (by decide) rfl (by decide) ?_
      exact law_29 C0 hL6 hL hA hA2 hK hN hP hD hS hl
    | 30, _ =>
      refine lv_tableIn (off := 1041) (tgt := 1074) hx hb dL_law_33 (by decide) (by decide) rfl (by decide) ?_
      exact law_30 C0 hL6 hL hA hA2 hK hN hP hD hS hl
    | 31, _ =>
      refine lv_tableIn (off := 1054) (tgt := 1087) hx hb dL_law_33 (by decide) (by decide) rfl (by decide) ?_
      exact law_31 C0 hL6 hL hA hA2 hK hN hP hD hS hl
    | 32, _ =>
      refine lv_tableIn (off := 1077) (tgt := 1110) hx hb dL_law_33 (by decide) (by decide) rfl (by decide) ?_
      exact law_32 C0 hL6 hL hA hA2 hK hN hP hD hS hl
    | 33, _ =>
      refine lv_tableIn (off := 1090) (tgt := 1123) hx hb dL_law_33 (by decide) (by decide) rfl (by decide) ?_
      exact law_33 C0 hL6 hL hA hA2 hK hN hP hD hS hl
    | 34, _ =>
      refine lv_tableIn (off := 1113) (tgt := 1146) hx hb dL_law_33 (by decide) (by decide) rfl (by decide) ?_
      exact law_34 C0 hL6 hL hA hA2 hK hN hP hD hS hl
    | 35, _ =>
      refine lv_tableIn (off := 1136) (tgt := 1169) hx hb dL_law_33 (by decide) (by decide) rfl (by decide) ?_
      exact law_35 C0 hL6 hL hA hA2 hK hN hP hD hS hl
    | 36, _ =>
      refine lv_tableIn (off := 1159) (tgt := 1192) hx hb dL_law_33 (by decide) (by decide) rfl (by decide) ?_
      exact law_36 C0 hL6 hL hA hA2 hK hN hP hD hS hl
    | 37, _ =>
      refine lv_tableIn (off := 1182) (tgt := 1215) hx hb dL_law_33 (by decide) (by decide) rfl (by decide) ?_
      exact law_37 C0 hL6 hL hA hA2 hK hN hP hD hS hl
    | 38, _ =>
      refine lv_tableIn (off := 1195) (tgt := 1228) hx hb dL_law_33 (by decide) (by decide) rfl (by decide) ?_
      exact law_38 C0 hL6 hL hA hA2 hK hN hP hD hS hl
    | 39, _ =>
      refine lv_tableIn (off := 1208) (tgt := 1241) hx hb dL_law_33 (by decide) (by decide) rfl (by decide) ?_
      exact law_39 C0 hL6 hL hA hA2 hK hN hP hD hS hl
    | 40, _ =>
      refine lv_tableIn (off := 1231) (tgt := 1264) hx hb dL_law_33 (by decide) (by decide) rfl (by decide) ?_
      exact law_40 C0 hL6 hL hA hA2 hK hN hP hD hS hl
    | 41, _ =>
      refine lv_tableIn (off := 1254) (tgt := 1287) hx hb dL_law_33 (by decide) (by decide) rfl (by decide) ?_
      exact law_41 C0 hL6 hL hA hA2 hK hN hP hD hS hl
    | 42, _ =>
      refine lv_tableIn (off := 1267) (tgt := 1300) hx hb dL_law_33 (by decide) (by decide) rfl (by decide) ?_
      exact law_42 C0 hL6 hL hA hA2 hK hN hP hD hS hl
    | 43, _ =>
      refine lv_tableIn (off := 1290) (tgt := 1323) hx hb dL_law_33 (by decide) (by decide) rfl (by decide) ?_
      exact law_43 C0 hL6 hL hA hA2 hK hN hP hD hS hl
    | 44, _ =>
      refine lv_tableIn (off := 1313) (tgt := 1346) hx hb dL_law_33 (by decide) (by decide) rfl (by decide) ?_
      exact law_44 C0 hL6 hL hA hA2 hK hN hP hD hS hl
    | 45, _ =>
      refine lv_tableIn (off := 1346) (tgt := 1379) hx hb dL_law_33 (by decide) (by decide) rfl (by decide) ?_
      exact law_45 C0 hL6 hL hA hA2 hK hN hP hD hS hl
    | 46, _ =>
      refine lv_tableIn (off := 1359) (tgt := 1392) hx hb dL_law_33 (by decide) (by decide) rfl (by decide) ?_
      exact law_46 C0 hL6 hL hA hA2 hK hN hP hD hS hl
    | 47, _ =>
      refine lv_tableIn (off := 1382) (tgt := 1415) hx hb dL_law_33 (by decide) (by decide) rfl (by decide) ?_
      exact law_47 C0 hL6 hL hA hA2 hK hN hP hD hS hl
    | 48, _ =>
      refine lv_tableIn (off := 1415) (tgt := 1448) hx hb dL_law_33 (by decide) (by decide) rfl (by decide) ?_
      exact law_48 C0 hL6 hL hA hA2 hK hN hP hD hS hl
    | 49, _ =>
      refine lv_tableIn (off := 1438) (tgt := 1471) hx hb dL_law_33 (by decide) (by decide) rfl (by decide) ?_
      exact law_49 C0 hL6 hL hA hA2 hK hN hP hD hS hl
    | 50, _ =>
      refine lv_tableIn (off := 1471) (tgt := 1504) hx hb dL_law_33 (by decide) (by decide) rfl (by decide) ?_
      exact law_50 C0 hL6 hL hA hA2 hK hN hP hD hS hl
    | 51, _ =>
      refine lv_tableIn (off := 1494) (tgt := 1527) hx hb dL_law_33 (by decide) (by decide) rfl (by decide) ?_
      exact law_51 C0 hL6 hL hA hA2 hK hN hP hD hS hl
    | 52, _ =>
      refine lv_tableIn (off := 1517) (tgt := 1550) hx hb dL_law_33 (by decide) (by decide) rfl (by decide) ?_
      exact law_52 C0 hL6 hL hA hA2 hK hN hP hD hS hl
    | 53, _ =>
      refine lv_tableIn (off := 1550) (tgt := 1583) hx hb dL_law_33 (by decide) (by decide) rfl (by decide) ?_
      exact law_53 C0 hL6 hL hA hA2 hK hN hP hD hS hl
    | 54, _ =>
      refine lv_tableIn (off := 1583) (tgt := 1616) hx hb dL_law_33 (by decide) (by decide) rfl (by decide) ?_
      exact law_54 C0 hL6 hL hA hA2 hK hN hP hD hS hl
    | 55, _ =>
      refine lv_tableIn (off := 1616) (tgt := 1649) hx hb dL_law_33 (by decide) (by decide) rfl (by decide) ?_
      exact law_55 C0 hL6 hL hA hA2 hK hN hP hD hS hl
    | 56, _ =>
      refine lv_tableIn (off := 1649) (tgt := 1682) hx hb dL_law_33 (by decide) (by decide) rfl (by decide) ?_
      exact law_56 C0 hL6 hL hA hA2 hK hN hP hD hS hl
    | 57, _ =>
      refine lv_tableIn (off := 1682) (tgt := 1715) hx hb dL_law_33 (by decide) (by decide) rfl (by decide) ?_
      exact law_57 C0 hL6 hL hA hA2 hK hN hP hD hS hl
    | 58, _ =>
      refine lv_tableIn (off := 1725) (tgt := 1758) hx hb dL_law_33 (by decide) (by decide) rfl (by decide) ?_
      exact law_58 C0 hL6 hL hA hA2 hK hN hP hD hS hl
    | 59, _ =>
      refine lv_tableIn (off := 1748) (tgt := 1781) hx hb dL_law_33 (by decide) (by decide) rfl (by decide) ?_
      exact law_59 C0 hL6 hL hA hA2 hK hN hP hD hS hl
    | 60, _ =>
      refine lv_tableIn (off := 1771) (tgt := 1804) hx hb dL_law_33 (by decide) (by decide) rfl (by decide) ?_
      exact law_60 C0 hL6 hL hA hA2 hK hN hP hD hS hl
    | 61, _ =>
      refine lv_tableIn (off := 1794) (tgt := 1827) hx hb dL_law_33 (by decide) (by decide) rfl (by decide) ?_
      exact law_61 C0 hL6 hL hA hA2 hK hN hP hD hS hl
    | 62, _ =>
      refine lv_tableIn (off := 1837) (tgt := 1870) hx hb dL_law_33 (by decide) (by decide) rfl (by decide) ?_
      exact law_62 C0 hL6 hL hA hA2 hK hN hP hD hS hl
    | 63, _ =>
      refine lv_tableIn (off := 1910) (tgt := 1943) hx hb dL_law_33 (by decide) (by decide) rfl (by decide) ?_
      exact law_63 C0 hL6 hL hA hA2 hK hN hP hD hS hl
    | j + 64, h => exact absurd h (by omega)

