set_option maxHeartbeats 4000000 in
set_option maxRecDepth 100000 in
theorem s_X10_told (l : Launch) (D : va_G) (t : Nat → ClassId) (a : Nat → Nat) (p0 : Int32) : Met l yX10_told (wd yX10_told cX10_told 2 (some .int)) (RM 0 0 0) (PreP D (TY t) [.ref (a 15), .int p0] [(a 15, .inr (10, [.ref (a 40), .ref (a 123), .ref (a 124)]))]) (QP (fun r => rg (-2147483648) 999999 r)) 0 0 NoF := by
  refine Met.ofW (cc := cX10_told) (maxL := 2) (ret := (some .int)) (by decide) rfl ?_
  intro p e s m args below meth c s₁ B hml hv
  obtain ⟨rfl, hP, hK, hN⟩ := hv
  have hx := B.exec
  have hb := B.bytes
  have hr := B.returns
  have hts : ∀ w ∈ TB, w.before _ s = true := fun w h => atoms_spec (ws := wd yX10_told cX10_told 2 (some .int)) B.pre w (List.mem_cons_of_mem _ h)
  have hown : s.vm.findClass RX10 = some m.cls := findClass_of_methodNamed B.named
  have hlocks := B.notSynchronized
  have hF : CallFix p m c cX10_told 2 s _ TB RX10 := ⟨hx, hb, hml, hown, hts⟩
  have hl := lv_entry ([.ref (a 15), .int p0]) (n := 2) (Nat.le_of_ble_eq_true rfl)
  rw [lg_entry_eq]
  generalize (lg_sl ([.ref (a 15), .int p0]) ++ List.replicate (2 - (lg_sl ([.ref (a 15), .int p0])).length) Slot.unset).toArray = ls at hl ⊢
  have hl : lv_has ls 2 [(0, .ref (a 15)), (1, .int p0)] := hl
  have hS : va_S NoF s.heap s.heap [] := va_S.rf
  have hP : va_P D classes [(a 15, .inr (10, [.ref (a 40), .ref (a 123), .ref (a 124)]))] s.heap := hP
  refine lv_iload_n hx hb dX10_told_0 rfl (lv_at hl 1 rfl) ?_
  refine lv_ldc (v := 1000000) hx hb hown (hts _ m_976) dX10_told_1 ?_
  refine lv_icmp_ge (tgt := 10) hx hb dX10_told_3 (by decide) (fun c_1 => ?_) (fun c_1 => ?_)
  · skip
    have h_2 : rg 1000000 2147483647 p0 := ⟨Int.le_trans (by decide) (c_leR c_1 (rg_c (x := 1000000) (k := 1000000) (by decide))), ((rg_any p0)).2⟩
    refine lv_iconst (v := (-1)) hx hb dX10_told_10 (by decide) ?_
    exact W.iret (v := (-1)) hx hb hr (fun t9 ht hW => ⟨⟨(-1), (), rfl, (rg_w (c := (-2147483648)) (d := 999999) (rg_c (x := (-1)) (k := (-1)) (by decide)) (by decide) (by decide)), trivial⟩, hS.F ht⟩) hS.2.2 dX10_told_11
  · skip
    have h_3 : rg (-2147483648) 999999 p0 := ⟨((rg_any p0)).1, Int.le_trans (c_nleR c_1 (rg_c (x := 1000000) (k := 1000000) (by decide))) (by decide)⟩
    refine lv_iload_n hx hb dX10_told_6 rfl (lv_at hl 1 rfl) ?_
    refine lv_goto (tgt := 11) hx hb dX10_told_7 (by decide) ?_
    exact W.iret (v := p0) hx hb hr (fun t9 ht hW => ⟨⟨p0, (), rfl, h_3, trivial⟩, hS.F ht⟩) hS.2.2 dX10_told_11

set_option maxHeartbeats 4000000 in
set_option maxRecDepth 100000 in
theorem s_X10_goesRound (l : Launch) (D : va_G) (t : Nat → ClassId) (a : Nat → Nat) (f123 : Nat → Int32) (f124 : Nat → Int32) (p0 : Int32) (rp0 : rg 0 7 p0) : Met l yX10_goesRound (wd yX10_goesRound cX10_goesRound 2 (some .boolean)) (RM 0 0 0) (PreP D (TY t) [.ref (a 15), .int p0] [(a 15, .inr (10, [.ref (a 40), .ref (a 123), .ref (a 124)])), (a 123, .inl (t 0, 8, .inl f123)), (a 124, .inl (t 0, 8, .inl f124))]) (QP (fun r => rg 0 1 r)) 0 0 NoF := by
  refine Met.ofW (cc := cX10_goesRound) (maxL := 2) (ret := (some .boolean)) (by decide) rfl ?_
  intro p e s m args below meth c s₁ B hml hv
  obtain ⟨rfl, hP, hK, hN⟩ := hv
  have hx := B.exec
  have hb := B.bytes
  have hr := B.returns
  have hts : ∀ w ∈ TB, w.before _ s = true := fun w h => atoms_spec (ws := wd yX10_goesRound cX10_goesRound 2 (some .boolean)) B.pre w (List.mem_cons_of_mem _ h)
  have hown : s.vm.findClass RX10 = some m.cls := findClass_of_methodNamed B.named
  have hlocks := B.notSynchronized
  have hF : CallFix p m c cX10_goesRound 2 s _ TB RX10 := ⟨hx, hb, hml, hown, hts⟩
  have hl := lv_entry ([.ref (a 15), .int p0]) (n := 2) (Nat.le_of_ble_eq_true rfl)
  rw [lg_entry_eq]
  generalize (lg_sl ([.ref (a 15), .int p0]) ++ List.replicate (2 - (lg_sl ([.ref (a 15), .int p0])).length) Slot.unset).toArray = ls at hl ⊢
  have hl : lv_has ls 2 [(0, .ref (a 15)), (1, .int p0)] := hl
  have hS : va_S NoF s.heap s.heap [] := va_S.rf
  have hP : va_P D classes [(a 15, .inr (10, [.ref (a 40), .ref (a 123), .ref (a 124)])), (a 123, .inl (t 0, 8, .inl f123)), (a 124, .inl (t 0, 8, .inl f124))] s.heap := hP
  refine lv_aload_n hx hb dX10_goesRound_0 rfl (lv_at hl 0 rfl) ?_
  refine va_get (D := D) (ci := 10) (v := .ref (a 124)) (C := RX10) (T := TX10) (N := 3) hx hb hts iX10 hown hK hP 0 rfl rfl 2 (by decide) (hts _ m_334) (fun _ h9 => h9) rfl dX10_goesRound_1 ?_
  refine lv_iload_n hx hb dX10_goesRound_4 rfl (lv_at hl 1 rfl) ?_
  refine va_iald hx hb hK hP 2 0 rfl rfl (in_rg rp0 (by decide) (by decide)) dX10_goesRound_5 ?_
  refine lv_topi (fun x_1 ex_1 => ?_)
  refine lv_aload_n hx hb dX10_goesRound_6 rfl (lv_at hl 0 rfl) ?_
  refine va_get (D := D) (ci := 10) (v := .ref (a 123)) (C := RX10) (T := TX10) (N := 3) hx hb hts iX10 hown hK hP 0 rfl rfl 1 (by decide) (hts _ m_332) (fun _ h9 => h9) rfl dX10_goesRound_7 ?_
  refine lv_iload_n hx hb dX10_goesRound_10 rfl (lv_at hl 1 rfl) ?_
  refine va_iald hx hb hK hP 1 0 rfl rfl (in_rg rp0 (by decide) (by decide)) dX10_goesRound_11 ?_
  refine lv_topi (fun x_2 ex_2 => ?_)
  refine lv_icmp_ge (tgt := 19) hx hb dX10_goesRound_12 (by decide) (fun c_3 => ?_) (fun c_3 => ?_)
  · skip
    refine lv_iconst (v := 0) hx hb dX10_goesRound_19 (by decide) ?_
    exact W.zret (v := 0) hx hb hr rfl (fun t9 ht hW => ⟨⟨0, (), rfl, (rg_w (c := 0) (d := 1) (rg_c (x := 0) (k := 0) (by decide)) (by decide) (by decide)), trivial⟩, hS.F ht⟩) hS.2.2 dX10_goesRound_20
  · skip
    have h_4 : rg (-2147483648) 2147483646 x_1 := ⟨((rg_any x_1)).1, Int.le_trans (c_nleR c_3 (rg_any x_2)) (by decide)⟩
    have h_5 : rg (-2147483647) 2147483647 x_2 := ⟨Int.le_trans (by decide) (c_nle c_3 (rg_any x_1)), ((rg_any x_2)).2⟩
    refine lv_iconst (v := 1) hx hb dX10_goesRound_15 (by decide) ?_
    refine lv_goto (tgt := 20) hx hb dX10_goesRound_16 (by decide) ?_
    exact W.zret (v := 1) hx hb hr rfl (fun t9 ht hW => ⟨⟨1, (), rfl, (rg_w (c := 0) (d := 1) (rg_c (x := 1) (k := 1) (by decide)) (by decide) (by decide)), trivial⟩, hS.F ht⟩) hS.2.2 dX10_goesRound_20

set_option maxHeartbeats 4000000 in
set_option maxRecDepth 100000 in
theorem s_X10_detour (l : Launch) (D : va_G) (t : Nat → ClassId) (a : Nat → Nat) (v40_0 : Int32) (v40_1 : Int32) (v40_2 : Int32) (v40_3 : Int32) (v40_4 : Int32) (v40_5 : Int32) (v40_6 : Int32) (v40_7 : Int32) (v50_0 : Int32) (f51 : Nat → Int32) (f52 : Nat → Int32) (f53 : Nat → Int32) (f123 : Nat → Int32) (f124 : Nat → Int32) (p0 : Int32) (r40_1 : rg 0 8 v40_1) (r40_5 : rg 0 4 v40_5) (r40_6 : rg 0 9 v40_6) (r40_7 : rg 0 9 v40_7) (r50_0 : rg 0 8 v50_0) (q51 : ∀ j, j < 8 → rg 0 7 (f51 j)) (q52 : ∀ j, j < 8 → rg 0 7 (f52 j)) (q53 : ∀ j, j < 8 → rg 0 7 (f53 j)) (rp0 : rg 0 7 p0) : Met l yX10_detour (wd yX10_detour cX10_detour 3 (some .int)) (RM 1 0 0) (PreP D (TY t) [.ref (a 15), .int p0] [(a 15, .inr (10, [.ref (a 40), .ref (a 123), .ref (a 124)])), (a 40, .inr (0, [.int v40_0, .int v40_1, .int v40_2, .int v40_3, .int v40_4, .int v40_5, .int v40_6, .int v40_7, .ref (a 41), .ref (a 42), .ref (a 43), .ref (a 44), .ref (a 45), .ref (a 46), .ref (a 47), .ref (a 48), .ref (a 49), .ref (a 50), .ref (a 54)])), (a 50, .inr (5, [.int v50_0, .ref (a 51), .ref (a 52), .ref (a 53)])), (a 51, .inl (t 0, 8, .inl f51)), (a 52, .inl (t 0, 8, .inl f52)), (a 53, .inl (t 0, 8, .inl f53)), (a 123, .inl (t 0, 8, .inl f123)), (a 124, .inl (t 0, 8, .inl f124))]) (QP (fun r => rg (-1) 7 r)) 0 0 NoF := by
  refine Met.ofW (cc := cX10_detour) (maxL := 3) (ret := (some .int)) (by decide) rfl ?_
  intro p e s m args below meth c s₁ B hml hv
  obtain ⟨rfl, hP, hK, hN⟩ := hv
  have hx := B.exec
  have hb := B.bytes
  have hr := B.returns
  have hts : ∀ w ∈ TB, w.before _ s = true := fun w h => atoms_spec (ws := wd yX10_detour cX10_detour 3 (some .int)) B.pre w (List.mem_cons_of_mem _ h)
  have hown : s.vm.findClass RX10 = some m.cls := findClass_of_methodNamed B.named
  have hlocks := B.notSynchronized
  have hF : CallFix p m c cX10_detour 3 s _ TB RX10 := ⟨hx, hb, hml, hown, hts⟩
  have hl := lv_entry ([.ref (a 15), .int p0]) (n := 3) (Nat.le_of_ble_eq_true rfl)
  rw [lg_entry_eq]
  generalize (lg_sl ([.ref (a 15), .int p0]) ++ List.replicate (3 - (lg_sl ([.ref (a 15), .int p0])).length) Slot.unset).toArray = ls at hl ⊢
  have hl : lv_has ls 3 [(0, .ref (a 15)), (1, .int p0)] := hl
  have hS : va_S NoF s.heap s.heap [] := va_S.rf
  have hP : va_P D classes [(a 15, .inr (10, [.ref (a 40), .ref (a 123), .ref (a 124)])), (a 40, .inr (0, [.int v40_0, .int v40_1, .int v40_2, .int v40_3, .int v40_4, .int v40_5, .int v40_6, .int v40_7, .ref (a 41), .ref (a 42), .ref (a 43), .ref (a 44), .ref (a 45), .ref (a 46), .ref (a 47), .ref (a 48), .ref (a 49), .ref (a 50), .ref (a 54)])), (a 50, .inr (5, [.int v50_0, .ref (a 51), .ref (a 52), .ref (a 53)])), (a 51, .inl (t 0, 8, .inl f51)), (a 52, .inl (t 0, 8, .inl f52)), (a 53, .inl (t 0, 8, .inl f53)), (a 123, .inl (t 0, 8, .inl f123)), (a 124, .inl (t 0, 8, .inl f124))] s.heap := hP
  refine lv_iconst (v := 0) hx hb dX10_detour_0 (by decide) ?_
  refine lv_istore_n (lv' := [(2, .int 0), (0, .ref (a 15)), (1, .int p0)]) hx hb dX10_detour_1 rfl hl (by decide) rfl (fun ls hl => ?_)
  refine loopW (α := US) (fun n y_1 H locs ls => 8 < (y_1.1 0).toInt + (n : Int) ∧ rg 0 8 (y_1.1 0) ∧ va_P D classes [(a 15, .inr (10, [.ref (a 40), .ref (a 123), .ref (a 124)])), (a 40, .inr (0, [.int v40_0, .int v40_1, .int v40_2, .int v40_3, .int v40_4, .int v40_5, .int v40_6, .int v40_7, .ref (a 41), .ref (a 42), .ref (a 43), .ref (a 44), .ref (a 45), .ref (a 46), .ref (a 47), .ref (a 48), .ref (a 49), .ref (a 50), .ref (a 54)])), (a 50, .inr (5, [.int v50_0, .ref (a 51), .ref (a 52), .ref (a 53)])), (a 51, .inl (t 0, 8, .inl f51)), (a 52, .inl (t 0, 8, .inl f52)), (a 53, .inl (t 0, 8, .inl f53)), (a 123, .inl (t 0, 8, .inl f123)), (a 124, .inl (t 0, 8, .inl f124))] H ∧ va_S NoF s.heap H locs ∧ lv_has ls 3 [(2, .int (y_1.1 0)), (0, .ref (a 15)), (1, .int p0)]) 2 (fun y_1 => []) (fun _ _ _ _ h9 => m_0 h9.1 h9.2.1) (fun n ih_3 y_1 H locs ls hI => ?_) 9 (fun k => [0].getD k 0, fun k => [].getD k (fun _ => 0), fun k => [].getD k (fun _ => 0), fun k => [].getD k 0) ⟨(m_i (rg_c (x := 0) (k := 0) (by decide)) (by decide)), (rg_w (c := 0) (d := 8) (rg_c (x := 0) (k := 0) (by decide)) (by decide) (by decide)), hP, hS, (lv_sub hl [0, 1, 2] rfl)⟩
  obtain ⟨me_4, h_2, hP, hS, hl⟩ := hI
  refine lv_iload_n hx hb dX10_detour_2 rfl (lv_at hl 0 rfl) ?_
  refine lv_aload_n hx hb dX10_detour_3 rfl (lv_at hl 1 rfl) ?_
  refine va_get (D := D) (ci := 10) (v := .ref (a 40)) (C := RX10) (T := TX10) (N := 3) hx hb hts iX10 hown hK hP 0 rfl rfl 0 (by decide) (hts _ m_331) (fun _ h9 => h9) rfl dX10_detour_4 ?_
  refine va_getN (D := D) (ci := 0) (v := .ref (a 50)) (C := RX0) (T := TX0) (N := 19) (host := "WordSeats") hx hb hts iX0 hown hK hP 1 rfl rfl 17 (by decide) (va_Nw.use rfl (hN _ n_186)) (fun _ h9 => h9) rfl dX10_detour_7 ?_
  refine va_getN (D := D) (ci := 5) (v := .int v50_0) (C := RX5) (T := TX5) (N := 4) (host := "WordSeats") hx hb hts iX5 hown hK hP 2 rfl rfl 0 (by decide) (va_Nw.use rfl (hN _ n_60)) (fun _ h9 => h9) rfl dX10_detour_10 ?_
  refine lv_icmp_ge (tgt := 62) hx hb dX10_detour_13 (by decide) (fun c_5 => ?_) (fun c_5 => ?_)
  · skip
    refine lv_iconst (v := (-1)) hx hb dX10_detour_62 (by decide) ?_
    exact W.iret (v := (-1)) hx hb hr (fun t9 ht hW => ⟨⟨(-1), (), rfl, (rg_w (c := (-1)) (d := 7) (rg_c (x := (-1)) (k := (-1)) (by decide)) (by decide) (by decide)), trivial⟩, hS.F ht⟩) hS.2.2 dX10_detour_63
  · skip
    have h_6 : rg 0 7 (y_1.1 0) := ⟨(h_2).1, Int.le_trans (c_nleR c_5 r50_0) (by decide)⟩
    have h_7 : rg 1 8 v50_0 := ⟨Int.le_trans (by decide) (c_nle c_5 h_2), (r50_0).2⟩
    refine lv_aload_n hx hb dX10_detour_16 rfl (lv_at hl 1 rfl) ?_
    refine lv_iload_n hx hb dX10_detour_17 rfl (lv_at hl 2 rfl) ?_
    refine y_pV hF (s_X10_goesRound l D t a f123 f124 p0 rp0) m_1009 m_1010 m_1011 m_8 m_1012 hd_X10_goesRound ⟨Nat.le_of_ble_eq_true rfl, Nat.le_of_ble_eq_true rfl⟩ hK hN hP hS [0, 6, 7] rfl 0 (ci := 10) rfl rfl rfl hl.1 rfl (Nat.le_of_ble_eq_true rfl) dX10_detour_18 ⟨Nat.zero_le _, Nat.zero_le _⟩ (fun r_8 H locs hr_8 hP hS => ?_)
    refine lv_if_eq (tgt := 62) hx hb dX10_detour_21 (by decide) (fun c_9 => ?_) (fun c_9 => ?_)
    · skip
      have h_10 : rg 0 0 r_8 := rg_eq c_9 (rg_c (x := 0) (k := 0) (by decide))
      refine lv_iconst (v := (-1)) hx hb dX10_detour_62 (by decide) ?_
      exact W.iret (v := (-1)) hx hb hr (fun t9 ht hW => ⟨⟨(-1), (), rfl, (rg_w (c := (-1)) (d := 7) (rg_c (x := (-1)) (k := (-1)) (by decide)) (by decide) (by decide)), trivial⟩, hS.F ht⟩) hS.2.2 dX10_detour_63
    · skip
      have h_11 : rg 1 1 r_8 := rg_w (rg_neL hr_8 c_9 (by decide)) (by decide) (by decide)
      refine lv_aload_n hx hb dX10_detour_24 rfl (lv_at hl 1 rfl) ?_
      refine va_get (D := D) (ci := 10) (v := .ref (a 40)) (C := RX10) (T := TX10) (N := 3) hx hb hts iX10 hown hK hP 0 rfl rfl 0 (by decide) (hts _ m_331) (fun _ h9 => h9) rfl dX10_detour_25 ?_
      refine va_getN (D := D) (ci := 0) (v := .ref (a 50)) (C := RX0) (T := TX0) (N := 19) (host := "WordSeats") hx hb hts iX0 hown hK hP 1 rfl rfl 17 (by decide) (va_Nw.use rfl (hN _ n_186)) (fun _ h9 => h9) rfl dX10_detour_28 ?_
      refine va_getN (D := D) (ci := 5) (v := .ref (a 51)) (C := RX5) (T := TX5) (N := 4) (host := "WordSeats") hx hb hts iX5 hown hK hP 2 rfl rfl 1 (by decide) (va_Nw.use rfl (hN _ n_64)) (fun _ h9 => h9) rfl dX10_detour_31 ?_
      refine lv_iload_n hx hb dX10_detour_34 rfl (lv_at hl 0 rfl) ?_
      refine va_iald hx hb hK hP 3 0 rfl rfl (in_rg h_6 (by decide) (by decide)) dX10_detour_35 ?_
      refine lv_topi (fun x_12 ex_12 => ?_)
      have hx_12 : rg 0 7 x_12 := by rw [ex_12]; exact q51 _ (cl_rg h_6 (by decide) (by decide))
      refine lv_iload_n hx hb dX10_detour_36 rfl (lv_at hl 2 rfl) ?_
      refine lv_icmp_ne (tgt := 56) hx hb dX10_detour_37 (by decide) (fun c_13 => ?_) (fun c_13 => ?_)
      · skip
        obtain ⟨x_14, ex_14⟩ : ∃ y9 : Int32, y9 = (y_1.1 0) + 1 := ⟨_, rfl⟩
        have hx_14 : rg 1 8 x_14 := by rw [ex_14]; exact rg_add h_6 (rg_c (x := 1) (k := 1) (by decide)) (by decide) (by decide) (by decide) (by decide)
        have tx_14 : x_14.toInt = (y_1.1 0).toInt + 1 := by rw [ex_14]; exact inc_tk h_6 (by decide) (by decide) (by decide)
        refine lv_iinc (v := x_14) (lv' := [(2, .int x_14), (0, .ref (a 15)), (1, .int p0)]) hx hb dX10_detour_56 hl (k := 0) rfl (by rw [ex_14]; rfl) (by decide) rfl (fun ls hl => ?_)
        refine lv_goto (tgt := 2) hx hb dX10_detour_59 (by decide) ?_
        exact ih_3 (fun k => [x_14].getD k 0, fun k => [].getD k (fun _ => 0), fun k => [].getD k (fun _ => 0), fun k => [].getD k 0) _ _ ls ⟨(m_upk me_4 tx_14 (by decide)), (rg_w (c := 0) (d := 8) hx_14 (by decide) (by decide)), hP, hS, (lv_sub hl [0, 1, 2] rfl)⟩
      · skip
        refine lv_aload_n hx hb dX10_detour_40 rfl (lv_at hl 1 rfl) ?_
        refine lv_iload_n hx hb dX10_detour_41 rfl (lv_at hl 0 rfl) ?_
        refine y_pV hF (s_X10_lengthBy l D t a v40_0 v40_1 v40_2 v40_3 v40_4 v40_5 v40_6 v40_7 v50_0 f52 f53 f124 (y_1.1 0) r40_1 r40_5 r40_6 r40_7 (rg_w (c := 0) (d := 8) h_7 (by decide) (by decide)) q52 q53 h_6) m_989 m_991 m_s28 m_8 m_992 hd_X10_lengthBy ⟨Nat.le_of_ble_eq_true rfl, Nat.le_of_ble_eq_true rfl⟩ hK hN hP hS [0, 1, 2, 4, 5, 7] rfl 0 (ci := 10) rfl rfl rfl hl.1 rfl (Nat.le_of_ble_eq_true rfl) dX10_detour_42 ⟨Nat.zero_le _, Nat.zero_le _⟩ (fun r_15 H locs hr_15 hP hS => ?_)
        refine lv_aload_n hx hb dX10_detour_45 rfl (lv_at hl 1 rfl) ?_
        refine va_get (D := D) (ci := 10) (v := .ref (a 124)) (C := RX10) (T := TX10) (N := 3) hx hb hts iX10 hown hK hP 0 rfl rfl 2 (by decide) (hts _ m_334) (fun _ h9 => h9) rfl dX10_detour_46 ?_
        refine lv_iload_n hx hb dX10_detour_49 rfl (lv_at hl 2 rfl) ?_
        refine va_iald hx hb hK hP 7 0 rfl rfl (in_rg rp0 (by decide) (by decide)) dX10_detour_50 ?_
        refine lv_topi (fun x_16 ex_16 => ?_)
        refine lv_icmp_ne (tgt := 56) hx hb dX10_detour_51 (by decide) (fun c_17 => ?_) (fun c_17 => ?_)
        · skip
          obtain ⟨x_18, ex_18⟩ : ∃ y9 : Int32, y9 = (y_1.1 0) + 1 := ⟨_, rfl⟩
          have hx_18 : rg 1 8 x_18 := by rw [ex_18]; exact rg_add h_6 (rg_c (x := 1) (k := 1) (by decide)) (by decide) (by decide) (by decide) (by decide)
          have tx_18 : x_18.toInt = (y_1.1 0).toInt + 1 := by rw [ex_18]; exact inc_tk h_6 (by decide) (by decide) (by decide)
          refine lv_iinc (v := x_18) (lv' := [(2, .int x_18), (0, .ref (a 15)), (1, .int p0)]) hx hb dX10_detour_56 hl (k := 0) rfl (by rw [ex_18]; rfl) (by decide) rfl (fun ls hl => ?_)
          refine lv_goto (tgt := 2) hx hb dX10_detour_59 (by decide) ?_
          exact ih_3 (fun k => [x_18].getD k 0, fun k => [].getD k (fun _ => 0), fun k => [].getD k (fun _ => 0), fun k => [].getD k 0) _ _ ls ⟨(m_upk me_4 tx_18 (by decide)), (rg_w (c := 0) (d := 8) hx_18 (by decide) (by decide)), hP, hS, (lv_sub hl [0, 1, 2] rfl)⟩
        · skip
          refine lv_iload_n hx hb dX10_detour_54 rfl (lv_at hl 0 rfl) ?_
          exact W.iret (v := (y_1.1 0)) hx hb hr (fun t9 ht hW => ⟨⟨(y_1.1 0), (), rfl, (rg_w (c := (-1)) (d := 7) h_6 (by decide) (by decide)), trivial⟩, hS.F ht⟩) hS.2.2 dX10_detour_55

set_option maxHeartbeats 4000000 in
set_option maxRecDepth 100000 in
theorem s_X10_unsayable (l : Launch) (D : va_G) (t : Nat → ClassId) (a : Nat → Nat) (v40_0 : Int32) (v40_1 : Int32) (v40_2 : Int32) (v40_3 : Int32) (v40_4 : Int32) (v40_5 : Int32) (v40_6 : Int32) (v40_7 : Int32) (f124 : Nat → Int32) (r40_1 : rg 0 8 v40_1) (r40_5 : rg 0 4 v40_5) (r40_6 : rg 0 9 v40_6) (r40_7 : rg 0 9 v40_7) : Met l yX10_unsayable (wd yX10_unsayable cX10_unsayable 3 (some .int)) (RM 0 0 0) (PreP D (TY t) [.ref (a 15)] [(a 15, .inr (10, [.ref (a 40), .ref (a 123), .ref (a 124)])), (a 40, .inr (0, [.int v40_0, .int v40_1, .int v40_2, .int v40_3, .int v40_4, .int v40_5, .int v40_6, .int v40_7, .ref (a 41), .ref (a 42), .ref (a 43), .ref (a 44), .ref (a 45), .ref (a 46), .ref (a 47), .ref (a 48), .ref (a 49), .ref (a 50), .ref (a 54)])), (a 124, .inl (t 0, 8, .inl f124))]) (QP (fun r => rg 0 255 r)) 0 0 NoF := by
  refine Met.ofW (cc := cX10_unsayable) (maxL := 3) (ret := (some .int)) (by decide) rfl ?_
  intro p e s m args below meth c s₁ B hml hv
  obtain ⟨rfl, hP, hK, hN⟩ := hv
  have hx := B.exec
  have hb := B.bytes
  have hr := B.returns
  have hts : ∀ w ∈ TB, w.before _ s = true := fun w h => atoms_spec (ws := wd yX10_unsayable cX10_unsayable 3 (some .int)) B.pre w (List.mem_cons_of_mem _ h)
  have hown : s.vm.findClass RX10 = some m.cls := findClass_of_methodNamed B.named
  have hlocks := B.notSynchronized
  have hF : CallFix p m c cX10_unsayable 3 s _ TB RX10 := ⟨hx, hb, hml, hown, hts⟩
  have hl := lv_entry ([.ref (a 15)]) (n := 3) (Nat.le_of_ble_eq_true rfl)
  rw [lg_entry_eq]
  generalize (lg_sl ([.ref (a 15)]) ++ List.replicate (3 - (lg_sl ([.ref (a 15)])).length) Slot.unset).toArray = ls at hl ⊢
  have hl : lv_has ls 3 [(0, .ref (a 15))] := hl
  have hS : va_S NoF s.heap s.heap [] := va_S.rf
  have hP : va_P D classes [(a 15, .inr (10, [.ref (a 40), .ref (a 123), .ref (a 124)])), (a 40, .inr (0, [.int v40_0, .int v40_1, .int v40_2, .int v40_3, .int v40_4, .int v40_5, .int v40_6, .int v40_7, .ref (a 41), .ref (a 42), .ref (a 43), .ref (a 44), .ref (a 45), .ref (a 46), .ref (a 47), .ref (a 48), .ref (a 49), .ref (a 50), .ref (a 54)])), (a 124, .inl (t 0, 8, .inl f124))] s.heap := hP
  refine lv_iconst (v := 0) hx hb dX10_unsayable_0 (by decide) ?_
  refine lv_istore_n (lv' := [(1, .int 0), (0, .ref (a 15))]) hx hb dX10_unsayable_1 rfl hl (by decide) rfl (fun ls hl => ?_)
  refine lv_iconst (v := 0) hx hb dX10_unsayable_2 (by decide) ?_
  refine lv_istore_n (lv' := [(2, .int 0), (1, .int 0), (0, .ref (a 15))]) hx hb dX10_unsayable_3 rfl hl (by decide) rfl (fun ls hl => ?_)
  refine loopW (α := US) (fun n y_1 H locs ls => 8 < (y_1.1 0).toInt + (n : Int) ∧ rg 0 8 (y_1.1 0) ∧ rg 0 255 (y_1.1 1) ∧ va_P D classes [(a 15, .inr (10, [.ref (a 40), .ref (a 123), .ref (a 124)])), (a 40, .inr (0, [.int v40_0, .int v40_1, .int v40_2, .int v40_3, .int v40_4, .int v40_5, .int v40_6, .int v40_7, .ref (a 41), .ref (a 42), .ref (a 43), .ref (a 44), .ref (a 45), .ref (a 46), .ref (a 47), .ref (a 48), .ref (a 49), .ref (a 50), .ref (a 54)])), (a 124, .inl (t 0, 8, .inl f124))] H ∧ va_S NoF s.heap H locs ∧ lv_has ls 3 [(2, .int (y_1.1 0)), (1, .int (y_1.1 1)), (0, .ref (a 15))]) 4 (fun y_1 => []) (fun _ _ _ _ h9 => m_0 h9.1 h9.2.1) (fun n ih_4 y_1 H locs ls hI => ?_) 9 (fun k => [0, 0].getD k 0, fun k => [].getD k (fun _ => 0), fun k => [].getD k (fun _ => 0), fun k => [].getD k 0) ⟨(m_i (rg_c (x := 0) (k := 0) (by decide)) (by decide)), (rg_w (c := 0) (d := 8) (rg_c (x := 0) (k := 0) (by decide)) (by decide) (by decide)), (rg_w (c := 0) (d := 255) (rg_c (x := 0) (k := 0) (by decide)) (by decide) (by decide)), hP, hS, (lv_sub hl [0, 1, 2] rfl)⟩
  obtain ⟨me_5, h_2, h_3, hP, hS, hl⟩ := hI
  refine lv_iload_n hx hb dX10_unsayable_4 rfl (lv_at hl 0 rfl) ?_
  refine lv_aload_n hx hb dX10_unsayable_5 rfl (lv_at hl 2 rfl) ?_
  refine va_get (D := D) (ci := 10) (v := .ref (a 40)) (C := RX10) (T := TX10) (N := 3) hx hb hts iX10 hown hK hP 0 rfl rfl 0 (by decide) (hts _ m_331) (fun _ h9 => h9) rfl dX10_unsayable_6 ?_
  refine va_getN (D := D) (ci := 0) (v := .int v40_1) (C := RX0) (T := TX0) (N := 19) (host := "WordSeats") hx hb hts iX0 hown hK hP 1 rfl rfl 1 (by decide) (va_Nw.use rfl (hN _ n_122)) (fun _ h9 => h9) rfl dX10_unsayable_9 ?_
  refine lv_icmp_ge (tgt := 38) hx hb dX10_unsayable_12 (by decide) (fun c_6 => ?_) (fun c_6 => ?_)
  · skip
    refine lv_iload_n hx hb dX10_unsayable_38 rfl (lv_at hl 1 rfl) ?_
    exact W.iret (v := (y_1.1 1)) hx hb hr (fun t9 ht hW => ⟨⟨(y_1.1 1), (), rfl, h_3, trivial⟩, hS.F ht⟩) hS.2.2 dX10_unsayable_39
  · skip
    have h_7 : rg 0 7 (y_1.1 0) := ⟨(h_2).1, Int.le_trans (c_nleR c_6 r40_1) (by decide)⟩
    have h_8 : rg 1 8 v40_1 := ⟨Int.le_trans (by decide) (c_nle c_6 h_2), (r40_1).2⟩
    refine lv_aload_n hx hb dX10_unsayable_15 rfl (lv_at hl 2 rfl) ?_
    refine va_get (D := D) (ci := 10) (v := .ref (a 124)) (C := RX10) (T := TX10) (N := 3) hx hb hts iX10 hown hK hP 0 rfl rfl 2 (by decide) (hts _ m_334) (fun _ h9 => h9) rfl dX10_unsayable_16 ?_
    refine lv_iload_n hx hb dX10_unsayable_19 rfl (lv_at hl 0 rfl) ?_
    refine va_iald hx hb hK hP 2 0 rfl rfl (in_rg h_7 (by decide) (by decide)) dX10_unsayable_20 ?_
    refine lv_topi (fun x_9 ex_9 => ?_)
    refine lv_ldc (v := 1000000) hx hb hown (hts _ m_976) dX10_unsayable_21 ?_
    refine lv_icmp_lt (tgt := 32) hx hb dX10_unsayable_23 (by decide) (fun c_10 => ?_) (fun c_10 => ?_)
    · skip
      have h_11 : rg (-2147483648) 999999 x_9 := ⟨((rg_any x_9)).1, Int.le_trans (c_lt c_10 (rg_c (x := 1000000) (k := 1000000) (by decide))) (by decide)⟩
      obtain ⟨x_12, ex_12⟩ : ∃ y9 : Int32, y9 = (y_1.1 0) + 1 := ⟨_, rfl⟩
      have hx_12 : rg 1 8 x_12 := by rw [ex_12]; exact rg_add h_7 (rg_c (x := 1) (k := 1) (by decide)) (by decide) (by decide) (by decide) (by decide)
      have tx_12 : x_12.toInt = (y_1.1 0).toInt + 1 := by rw [ex_12]; exact inc_tk h_7 (by decide) (by decide) (by decide)
      refine lv_iinc (v := x_12) (lv' := [(2, .int x_12), (1, .int (y_1.1 1)), (0, .ref (a 15))]) hx hb dX10_unsayable_32 hl (k := 0) rfl (by rw [ex_12]; rfl) (by decide) rfl (fun ls hl => ?_)
      refine lv_goto (tgt := 4) hx hb dX10_unsayable_35 (by decide) ?_
      exact ih_4 (fun k => [x_12, (y_1.1 1)].getD k 0, fun k => [].getD k (fun _ => 0), fun k => [].getD k (fun _ => 0), fun k => [].getD k 0) _ _ ls ⟨(m_upk me_5 tx_12 (by decide)), (rg_w (c := 0) (d := 8) hx_12 (by decide) (by decide)), h_3, hP, hS, (lv_sub hl [0, 1, 2] rfl)⟩
    · skip
      have h_13 : rg 1000000 2147483647 x_9 := ⟨Int.le_trans (by decide) (c_nlt c_10 (rg_c (x := 1000000) (k := 1000000) (by decide))), ((rg_any x_9)).2⟩
      refine lv_iload_n hx hb dX10_unsayable_26 rfl (lv_at hl 1 rfl) ?_
      refine lv_iconst (v := 1) hx hb dX10_unsayable_27 (by decide) ?_
      refine lv_iload_n hx hb dX10_unsayable_28 rfl (lv_at hl 0 rfl) ?_
      refine lv_ishl hx hb dX10_unsayable_29 ?_
      refine lv_topi (fun x_14 ex_14 => ?_)
      have hx_14 : rg 1 128 x_14 := by rw [ex_14]; exact rg_shl1 (b := 7) h_7 (by decide) (by decide)
      refine lv_ior hx hb dX10_unsayable_30 ?_
      refine lv_topi (fun x_15 ex_15 => ?_)
      have hx_15 : rg 0 255 x_15 := by rw [ex_15]; exact rg_or (m := 8) h_3 (rg_w (c := 0) (d := 255) hx_14 (by decide) (by decide)) (by decide) (by decide)
      refine lv_istore_n (lv' := [(1, .int x_15), (2, .int (y_1.1 0)), (0, .ref (a 15))]) hx hb dX10_unsayable_31 rfl hl (by decide) rfl (fun ls hl => ?_)
      obtain ⟨x_16, ex_16⟩ : ∃ y9 : Int32, y9 = (y_1.1 0) + 1 := ⟨_, rfl⟩
      have hx_16 : rg 1 8 x_16 := by rw [ex_16]; exact rg_add h_7 (rg_c (x := 1) (k := 1) (by decide)) (by decide) (by decide) (by decide) (by decide)
      have tx_16 : x_16.toInt = (y_1.1 0).toInt + 1 := by rw [ex_16]; exact inc_tk h_7 (by decide) (by decide) (by decide)
      refine lv_iinc (v := x_16) (lv' := [(2, .int x_16), (1, .int x_15), (0, .ref (a 15))]) hx hb dX10_unsayable_32 hl (k := 1) rfl (by rw [ex_16]; rfl) (by decide) rfl (fun ls hl => ?_)
      refine lv_goto (tgt := 4) hx hb dX10_unsayable_35 (by decide) ?_
      exact ih_4 (fun k => [x_16, x_15].getD k 0, fun k => [].getD k (fun _ => 0), fun k => [].getD k (fun _ => 0), fun k => [].getD k 0) _ _ ls ⟨(m_upk me_5 tx_16 (by decide)), (rg_w (c := 0) (d := 8) hx_16 (by decide) (by decide)), hx_15, hP, hS, (lv_sub hl [0, 1, 2] rfl)⟩

set_option maxHeartbeats 4000000 in
set_option maxRecDepth 100000 in
theorem s_X10_price (l : Launch) (D : va_G) (t : Nat → ClassId) (a : Nat → Nat) (v40_0 : Int32) (v40_1 : Int32) (v40_2 : Int32) (v40_3 : Int32) (v40_4 : Int32) (v40_5 : Int32) (v40_6 : Int32) (v40_7 : Int32) (f47 : Nat → Int32) (f49 : Nat → Int32) (f124 : Nat → Int32) (p0 : Int32) (r40_1 : rg 0 8 v40_1) (r40_5 : rg 0 4 v40_5) (r40_6 : rg 0 9 v40_6) (r40_7 : rg 0 9 v40_7) (rp0 : rg 0 8 p0) : Met l yX10_price (wd yX10_price cX10_price 4 (some .int)) (RM 1 0 0) (PreP D (TY t) [.ref (a 15), .int p0] [(a 15, .inr (10, [.ref (a 40), .ref (a 123), .ref (a 124)])), (a 40, .inr (0, [.int v40_0, .int v40_1, .int v40_2, .int v40_3, .int v40_4, .int v40_5, .int v40_6, .int v40_7, .ref (a 41), .ref (a 42), .ref (a 43), .ref (a 44), .ref (a 45), .ref (a 46), .ref (a 47), .ref (a 48), .ref (a 49), .ref (a 50), .ref (a 54)])), (a 47, .inl (t 0, 9, .inl f47)), (a 49, .inl (t 0, 9, .inl f49)), (a 124, .inl (t 0, 8, .inl f124))]) (QP (fun _ => True)) 0 0 NoF := by
  refine Met.ofW (cc := cX10_price) (maxL := 4) (ret := (some .int)) (by decide) rfl ?_
  intro p e s m args below meth c s₁ B hml hv
  obtain ⟨rfl, hP, hK, hN⟩ := hv
  have hx := B.exec
  have hb := B.bytes
  have hr := B.returns
  have hts : ∀ w ∈ TB, w.before _ s = true := fun w h => atoms_spec (ws := wd yX10_price cX10_price 4 (some .int)) B.pre w (List.mem_cons_of_mem _ h)
  have hown : s.vm.findClass RX10 = some m.cls := findClass_of_methodNamed B.named
  have hlocks := B.notSynchronized
  have hF : CallFix p m c cX10_price 4 s _ TB RX10 := ⟨hx, hb, hml, hown, hts⟩
  have hl := lv_entry ([.ref (a 15), .int p0]) (n := 4) (Nat.le_of_ble_eq_true rfl)
  rw [lg_entry_eq]
  generalize (lg_sl ([.ref (a 15), .int p0]) ++ List.replicate (4 - (lg_sl ([.ref (a 15), .int p0])).length) Slot.unset).toArray = ls at hl ⊢
  have hl : lv_has ls 4 [(0, .ref (a 15)), (1, .int p0)] := hl
  have hS : va_S NoF s.heap s.heap [] := va_S.rf
  have hP : va_P D classes [(a 15, .inr (10, [.ref (a 40), .ref (a 123), .ref (a 124)])), (a 40, .inr (0, [.int v40_0, .int v40_1, .int v40_2, .int v40_3, .int v40_4, .int v40_5, .int v40_6, .int v40_7, .ref (a 41), .ref (a 42), .ref (a 43), .ref (a 44), .ref (a 45), .ref (a 46), .ref (a 47), .ref (a 48), .ref (a 49), .ref (a 50), .ref (a 54)])), (a 47, .inl (t 0, 9, .inl f47)), (a 49, .inl (t 0, 9, .inl f49)), (a 124, .inl (t 0, 8, .inl f124))] s.heap := hP
  refine lv_iconst (v := 0) hx hb dX10_price_0 (by decide) ?_
  refine lv_istore_n (lv' := [(2, .int 0), (0, .ref (a 15)), (1, .int p0)]) hx hb dX10_price_1 rfl hl (by decide) rfl (fun ls hl => ?_)
  refine lv_iconst (v := 0) hx hb dX10_price_2 (by decide) ?_
  refine lv_istore_n (lv' := [(3, .int 0), (2, .int 0), (0, .ref (a 15)), (1, .int p0)]) hx hb dX10_price_3 rfl hl (by decide) rfl (fun ls hl => ?_)
  refine loopW (α := US) (fun n y_1 H locs ls => 8 < (y_1.1 0).toInt + (n : Int) ∧ rg 0 8 (y_1.1 0) ∧ va_P D classes [(a 15, .inr (10, [.ref (a 40), .ref (a 123), .ref (a 124)])), (a 40, .inr (0, [.int v40_0, .int v40_1, .int v40_2, .int v40_3, .int v40_4, .int v40_5, .int v40_6, .int v40_7, .ref (a 41), .ref (a 42), .ref (a 43), .ref (a 44), .ref (a 45), .ref (a 46), .ref (a 47), .ref (a 48), .ref (a 49), .ref (a 50), .ref (a 54)])), (a 47, .inl (t 0, 9, .inl f47)), (a 49, .inl (t 0, 9, .inl f49)), (a 124, .inl (t 0, 8, .inl f124))] H ∧ va_S NoF s.heap H locs ∧ lv_has ls 4 [(3, .int (y_1.1 0)), (2, .int (y_1.1 1)), (0, .ref (a 15)), (1, .int p0)]) 4 (fun y_1 => []) (fun _ _ _ _ h9 => m_0 h9.1 h9.2.1) (fun n ih_3 y_1 H locs ls hI => ?_) 9 (fun k => [0, 0].getD k 0, fun k => [].getD k (fun _ => 0), fun k => [].getD k (fun _ => 0), fun k => [].getD k 0) ⟨(m_i (rg_c (x := 0) (k := 0) (by decide)) (by decide)), (rg_w (c := 0) (d := 8) (rg_c (x := 0) (k := 0) (by decide)) (by decide) (by decide)), hP, hS, (lv_sub hl [0, 1, 2, 3] rfl)⟩
  obtain ⟨me_4, h_2, hP, hS, hl⟩ := hI
  refine lv_iload_n hx hb dX10_price_4 rfl (lv_at hl 0 rfl) ?_
  refine lv_aload_n hx hb dX10_price_5 rfl (lv_at hl 2 rfl) ?_
  refine va_get (D := D) (ci := 10) (v := .ref (a 40)) (C := RX10) (T := TX10) (N := 3) hx hb hts iX10 hown hK hP 0 rfl rfl 0 (by decide) (hts _ m_331) (fun _ h9 => h9) rfl dX10_price_6 ?_
  refine va_getN (D := D) (ci := 0) (v := .int v40_1) (C := RX0) (T := TX0) (N := 19) (host := "WordSeats") hx hb hts iX0 hown hK hP 1 rfl rfl 1 (by decide) (va_Nw.use rfl (hN _ n_122)) (fun _ h9 => h9) rfl dX10_price_9 ?_
  refine lv_icmp_ge (tgt := 62) hx hb dX10_price_12 (by decide) (fun c_5 => ?_) (fun c_5 => ?_)
  · skip
    refine lv_aload_n hx hb dX10_price_62 rfl (lv_at hl 2 rfl) ?_
    refine va_get (D := D) (ci := 10) (v := .ref (a 40)) (C := RX10) (T := TX10) (N := 3) hx hb hts iX10 hown hK hP 0 rfl rfl 0 (by decide) (hts _ m_331) (fun _ h9 => h9) rfl dX10_price_63 ?_
    refine va_getN (D := D) (ci := 0) (v := .ref (a 47)) (C := RX0) (T := TX0) (N := 19) (host := "WordSeats") hx hb hts iX0 hown hK hP 1 rfl rfl 14 (by decide) (va_Nw.use rfl (hN _ n_178)) (fun _ h9 => h9) rfl dX10_price_66 ?_
    refine lv_iload_n hx hb dX10_price_69 rfl (lv_at hl 3 rfl) ?_
    refine va_iald hx hb hK hP 2 0 rfl rfl (in_rg rp0 (by decide) (by decide)) dX10_price_70 ?_
    refine lv_topi (fun x_6 ex_6 => ?_)
    refine lv_iload_n hx hb dX10_price_71 rfl (lv_at hl 1 rfl) ?_
    refine lv_imul hx hb dX10_price_72 ?_
    refine lv_topi (fun x_7 ex_7 => ?_)
    exact W.iret (v := x_7) hx hb hr (fun t9 ht hW => ⟨⟨x_7, (), rfl, trivial, trivial⟩, hS.F ht⟩) hS.2.2 dX10_price_73
  · skip
    have h_8 : rg 0 7 (y_1.1 0) := ⟨(h_2).1, Int.le_trans (c_nleR c_5 r40_1) (by decide)⟩
    have h_9 : rg 1 8 v40_1 := ⟨Int.le_trans (by decide) (c_nle c_5 h_2), (r40_1).2⟩
    refine lv_aload_n hx hb dX10_price_15 rfl (lv_at hl 2 rfl) ?_
    refine va_get (D := D) (ci := 10) (v := .ref (a 40)) (C := RX10) (T := TX10) (N := 3) hx hb hts iX10 hown hK hP 0 rfl rfl 0 (by decide) (hts _ m_331) (fun _ h9 => h9) rfl dX10_price_16 ?_
    refine va_getN (D := D) (ci := 0) (v := .ref (a 49)) (C := RX0) (T := TX0) (N := 19) (host := "WordSeats") hx hb hts iX0 hown hK hP 1 rfl rfl 16 (by decide) (va_Nw.use rfl (hN _ n_184)) (fun _ h9 => h9) rfl dX10_price_19 ?_
    refine lv_iload_n hx hb dX10_price_22 rfl (lv_at hl 3 rfl) ?_
    refine va_iald hx hb hK hP 3 0 rfl rfl (in_rg rp0 (by decide) (by decide)) dX10_price_23 ?_
    refine lv_topi (fun x_10 ex_10 => ?_)
    refine lv_iload_n hx hb dX10_price_24 rfl (lv_at hl 0 rfl) ?_
    refine y_pSN hF (s_X11_holds l D t a x_10 (y_1.1 0)) n_978 m_707 m_1 m_708 hd_X11_holds ⟨Nat.le_of_ble_eq_true rfl, Nat.le_of_ble_eq_true rfl⟩ hK hN hP hS [] rfl hl.1 rfl (Nat.le_of_ble_eq_true rfl) dX10_price_25 ⟨Nat.zero_le _, Nat.zero_le _⟩ (fun r_11 H locs hr_11 hP hS => ?_)
    refine lv_if_eq (tgt := 56) hx hb dX10_price_28 (by decide) (fun c_12 => ?_) (fun c_12 => ?_)
    · skip
      have h_13 : rg 0 0 r_11 := rg_eq c_12 (rg_c (x := 0) (k := 0) (by decide))
      obtain ⟨x_14, ex_14⟩ : ∃ y9 : Int32, y9 = (y_1.1 0) + 1 := ⟨_, rfl⟩
      have hx_14 : rg 1 8 x_14 := by rw [ex_14]; exact rg_add h_8 (rg_c (x := 1) (k := 1) (by decide)) (by decide) (by decide) (by decide) (by decide)
      have tx_14 : x_14.toInt = (y_1.1 0).toInt + 1 := by rw [ex_14]; exact inc_tk h_8 (by decide) (by decide) (by decide)
      refine lv_iinc (v := x_14) (lv' := [(3, .int x_14), (2, .int (y_1.1 1)), (0, .ref (a 15)), (1, .int p0)]) hx hb dX10_price_56 hl (k := 0) rfl (by rw [ex_14]; rfl) (by decide) rfl (fun ls hl => ?_)
      refine lv_goto (tgt := 4) hx hb dX10_price_59 (by decide) ?_
      exact ih_3 (fun k => [x_14, (y_1.1 1)].getD k 0, fun k => [].getD k (fun _ => 0), fun k => [].getD k (fun _ => 0), fun k => [].getD k 0) _ _ ls ⟨(m_upk me_4 tx_14 (by decide)), (rg_w (c := 0) (d := 8) hx_14 (by decide) (by decide)), hP, hS, (lv_sub hl [0, 1, 2, 3] rfl)⟩
    · skip
      have h_15 : rg 1 1 r_11 := rg_w (rg_neL hr_11 c_12 (by decide)) (by decide) (by decide)
      refine lv_iload_n hx hb dX10_price_31 rfl (lv_at hl 1 rfl) ?_
      refine lv_aload_n hx hb dX10_price_32 rfl (lv_at hl 2 rfl) ?_
      refine va_get (D := D) (ci := 10) (v := .ref (a 124)) (C := RX10) (T := TX10) (N := 3) hx hb hts iX10 hown hK hP 0 rfl rfl 2 (by decide) (hts _ m_334) (fun _ h9 => h9) rfl dX10_price_33 ?_
      refine lv_iload_n hx hb dX10_price_36 rfl (lv_at hl 0 rfl) ?_
      refine va_iald hx hb hK hP 4 0 rfl rfl (in_rg h_8 (by decide) (by decide)) dX10_price_37 ?_
      refine lv_topi (fun x_16 ex_16 => ?_)
      refine lv_ldc (v := 1000000) hx hb hown (hts _ m_976) dX10_price_38 ?_
      refine lv_icmp_ge (tgt := 52) hx hb dX10_price_40 (by decide) (fun c_17 => ?_) (fun c_17 => ?_)
      · skip
        have h_18 : rg 1000000 2147483647 x_16 := ⟨Int.le_trans (by decide) (c_leR c_17 (rg_c (x := 1000000) (k := 1000000) (by decide))), ((rg_any x_16)).2⟩
        refine lv_bipush (v := 40) hx hb dX10_price_52 (by decide) ?_
        refine lv_iadd hx hb dX10_price_54 ?_
        refine lv_topi (fun x_19 ex_19 => ?_)
        refine lv_istore_n (lv' := [(2, .int x_19), (3, .int (y_1.1 0)), (0, .ref (a 15)), (1, .int p0)]) hx hb dX10_price_55 rfl hl (by decide) rfl (fun ls hl => ?_)
        obtain ⟨x_20, ex_20⟩ : ∃ y9 : Int32, y9 = (y_1.1 0) + 1 := ⟨_, rfl⟩
        have hx_20 : rg 1 8 x_20 := by rw [ex_20]; exact rg_add h_8 (rg_c (x := 1) (k := 1) (by decide)) (by decide) (by decide) (by decide) (by decide)
        have tx_20 : x_20.toInt = (y_1.1 0).toInt + 1 := by rw [ex_20]; exact inc_tk h_8 (by decide) (by decide) (by decide)
        refine lv_iinc (v := x_20) (lv' := [(3, .int x_20), (2, .int x_19), (0, .ref (a 15)), (1, .int p0)]) hx hb dX10_price_56 hl (k := 1) rfl (by rw [ex_20]; rfl) (by decide) rfl (fun ls hl => ?_)
        refine lv_goto (tgt := 4) hx hb dX10_price_59 (by decide) ?_
        exact ih_3 (fun k => [x_20, x_19].getD k 0, fun k => [].getD k (fun _ => 0), fun k => [].getD k (fun _ => 0), fun k => [].getD k 0) _ _ ls ⟨(m_upk me_4 tx_20 (by decide)), (rg_w (c := 0) (d := 8) hx_20 (by decide) (by decide)), hP, hS, (lv_sub hl [0, 1, 2, 3] rfl)⟩
      · skip
        have h_21 : rg (-2147483648) 999999 x_16 := ⟨((rg_any x_16)).1, Int.le_trans (c_nleR c_17 (rg_c (x := 1000000) (k := 1000000) (by decide))) (by decide)⟩
        refine lv_aload_n hx hb dX10_price_43 rfl (lv_at hl 2 rfl) ?_
        refine va_get (D := D) (ci := 10) (v := .ref (a 124)) (C := RX10) (T := TX10) (N := 3) hx hb hts iX10 hown hK hP 0 rfl rfl 2 (by decide) (hts _ m_334) (fun _ h9 => h9) rfl dX10_price_44 ?_
        refine lv_iload_n hx hb dX10_price_47 rfl (lv_at hl 0 rfl) ?_
        refine va_iald hx hb hK hP 4 0 rfl rfl (in_rg h_8 (by decide) (by decide)) dX10_price_48 ?_
        refine lv_topi (fun x_22 ex_22 => ?_)
        refine lv_goto (tgt := 54) hx hb dX10_price_49 (by decide) ?_
        refine lv_iadd hx hb dX10_price_54 ?_
        refine lv_topi (fun x_23 ex_23 => ?_)
        refine lv_istore_n (lv' := [(2, .int x_23), (3, .int (y_1.1 0)), (0, .ref (a 15)), (1, .int p0)]) hx hb dX10_price_55 rfl hl (by decide) rfl (fun ls hl => ?_)
        obtain ⟨x_24, ex_24⟩ : ∃ y9 : Int32, y9 = (y_1.1 0) + 1 := ⟨_, rfl⟩
        have hx_24 : rg 1 8 x_24 := by rw [ex_24]; exact rg_add h_8 (rg_c (x := 1) (k := 1) (by decide)) (by decide) (by decide) (by decide) (by decide)
        have tx_24 : x_24.toInt = (y_1.1 0).toInt + 1 := by rw [ex_24]; exact inc_tk h_8 (by decide) (by decide) (by decide)
        refine lv_iinc (v := x_24) (lv' := [(3, .int x_24), (2, .int x_23), (0, .ref (a 15)), (1, .int p0)]) hx hb dX10_price_56 hl (k := 1) rfl (by rw [ex_24]; rfl) (by decide) rfl (fun ls hl => ?_)
        refine lv_goto (tgt := 4) hx hb dX10_price_59 (by decide) ?_
        exact ih_3 (fun k => [x_24, x_23].getD k 0, fun k => [].getD k (fun _ => 0), fun k => [].getD k (fun _ => 0), fun k => [].getD k 0) _ _ ls ⟨(m_upk me_4 tx_24 (by decide)), (rg_w (c := 0) (d := 8) hx_24 (by decide) (by decide)), hP, hS, (lv_sub hl [0, 1, 2, 3] rfl)⟩

set_option maxHeartbeats 4000000 in
set_option maxRecDepth 100000 in
theorem s_X10_priceOfAll (l : Launch) (D : va_G) (t : Nat → ClassId) (a : Nat → Nat) (v40_0 : Int32) (v40_1 : Int32) (v40_2 : Int32) (v40_3 : Int32) (v40_4 : Int32) (v40_5 : Int32) (v40_6 : Int32) (v40_7 : Int32) (f42 : Nat → Int32) (f45 : Nat → Int32) (f47 : Nat → Int32) (f49 : Nat → Int32) (v50_0 : Int32) (f51 : Nat → Int32) (f52 : Nat → Int32) (f53 : Nat → Int32) (f123 : Nat → Int32) (f124 : Nat → Int32) (p0 : Int32) (r40_1 : rg 0 8 v40_1) (r40_5 : rg 0 4 v40_5) (r40_6 : rg 0 9 v40_6) (r40_7 : rg 0 9 v40_7) (r50_0 : rg 0 8 v50_0) (q51 : ∀ j, j < 8 → rg 0 7 (f51 j)) (q52 : ∀ j, j < 8 → rg 0 7 (f52 j)) (q53 : ∀ j, j < 8 → rg 0 7 (f53 j)) (sz : Nat) : Met l yX10_priceOfAll (wd yX10_priceOfAll cX10_priceOfAll 4 (some .int)) (RM 3 0 0) (PreW D (TY t) [.ref (a 15), .int p0] [(a 15, .inr (10, [.ref (a 40), .ref (a 123), .ref (a 124)])), (a 40, .inr (0, [.int v40_0, .int v40_1, .int v40_2, .int v40_3, .int v40_4, .int v40_5, .int v40_6, .int v40_7, .ref (a 41), .ref (a 42), .ref (a 43), .ref (a 44), .ref (a 45), .ref (a 46), .ref (a 47), .ref (a 48), .ref (a 49), .ref (a 50), .ref (a 54)])), (a 42, .inl (t 0, 9, .inl f42)), (a 45, .inl (t 0, 9, .inl f45)), (a 47, .inl (t 0, 9, .inl f47)), (a 49, .inl (t 0, 9, .inl f49)), (a 50, .inr (5, [.int v50_0, .ref (a 51), .ref (a 52), .ref (a 53)])), (a 51, .inl (t 0, 8, .inl f51)), (a 52, .inl (t 0, 8, .inl f52)), (a 53, .inl (t 0, 8, .inl f53)), (a 123, .inl (t 0, 8, .inl f123)), (a 124, .inl (t 0, 8, .inl f124))] sz) (va_Qi (fun (_ : Int32) (_ : US) => True) (fun (u : US) t9 => va_P D classes ((fun u : US => [(a 15, .inr (10, [.ref (a 40), .ref (a 123), .ref (a 124)])), (a 40, .inr (0, [.int v40_0, .int v40_1, .int v40_2, .int v40_3, .int v40_4, .int v40_5, .int v40_6, .int v40_7, .ref (a 41), .ref (a 42), .ref (a 43), .ref (a 44), .ref (a 45), .ref (a 46), .ref (a 47), .ref (a 48), .ref (a 49), .ref (a 50), .ref (a 54)])), (a 42, .inl (t 0, 9, .inl f42)), (a 45, .inl (t 0, 9, .inl f45)), (a 47, .inl (t 0, 9, .inl f47)), (a 49, .inl (t 0, 9, .inl f49)), (a 50, .inr (5, [.int v50_0, .ref (a 51), .ref (a 52), .ref (a 53)])), (a 51, .inl (t 0, 8, .inl f51)), (a 52, .inl (t 0, 8, .inl f52)), (a 53, .inl (t 0, 8, .inl f53)), (a 123, .inl (t 0, 8, .inl (u.2.1 0))), (a 124, .inl (t 0, 8, .inl (u.2.1 1)))]) u) t9.heap ∧ va_D (va_A [(a 15, .inr (10, [.ref (a 40), .ref (a 123), .ref (a 124)])), (a 40, .inr (0, [.int v40_0, .int v40_1, .int v40_2, .int v40_3, .int v40_4, .int v40_5, .int v40_6, .int v40_7, .ref (a 41), .ref (a 42), .ref (a 43), .ref (a 44), .ref (a 45), .ref (a 46), .ref (a 47), .ref (a 48), .ref (a 49), .ref (a 50), .ref (a 54)])), (a 42, .inl (t 0, 9, .inl f42)), (a 45, .inl (t 0, 9, .inl f45)), (a 47, .inl (t 0, 9, .inl f47)), (a 49, .inl (t 0, 9, .inl f49)), (a 50, .inr (5, [.int v50_0, .ref (a 51), .ref (a 52), .ref (a 53)])), (a 51, .inl (t 0, 8, .inl f51)), (a 52, .inl (t 0, 8, .inl f52)), (a 53, .inl (t 0, 8, .inl f53)), (a 123, .inl (t 0, 8, .inl f123)), (a 124, .inl (t 0, 8, .inl f124))] sz) ((fun u : US => [(a 15, .inr (10, [.ref (a 40), .ref (a 123), .ref (a 124)])), (a 40, .inr (0, [.int v40_0, .int v40_1, .int v40_2, .int v40_3, .int v40_4, .int v40_5, .int v40_6, .int v40_7, .ref (a 41), .ref (a 42), .ref (a 43), .ref (a 44), .ref (a 45), .ref (a 46), .ref (a 47), .ref (a 48), .ref (a 49), .ref (a 50), .ref (a 54)])), (a 42, .inl (t 0, 9, .inl f42)), (a 45, .inl (t 0, 9, .inl f45)), (a 47, .inl (t 0, 9, .inl f47)), (a 49, .inl (t 0, 9, .inl f49)), (a 50, .inr (5, [.int v50_0, .ref (a 51), .ref (a 52), .ref (a 53)])), (a 51, .inl (t 0, 8, .inl f51)), (a 52, .inl (t 0, 8, .inl f52)), (a 53, .inl (t 0, 8, .inl f53)), (a 123, .inl (t 0, 8, .inl (u.2.1 0))), (a 124, .inl (t 0, 8, .inl (u.2.1 1)))]) u)) (va_A [(a 15, .inr (10, [.ref (a 40), .ref (a 123), .ref (a 124)])), (a 40, .inr (0, [.int v40_0, .int v40_1, .int v40_2, .int v40_3, .int v40_4, .int v40_5, .int v40_6, .int v40_7, .ref (a 41), .ref (a 42), .ref (a 43), .ref (a 44), .ref (a 45), .ref (a 46), .ref (a 47), .ref (a 48), .ref (a 49), .ref (a 50), .ref (a 54)])), (a 42, .inl (t 0, 9, .inl f42)), (a 45, .inl (t 0, 9, .inl f45)), (a 47, .inl (t 0, 9, .inl f47)), (a 49, .inl (t 0, 9, .inl f49)), (a 50, .inr (5, [.int v50_0, .ref (a 51), .ref (a 52), .ref (a 53)])), (a 51, .inl (t 0, 8, .inl f51)), (a 52, .inl (t 0, 8, .inl f52)), (a 53, .inl (t 0, 8, .inl f53)), (a 123, .inl (t 0, 8, .inl f123)), (a 124, .inl (t 0, 8, .inl f124))] sz)) 0 0 (va_A [(a 15, .inr (10, [.ref (a 40), .ref (a 123), .ref (a 124)])), (a 40, .inr (0, [.int v40_0, .int v40_1, .int v40_2, .int v40_3, .int v40_4, .int v40_5, .int v40_6, .int v40_7, .ref (a 41), .ref (a 42), .ref (a 43), .ref (a 44), .ref (a 45), .ref (a 46), .ref (a 47), .ref (a 48), .ref (a 49), .ref (a 50), .ref (a 54)])), (a 42, .inl (t 0, 9, .inl f42)), (a 45, .inl (t 0, 9, .inl f45)), (a 47, .inl (t 0, 9, .inl f47)), (a 49, .inl (t 0, 9, .inl f49)), (a 50, .inr (5, [.int v50_0, .ref (a 51), .ref (a 52), .ref (a 53)])), (a 51, .inl (t 0, 8, .inl f51)), (a 52, .inl (t 0, 8, .inl f52)), (a 53, .inl (t 0, 8, .inl f53)), (a 123, .inl (t 0, 8, .inl f123)), (a 124, .inl (t 0, 8, .inl f124))] sz) := by
  refine Met.ofW (cc := cX10_priceOfAll) (maxL := 4) (ret := (some .int)) (by decide) rfl ?_
  intro p e s m args below meth c s₁ B hml hv
  obtain ⟨rfl, hsz, hP, hK, hD0, hN⟩ := hv
  have hx := B.exec
  have hb := B.bytes
  have hr := B.returns
  have hts : ∀ w ∈ TB, w.before _ s = true := fun w h => atoms_spec (ws := wd yX10_priceOfAll cX10_priceOfAll 4 (some .int)) B.pre w (List.mem_cons_of_mem _ h)
  have hown : s.vm.findClass RX10 = some m.cls := findClass_of_methodNamed B.named
  have hlocks := B.notSynchronized
  have hF : CallFix p m c cX10_priceOfAll 4 s _ TB RX10 := ⟨hx, hb, hml, hown, hts⟩
  have hl := lv_entry ([.ref (a 15), .int p0]) (n := 4) (Nat.le_of_ble_eq_true rfl)
  rw [lg_entry_eq]
  generalize (lg_sl ([.ref (a 15), .int p0]) ++ List.replicate (4 - (lg_sl ([.ref (a 15), .int p0])).length) Slot.unset).toArray = ls at hl ⊢
  have hl : lv_has ls 4 [(0, .ref (a 15)), (1, .int p0)] := hl
  subst hsz
  have hD := hD0.self (sz := s.heap.size)
  generalize hAe : va_A [(a 15, .inr (10, [.ref (a 40), .ref (a 123), .ref (a 124)])), (a 40, .inr (0, [.int v40_0, .int v40_1, .int v40_2, .int v40_3, .int v40_4, .int v40_5, .int v40_6, .int v40_7, .ref (a 41), .ref (a 42), .ref (a 43), .ref (a 44), .ref (a 45), .ref (a 46), .ref (a 47), .ref (a 48), .ref (a 49), .ref (a 50), .ref (a 54)])), (a 42, .inl (t 0, 9, .inl f42)), (a 45, .inl (t 0, 9, .inl f45)), (a 47, .inl (t 0, 9, .inl f47)), (a 49, .inl (t 0, 9, .inl f49)), (a 50, .inr (5, [.int v50_0, .ref (a 51), .ref (a 52), .ref (a 53)])), (a 51, .inl (t 0, 8, .inl f51)), (a 52, .inl (t 0, 8, .inl f52)), (a 53, .inl (t 0, 8, .inl f53)), (a 123, .inl (t 0, 8, .inl f123)), (a 124, .inl (t 0, 8, .inl f124))] s.heap.size = A at hD ⊢
  have hA : ∀ q : Nat, s.heap.size ≤ q → A q := fun q h => by rw [← hAe]; exact Or.inr h
  have hS : va_S A s.heap s.heap [] := va_S.rf
  have hP : va_P D classes [(a 15, .inr (10, [.ref (a 40), .ref (a 123), .ref (a 124)])), (a 40, .inr (0, [.int v40_0, .int v40_1, .int v40_2, .int v40_3, .int v40_4, .int v40_5, .int v40_6, .int v40_7, .ref (a 41), .ref (a 42), .ref (a 43), .ref (a 44), .ref (a 45), .ref (a 46), .ref (a 47), .ref (a 48), .ref (a 49), .ref (a 50), .ref (a 54)])), (a 42, .inl (t 0, 9, .inl f42)), (a 45, .inl (t 0, 9, .inl f45)), (a 47, .inl (t 0, 9, .inl f47)), (a 49, .inl (t 0, 9, .inl f49)), (a 50, .inr (5, [.int v50_0, .ref (a 51), .ref (a 52), .ref (a 53)])), (a 51, .inl (t 0, 8, .inl f51)), (a 52, .inl (t 0, 8, .inl f52)), (a 53, .inl (t 0, 8, .inl f53)), (a 123, .inl (t 0, 8, .inl f123)), (a 124, .inl (t 0, 8, .inl f124))] s.heap := hP
  refine lv_aload_n hx hb dX10_priceOfAll_0 rfl (lv_at hl 0 rfl) ?_
  refine lv_iload_n hx hb dX10_priceOfAll_1 rfl (lv_at hl 1 rfl) ?_
  refine y_wV (wr := [(a 47, .inl (t 0, 9, .inl f47)), (a 49, .inl (t 0, 9, .inl f49))]) hF (s_X10_learn l D t a v40_0 v40_1 v40_2 v40_3 v40_4 v40_5 v40_6 v40_7 f42 f45 v50_0 f51 f52 f53 f123 f124 p0 r40_1 r40_5 r40_6 r40_7 r50_0 q51 q52 q53 s.heap.size) m_1037 m_973 m_974 m_8 m_975 hd_X10_learn ⟨Nat.le_of_ble_eq_true rfl, Nat.le_of_ble_eq_true rfl⟩ hK hN hP hD hS hA 0 (ci := 10) rfl rfl rfl [0, 1, 2, 3, 6, 7, 8, 9, 10, 11] [4, 5] rfl rfl (by decide) (by decide) (by decide) hl.1 rfl (Nat.le_of_ble_eq_true rfl) dX10_priceOfAll_2 ⟨Nat.zero_le _, Nat.zero_le _⟩ (fun u_1 H locs hu_1 hP hD hS => ?_)
  have hP : va_P D classes [(a 47, .inl (t 0, 9, .inl f47)), (a 49, .inl (t 0, 9, .inl f49)), (a 15, .inr (10, [.ref (a 40), .ref (a 123), .ref (a 124)])), (a 40, .inr (0, [.int v40_0, .int v40_1, .int v40_2, .int v40_3, .int v40_4, .int v40_5, .int v40_6, .int v40_7, .ref (a 41), .ref (a 42), .ref (a 43), .ref (a 44), .ref (a 45), .ref (a 46), .ref (a 47), .ref (a 48), .ref (a 49), .ref (a 50), .ref (a 54)])), (a 42, .inl (t 0, 9, .inl f42)), (a 45, .inl (t 0, 9, .inl f45)), (a 50, .inr (5, [.int v50_0, .ref (a 51), .ref (a 52), .ref (a 53)])), (a 51, .inl (t 0, 8, .inl f51)), (a 52, .inl (t 0, 8, .inl f52)), (a 53, .inl (t 0, 8, .inl f53)), (a 123, .inl (t 0, 8, .inl (u_1.2.1 0))), (a 124, .inl (t 0, 8, .inl (u_1.2.1 1)))] H := hP
  have hD : va_D A [(a 47, .inl (t 0, 9, .inl f47)), (a 49, .inl (t 0, 9, .inl f49)), (a 15, .inr (10, [.ref (a 40), .ref (a 123), .ref (a 124)])), (a 40, .inr (0, [.int v40_0, .int v40_1, .int v40_2, .int v40_3, .int v40_4, .int v40_5, .int v40_6, .int v40_7, .ref (a 41), .ref (a 42), .ref (a 43), .ref (a 44), .ref (a 45), .ref (a 46), .ref (a 47), .ref (a 48), .ref (a 49), .ref (a 50), .ref (a 54)])), (a 42, .inl (t 0, 9, .inl f42)), (a 45, .inl (t 0, 9, .inl f45)), (a 50, .inr (5, [.int v50_0, .ref (a 51), .ref (a 52), .ref (a 53)])), (a 51, .inl (t 0, 8, .inl f51)), (a 52, .inl (t 0, 8, .inl f52)), (a 53, .inl (t 0, 8, .inl f53)), (a 123, .inl (t 0, 8, .inl (u_1.2.1 0))), (a 124, .inl (t 0, 8, .inl (u_1.2.1 1)))] := hD
  refine lv_iconst (v := 0) hx hb dX10_priceOfAll_5 (by decide) ?_
  refine lv_istore_n (lv' := [(2, .int 0), (0, .ref (a 15)), (1, .int p0)]) hx hb dX10_priceOfAll_6 rfl hl (by decide) rfl (fun ls hl => ?_)
  refine lv_iconst (v := 0) hx hb dX10_priceOfAll_7 (by decide) ?_
  refine lv_istore_n (lv' := [(3, .int 0), (2, .int 0), (0, .ref (a 15)), (1, .int p0)]) hx hb dX10_priceOfAll_8 rfl hl (by decide) rfl (fun ls hl => ?_)
  refine loopW (α := US) (fun n y_3 H locs ls => 9 < (y_3.1 0).toInt + (n : Int) ∧ rg 0 9 (y_3.1 0) ∧ va_P D classes [(a 47, .inl (t 0, 9, .inl f47)), (a 49, .inl (t 0, 9, .inl f49)), (a 15, .inr (10, [.ref (a 40), .ref (a 123), .ref (a 124)])), (a 40, .inr (0, [.int v40_0, .int v40_1, .int v40_2, .int v40_3, .int v40_4, .int v40_5, .int v40_6, .int v40_7, .ref (a 41), .ref (a 42), .ref (a 43), .ref (a 44), .ref (a 45), .ref (a 46), .ref (a 47), .ref (a 48), .ref (a 49), .ref (a 50), .ref (a 54)])), (a 42, .inl (t 0, 9, .inl f42)), (a 45, .inl (t 0, 9, .inl f45)), (a 50, .inr (5, [.int v50_0, .ref (a 51), .ref (a 52), .ref (a 53)])), (a 51, .inl (t 0, 8, .inl f51)), (a 52, .inl (t 0, 8, .inl f52)), (a 53, .inl (t 0, 8, .inl f53)), (a 123, .inl (t 0, 8, .inl (u_1.2.1 0))), (a 124, .inl (t 0, 8, .inl (u_1.2.1 1)))] H ∧ va_D A [(a 47, .inl (t 0, 9, .inl f47)), (a 49, .inl (t 0, 9, .inl f49)), (a 15, .inr (10, [.ref (a 40), .ref (a 123), .ref (a 124)])), (a 40, .inr (0, [.int v40_0, .int v40_1, .int v40_2, .int v40_3, .int v40_4, .int v40_5, .int v40_6, .int v40_7, .ref (a 41), .ref (a 42), .ref (a 43), .ref (a 44), .ref (a 45), .ref (a 46), .ref (a 47), .ref (a 48), .ref (a 49), .ref (a 50), .ref (a 54)])), (a 42, .inl (t 0, 9, .inl f42)), (a 45, .inl (t 0, 9, .inl f45)), (a 50, .inr (5, [.int v50_0, .ref (a 51), .ref (a 52), .ref (a 53)])), (a 51, .inl (t 0, 8, .inl f51)), (a 52, .inl (t 0, 8, .inl f52)), (a 53, .inl (t 0, 8, .inl f53)), (a 123, .inl (t 0, 8, .inl (u_1.2.1 0))), (a 124, .inl (t 0, 8, .inl (u_1.2.1 1)))] ∧ va_S A s.heap H locs ∧ lv_has ls 4 [(3, .int (y_3.1 0)), (2, .int (y_3.1 1)), (0, .ref (a 15)), (1, .int p0)]) 9 (fun y_3 => []) (fun _ _ _ _ h9 => m_0 h9.1 h9.2.1) (fun n ih_5 y_3 H locs ls hI => ?_) 10 (fun k => [0, 0].getD k 0, fun k => [].getD k (fun _ => 0), fun k => [].getD k (fun _ => 0), fun k => [].getD k 0) ⟨(m_i (rg_c (x := 0) (k := 0) (by decide)) (by decide)), (rg_w (c := 0) (d := 9) (rg_c (x := 0) (k := 0) (by decide)) (by decide) (by decide)), hP, hD, hS, (lv_sub hl [0, 1, 2, 3] rfl)⟩
  obtain ⟨me_6, h_4, hP, hD, hS, hl⟩ := hI
  refine lv_iload_n hx hb dX10_priceOfAll_9 rfl (lv_at hl 0 rfl) ?_
  refine lv_aload_n hx hb dX10_priceOfAll_10 rfl (lv_at hl 2 rfl) ?_
  refine va_get (D := D) (ci := 10) (v := .ref (a 40)) (C := RX10) (T := TX10) (N := 3) hx hb hts iX10 hown hK hP 2 rfl rfl 0 (by decide) (hts _ m_331) (fun _ h9 => h9) rfl dX10_priceOfAll_11 ?_
  refine va_getN (D := D) (ci := 0) (v := .int v40_7) (C := RX0) (T := TX0) (N := 19) (host := "WordSeats") hx hb hts iX0 hown hK hP 3 rfl rfl 7 (by decide) (va_Nw.use rfl (hN _ n_151)) (fun _ h9 => h9) rfl dX10_priceOfAll_14 ?_
  refine lv_icmp_ge (tgt := 34) hx hb dX10_priceOfAll_17 (by decide) (fun c_7 => ?_) (fun c_7 => ?_)
  · skip
    refine lv_iload_n hx hb dX10_priceOfAll_34 rfl (lv_at hl 1 rfl) ?_
    have hP9 := hP.sub (ws' := [(a 15, .inr (10, [.ref (a 40), .ref (a 123), .ref (a 124)])), (a 40, .inr (0, [.int v40_0, .int v40_1, .int v40_2, .int v40_3, .int v40_4, .int v40_5, .int v40_6, .int v40_7, .ref (a 41), .ref (a 42), .ref (a 43), .ref (a 44), .ref (a 45), .ref (a 46), .ref (a 47), .ref (a 48), .ref (a 49), .ref (a 50), .ref (a 54)])), (a 42, .inl (t 0, 9, .inl f42)), (a 45, .inl (t 0, 9, .inl f45)), (a 47, .inl (t 0, 9, .inl f47)), (a 49, .inl (t 0, 9, .inl f49)), (a 50, .inr (5, [.int v50_0, .ref (a 51), .ref (a 52), .ref (a 53)])), (a 51, .inl (t 0, 8, .inl f51)), (a 52, .inl (t 0, 8, .inl f52)), (a 53, .inl (t 0, 8, .inl f53)), (a 123, .inl (t 0, 8, .inl (u_1.2.1 0))), (a 124, .inl (t 0, 8, .inl (u_1.2.1 1)))]) [2, 3, 4, 5, 0, 1, 6, 7, 8, 9, 10, 11] rfl
    have hD9 := hD.sub (ws' := [(a 15, .inr (10, [.ref (a 40), .ref (a 123), .ref (a 124)])), (a 40, .inr (0, [.int v40_0, .int v40_1, .int v40_2, .int v40_3, .int v40_4, .int v40_5, .int v40_6, .int v40_7, .ref (a 41), .ref (a 42), .ref (a 43), .ref (a 44), .ref (a 45), .ref (a 46), .ref (a 47), .ref (a 48), .ref (a 49), .ref (a 50), .ref (a 54)])), (a 42, .inl (t 0, 9, .inl f42)), (a 45, .inl (t 0, 9, .inl f45)), (a 47, .inl (t 0, 9, .inl f47)), (a 49, .inl (t 0, 9, .inl f49)), (a 50, .inr (5, [.int v50_0, .ref (a 51), .ref (a 52), .ref (a 53)])), (a 51, .inl (t 0, 8, .inl f51)), (a 52, .inl (t 0, 8, .inl f52)), (a 53, .inl (t 0, 8, .inl f53)), (a 123, .inl (t 0, 8, .inl (u_1.2.1 0))), (a 124, .inl (t 0, 8, .inl (u_1.2.1 1)))]) [2, 3, 4, 5, 0, 1, 6, 7, 8, 9, 10, 11] (by decide) rfl
    exact W.iret (v := (y_3.1 1)) hx hb hr (fun t9 ht hW => ⟨⟨(y_3.1 1), (fun k => [].getD k 0, fun k => [(u_1.2.1 0), (u_1.2.1 1)].getD k (fun _ => 0), fun k => [].getD k (fun _ => 0), fun _ => 0), rfl, trivial, by rw [ht]; exact hP9, hD9⟩, hS.F ht⟩) hS.2.2 dX10_priceOfAll_35
  · skip
    have h_8 : rg 0 8 (y_3.1 0) := ⟨(h_4).1, Int.le_trans (c_nleR c_7 r40_7) (by decide)⟩
    have h_9 : rg 1 9 v40_7 := ⟨Int.le_trans (by decide) (c_nle c_7 h_4), (r40_7).2⟩
    refine lv_iload_n hx hb dX10_priceOfAll_20 rfl (lv_at hl 1 rfl) ?_
    refine lv_aload_n hx hb dX10_priceOfAll_21 rfl (lv_at hl 2 rfl) ?_
    refine lv_iload_n hx hb dX10_priceOfAll_22 rfl (lv_at hl 0 rfl) ?_
    refine y_pV hF (s_X10_price l D t a v40_0 v40_1 v40_2 v40_3 v40_4 v40_5 v40_6 v40_7 f47 f49 (u_1.2.1 1) (y_3.1 0) r40_1 r40_5 r40_6 (rg_w (c := 0) (d := 9) h_9 (by decide) (by decide)) h_8) m_1038 m_1026 m_1027 m_8 m_1028 hd_X10_price ⟨Nat.le_of_ble_eq_true rfl, Nat.le_of_ble_eq_true rfl⟩ hK hN hP hS [2, 3, 0, 1, 11] rfl 0 (ci := 10) rfl rfl rfl hl.1 rfl (Nat.le_of_ble_eq_true rfl) dX10_priceOfAll_23 ⟨Nat.zero_le _, Nat.zero_le _⟩ (fun r_10 H locs hr_10 hP hS => ?_)
    refine lv_iadd hx hb dX10_priceOfAll_26 ?_
    refine lv_topi (fun x_11 ex_11 => ?_)
    refine lv_istore_n (lv' := [(2, .int x_11), (3, .int (y_3.1 0)), (0, .ref (a 15)), (1, .int p0)]) hx hb dX10_priceOfAll_27 rfl hl (by decide) rfl (fun ls hl => ?_)
    obtain ⟨x_12, ex_12⟩ : ∃ y9 : Int32, y9 = (y_3.1 0) + 1 := ⟨_, rfl⟩
    have hx_12 : rg 1 9 x_12 := by rw [ex_12]; exact rg_add h_8 (rg_c (x := 1) (k := 1) (by decide)) (by decide) (by decide) (by decide) (by decide)
    have tx_12 : x_12.toInt = (y_3.1 0).toInt + 1 := by rw [ex_12]; exact inc_tk h_8 (by decide) (by decide) (by decide)
    refine lv_iinc (v := x_12) (lv' := [(3, .int x_12), (2, .int x_11), (0, .ref (a 15)), (1, .int p0)]) hx hb dX10_priceOfAll_28 hl (k := 1) rfl (by rw [ex_12]; rfl) (by decide) rfl (fun ls hl => ?_)
    refine lv_goto (tgt := 9) hx hb dX10_priceOfAll_31 (by decide) ?_
    exact ih_5 (fun k => [x_12, x_11].getD k 0, fun k => [].getD k (fun _ => 0), fun k => [].getD k (fun _ => 0), fun k => [].getD k 0) _ _ ls ⟨(m_upk me_6 tx_12 (by decide)), (rg_w (c := 0) (d := 9) hx_12 (by decide) (by decide)), hP, hD, hS, (lv_sub hl [0, 1, 2, 3] rfl)⟩

set_option maxHeartbeats 4000000 in
set_option maxRecDepth 100000 in
theorem s_X10_cheapestIn (l : Launch) (D : va_G) (t : Nat → ClassId) (a : Nat → Nat) (v40_0 : Int32) (v40_1 : Int32) (v40_2 : Int32) (v40_3 : Int32) (v40_4 : Int32) (v40_5 : Int32) (v40_6 : Int32) (v40_7 : Int32) (f42 : Nat → Int32) (f43 : Nat → Int32) (f45 : Nat → Int32) (f47 : Nat → Int32) (f49 : Nat → Int32) (v50_0 : Int32) (f51 : Nat → Int32) (f52 : Nat → Int32) (f53 : Nat → Int32) (v54_0 : Int32) (v54_1 : Int32) (v54_2 : Int32) (f123 : Nat → Int32) (f124 : Nat → Int32) (p0 : Int32) (r40_1 : rg 0 8 v40_1) (r40_5 : rg 0 4 v40_5) (r40_6 : rg 0 9 v40_6) (r40_7 : rg 0 9 v40_7) (q43 : ∀ j, j < 9 → rg 0 3 (f43 j)) (r50_0 : rg 0 8 v50_0) (q51 : ∀ j, j < 8 → rg 0 7 (f51 j)) (q52 : ∀ j, j < 8 → rg 0 7 (f52 j)) (q53 : ∀ j, j < 8 → rg 0 7 (f53 j)) (r54_0 : rg 0 60 v54_0) (sz : Nat) : Met l yX10_cheapestIn (wd yX10_cheapestIn cX10_cheapestIn 8 (some .int)) (RM 4 0 0) (PreW D (TY t) [.ref (a 15), .int p0] [(a 15, .inr (10, [.ref (a 40), .ref (a 123), .ref (a 124)])), (a 40, .inr (0, [.int v40_0, .int v40_1, .int v40_2, .int v40_3, .int v40_4, .int v40_5, .int v40_6, .int v40_7, .ref (a 41), .ref (a 42), .ref (a 43), .ref (a 44), .ref (a 45), .ref (a 46), .ref (a 47), .ref (a 48), .ref (a 49), .ref (a 50), .ref (a 54)])), (a 42, .inl (t 0, 9, .inl f42)), (a 43, .inl (t 0, 9, .inl f43)), (a 45, .inl (t 0, 9, .inl f45)), (a 47, .inl (t 0, 9, .inl f47)), (a 49, .inl (t 0, 9, .inl f49)), (a 50, .inr (5, [.int v50_0, .ref (a 51), .ref (a 52), .ref (a 53)])), (a 51, .inl (t 0, 8, .inl f51)), (a 52, .inl (t 0, 8, .inl f52)), (a 53, .inl (t 0, 8, .inl f53)), (a 54, .inr (9, [.int v54_0, .int v54_1, .int v54_2, .ref (a 55), .ref (a 56), .ref (a 57), .ref (a 58)])), (a 123, .inl (t 0, 8, .inl f123)), (a 124, .inl (t 0, 8, .inl f124))] sz) (va_Qi (fun (r : Int32) (_ : US) => rg (-1) 8 r) (fun (u : US) t9 => va_P D classes ((fun u : US => [(a 15, .inr (10, [.ref (a 40), .ref (a 123), .ref (a 124)])), (a 40, .inr (0, [.int v40_0, .int v40_1, .int v40_2, .int v40_3, .int v40_4, .int v40_5, .int v40_6, .int v40_7, .ref (a 41), .ref (a 42), .ref (a 43), .ref (a 44), .ref (a 45), .ref (a 46), .ref (a 47), .ref (a 48), .ref (a 49), .ref (a 50), .ref (a 54)])), (a 42, .inl (t 0, 9, .inl f42)), (a 43, .inl (t 0, 9, .inl f43)), (a 45, .inl (t 0, 9, .inl f45)), (a 47, .inl (t 0, 9, .inl f47)), (a 49, .inl (t 0, 9, .inl f49)), (a 50, .inr (5, [.int v50_0, .ref (a 51), .ref (a 52), .ref (a 53)])), (a 51, .inl (t 0, 8, .inl f51)), (a 52, .inl (t 0, 8, .inl f52)), (a 53, .inl (t 0, 8, .inl f53)), (a 54, .inr (9, [.int v54_0, .int v54_1, .int v54_2, .ref (a 55), .ref (a 56), .ref (a 57), .ref (a 58)])), (a 123, .inl (t 0, 8, .inl (u.2.1 0))), (a 124, .inl (t 0, 8, .inl (u.2.1 1)))]) u) t9.heap ∧ va_D (va_A [(a 15, .inr (10, [.ref (a 40), .ref (a 123), .ref (a 124)])), (a 40, .inr (0, [.int v40_0, .int v40_1, .int v40_2, .int v40_3, .int v40_4, .int v40_5, .int v40_6, .int v40_7, .ref (a 41), .ref (a 42), .ref (a 43), .ref (a 44), .ref (a 45), .ref (a 46), .ref (a 47), .ref (a 48), .ref (a 49), .ref (a 50), .ref (a 54)])), (a 42, .inl (t 0, 9, .inl f42)), (a 43, .inl (t 0, 9, .inl f43)), (a 45, .inl (t 0, 9, .inl f45)), (a 47, .inl (t 0, 9, .inl f47)), (a 49, .inl (t 0, 9, .inl f49)), (a 50, .inr (5, [.int v50_0, .ref (a 51), .ref (a 52), .ref (a 53)])), (a 51, .inl (t 0, 8, .inl f51)), (a 52, .inl (t 0, 8, .inl f52)), (a 53, .inl (t 0, 8, .inl f53)), (a 54, .inr (9, [.int v54_0, .int v54_1, .int v54_2, .ref (a 55), .ref (a 56), .ref (a 57), .ref (a 58)])), (a 123, .inl (t 0, 8, .inl f123)), (a 124, .inl (t 0, 8, .inl f124))] sz) ((fun u : US => [(a 15, .inr (10, [.ref (a 40), .ref (a 123), .ref (a 124)])), (a 40, .inr (0, [.int v40_0, .int v40_1, .int v40_2, .int v40_3, .int v40_4, .int v40_5, .int v40_6, .int v40_7, .ref (a 41), .ref (a 42), .ref (a 43), .ref (a 44), .ref (a 45), .ref (a 46), .ref (a 47), .ref (a 48), .ref (a 49), .ref (a 50), .ref (a 54)])), (a 42, .inl (t 0, 9, .inl f42)), (a 43, .inl (t 0, 9, .inl f43)), (a 45, .inl (t 0, 9, .inl f45)), (a 47, .inl (t 0, 9, .inl f47)), (a 49, .inl (t 0, 9, .inl f49)), (a 50, .inr (5, [.int v50_0, .ref (a 51), .ref (a 52), .ref (a 53)])), (a 51, .inl (t 0, 8, .inl f51)), (a 52, .inl (t 0, 8, .inl f52)), (a 53, .inl (t 0, 8, .inl f53)), (a 54, .inr (9, [.int v54_0, .int v54_1, .int v54_2, .ref (a 55), .ref (a 56), .ref (a 57), .ref (a 58)])), (a 123, .inl (t 0, 8, .inl (u.2.1 0))), (a 124, .inl (t 0, 8, .inl (u.2.1 1)))]) u)) (va_A [(a 15, .inr (10, [.ref (a 40), .ref (a 123), .ref (a 124)])), (a 40, .inr (0, [.int v40_0, .int v40_1, .int v40_2, .int v40_3, .int v40_4, .int v40_5, .int v40_6, .int v40_7, .ref (a 41), .ref (a 42), .ref (a 43), .ref (a 44), .ref (a 45), .ref (a 46), .ref (a 47), .ref (a 48), .ref (a 49), .ref (a 50), .ref (a 54)])), (a 42, .inl (t 0, 9, .inl f42)), (a 43, .inl (t 0, 9, .inl f43)), (a 45, .inl (t 0, 9, .inl f45)), (a 47, .inl (t 0, 9, .inl f47)), (a 49, .inl (t 0, 9, .inl f49)), (a 50, .inr (5, [.int v50_0, .ref (a 51), .ref (a 52), .ref (a 53)])), (a 51, .inl (t 0, 8, .inl f51)), (a 52, .inl (t 0, 8, .inl f52)), (a 53, .inl (t 0, 8, .inl f53)), (a 54, .inr (9, [.int v54_0, .int v54_1, .int v54_2, .ref (a 55), .ref (a 56), .ref (a 57), .ref (a 58)])), (a 123, .inl (t 0, 8, .inl f123)), (a 124, .inl (t 0, 8, .inl f124))] sz)) 0 0 (va_A [(a 15, .inr (10, [.ref (a 40), .ref (a 123), .ref (a 124)])), (a 40, .inr (0, [.int v40_0, .int v40_1, .int v40_2, .int v40_3, .int v40_4, .int v40_5, .int v40_6, .int v40_7, .ref (a 41), .ref (a 42), .ref (a 43), .ref (a 44), .ref (a 45), .ref (a 46), .ref (a 47), .ref (a 48), .ref (a 49), .ref (a 50), .ref (a 54)])), (a 42, .inl (t 0, 9, .inl f42)), (a 43, .inl (t 0, 9, .inl f43)), (a 45, .inl (t 0, 9, .inl f45)), (a 47, .inl (t 0, 9, .inl f47)), (a 49, .inl (t 0, 9, .inl f49)), (a 50, .inr (5, [.int v50_0, .ref (a 51), .ref (a 52), .ref (a 53)])), (a 51, .inl (t 0, 8, .inl f51)), (a 52, .inl (t 0, 8, .inl f52)), (a 53, .inl (t 0, 8, .inl f53)), (a 54, .inr (9, [.int v54_0, .int v54_1, .int v54_2, .ref (a 55), .ref (a 56), .ref (a 57), .ref (a 58)])), (a 123, .inl (t 0, 8, .inl f123)), (a 124, .inl (t 0, 8, .inl f124))] sz) := by
  refine Met.ofW (cc := cX10_cheapestIn) (maxL := 8) (ret := (some .int)) (by decide) rfl ?_
  intro p e s m args below meth c s₁ B hml hv
  obtain ⟨rfl, hsz, hP, hK, hD0, hN⟩ := hv
  have hx := B.exec
  have hb := B.bytes
  have hr := B.returns
  have hts : ∀ w ∈ TB, w.before _ s = true := fun w h => atoms_spec (ws := wd yX10_cheapestIn cX10_cheapestIn 8 (some .int)) B.pre w (List.mem_cons_of_mem _ h)
  have hown : s.vm.findClass RX10 = some m.cls := findClass_of_methodNamed B.named
  have hlocks := B.notSynchronized
  have hF : CallFix p m c cX10_cheapestIn 8 s _ TB RX10 := ⟨hx, hb, hml, hown, hts⟩
  have hl := lv_entry ([.ref (a 15), .int p0]) (n := 8) (Nat.le_of_ble_eq_true rfl)
  rw [lg_entry_eq]
  generalize (lg_sl ([.ref (a 15), .int p0]) ++ List.replicate (8 - (lg_sl ([.ref (a 15), .int p0])).length) Slot.unset).toArray = ls at hl ⊢
  have hl : lv_has ls 8 [(0, .ref (a 15)), (1, .int p0)] := hl
  subst hsz
  have hD := hD0.self (sz := s.heap.size)
  generalize hAe : va_A [(a 15, .inr (10, [.ref (a 40), .ref (a 123), .ref (a 124)])), (a 40, .inr (0, [.int v40_0, .int v40_1, .int v40_2, .int v40_3, .int v40_4, .int v40_5, .int v40_6, .int v40_7, .ref (a 41), .ref (a 42), .ref (a 43), .ref (a 44), .ref (a 45), .ref (a 46), .ref (a 47), .ref (a 48), .ref (a 49), .ref (a 50), .ref (a 54)])), (a 42, .inl (t 0, 9, .inl f42)), (a 43, .inl (t 0, 9, .inl f43)), (a 45, .inl (t 0, 9, .inl f45)), (a 47, .inl (t 0, 9, .inl f47)), (a 49, .inl (t 0, 9, .inl f49)), (a 50, .inr (5, [.int v50_0, .ref (a 51), .ref (a 52), .ref (a 53)])), (a 51, .inl (t 0, 8, .inl f51)), (a 52, .inl (t 0, 8, .inl f52)), (a 53, .inl (t 0, 8, .inl f53)), (a 54, .inr (9, [.int v54_0, .int v54_1, .int v54_2, .ref (a 55), .ref (a 56), .ref (a 57), .ref (a 58)])), (a 123, .inl (t 0, 8, .inl f123)), (a 124, .inl (t 0, 8, .inl f124))] s.heap.size = A at hD ⊢
  have hA : ∀ q : Nat, s.heap.size ≤ q → A q := fun q h => by rw [← hAe]; exact Or.inr h
  have hS : va_S A s.heap s.heap [] := va_S.rf
  have hP : va_P D classes [(a 15, .inr (10, [.ref (a 40), .ref (a 123), .ref (a 124)])), (a 40, .inr (0, [.int v40_0, .int v40_1, .int v40_2, .int v40_3, .int v40_4, .int v40_5, .int v40_6, .int v40_7, .ref (a 41), .ref (a 42), .ref (a 43), .ref (a 44), .ref (a 45), .ref (a 46), .ref (a 47), .ref (a 48), .ref (a 49), .ref (a 50), .ref (a 54)])), (a 42, .inl (t 0, 9, .inl f42)), (a 43, .inl (t 0, 9, .inl f43)), (a 45, .inl (t 0, 9, .inl f45)), (a 47, .inl (t 0, 9, .inl f47)), (a 49, .inl (t 0, 9, .inl f49)), (a 50, .inr (5, [.int v50_0, .ref (a 51), .ref (a 52), .ref (a 53)])), (a 51, .inl (t 0, 8, .inl f51)), (a 52, .inl (t 0, 8, .inl f52)), (a 53, .inl (t 0, 8, .inl f53)), (a 54, .inr (9, [.int v54_0, .int v54_1, .int v54_2, .ref (a 55), .ref (a 56), .ref (a 57), .ref (a 58)])), (a 123, .inl (t 0, 8, .inl f123)), (a 124, .inl (t 0, 8, .inl f124))] s.heap := hP
  refine lv_aload_n hx hb dX10_cheapestIn_0 rfl (lv_at hl 0 rfl) ?_
  refine va_get (D := D) (ci := 10) (v := .ref (a 40)) (C := RX10) (T := TX10) (N := 3) hx hb hts iX10 hown hK hP 0 rfl rfl 0 (by decide) (hts _ m_331) (fun _ h9 => h9) rfl dX10_cheapestIn_1 ?_
  refine va_getN (D := D) (ci := 0) (v := .ref (a 54)) (C := RX0) (T := TX0) (N := 19) (host := "WordSeats") hx hb hts iX0 hown hK hP 1 rfl rfl 18 (by decide) (va_Nw.use rfl (hN _ n_192)) (fun _ h9 => h9) rfl dX10_cheapestIn_4 ?_
  refine va_getN (D := D) (ci := 9) (v := .int v54_1) (C := RX9) (T := TX9) (N := 7) (host := "WordSeats") hx hb hts iX9 hown hK hP 11 rfl rfl 1 (by decide) (va_Nw.use rfl (hN _ n_89)) (fun _ h9 => h9) rfl dX10_cheapestIn_7 ?_
  refine lv_aload_n hx hb dX10_cheapestIn_10 rfl (lv_at hl 0 rfl) ?_
  refine va_get (D := D) (ci := 10) (v := .ref (a 40)) (C := RX10) (T := TX10) (N := 3) hx hb hts iX10 hown hK hP 0 rfl rfl 0 (by decide) (hts _ m_331) (fun _ h9 => h9) rfl dX10_cheapestIn_11 ?_
  refine lv_iload_n hx hb dX10_cheapestIn_14 rfl (lv_at hl 1 rfl) ?_
  refine y_pV hF (s_X0_wordsIn_40 l D t a v40_0 v40_1 v40_2 v40_3 v40_4 v40_5 v40_6 v40_7 f43 p0 r40_1 r40_5 r40_6 r40_7 q43) m_1054 m_730 m_731 m_3 m_732 hd_X0_wordsIn ⟨Nat.le_of_ble_eq_true rfl, Nat.le_of_ble_eq_true rfl⟩ hK hN hP hS [1, 3] rfl 0 (ci := 0) rfl rfl rfl hl.1 rfl (Nat.le_of_ble_eq_true rfl) dX10_cheapestIn_15 ⟨Nat.zero_le _, Nat.zero_le _⟩ (fun r_1 H locs hr_1 hP hS => ?_)
  refine lv_iconst (v := (-1)) hx hb dX10_cheapestIn_18 (by decide) ?_
  refine lv_ixor hx hb dX10_cheapestIn_19 ?_
  refine lv_topi (fun x_2 ex_2 => ?_)
  refine lv_iand hx hb dX10_cheapestIn_20 ?_
  refine lv_topi (fun x_3 ex_3 => ?_)
  refine lv_istore_n (lv' := [(2, .int x_3), (0, .ref (a 15)), (1, .int p0)]) hx hb dX10_cheapestIn_21 rfl hl (by decide) rfl (fun ls hl => ?_)
  refine lv_aload_n hx hb dX10_cheapestIn_22 rfl (lv_at hl 1 rfl) ?_
  refine va_get (D := D) (ci := 10) (v := .ref (a 40)) (C := RX10) (T := TX10) (N := 3) hx hb hts iX10 hown hK hP 0 rfl rfl 0 (by decide) (hts _ m_331) (fun _ h9 => h9) rfl dX10_cheapestIn_23 ?_
  refine lv_iload_n hx hb dX10_cheapestIn_26 rfl (lv_at hl 2 rfl) ?_
  refine y_pV hF (s_X0_standingIn_40 l D t a v40_0 v40_1 v40_2 v40_3 v40_4 v40_5 v40_6 v40_7 f43 v54_0 v54_1 v54_2 p0 r40_1 r40_5 r40_6 r40_7 q43 r54_0) m_1055 m_726 m_727 m_3 m_728 hd_X0_standingIn ⟨Nat.le_of_ble_eq_true rfl, Nat.le_of_ble_eq_true rfl⟩ hK hN hP hS [1, 3, 11] rfl 0 (ci := 0) rfl rfl rfl hl.1 rfl (Nat.le_of_ble_eq_true rfl) dX10_cheapestIn_27 ⟨Nat.zero_le _, Nat.zero_le _⟩ (fun r_4 H locs hr_4 hP hS => ?_)
  refine lv_istore_n (lv' := [(3, .int r_4), (2, .int x_3), (0, .ref (a 15)), (1, .int p0)]) hx hb dX10_cheapestIn_30 rfl hl (by decide) rfl (fun ls hl => ?_)
  refine lv_iconst (v := (-1)) hx hb dX10_cheapestIn_31 (by decide) ?_
  refine lv_istore (lv' := [(4, .int (-1)), (3, .int r_4), (2, .int x_3), (0, .ref (a 15)), (1, .int p0)]) hx hb dX10_cheapestIn_32 hl (by decide) rfl (fun ls hl => ?_)
  refine lv_iconst (v := 0) hx hb dX10_cheapestIn_34 (by decide) ?_
  refine lv_istore (lv' := [(5, .int 0), (4, .int (-1)), (3, .int r_4), (2, .int x_3), (0, .ref (a 15)), (1, .int p0)]) hx hb dX10_cheapestIn_35 hl (by decide) rfl (fun ls hl => ?_)
  refine lv_iconst (v := 0) hx hb dX10_cheapestIn_37 (by decide) ?_
  refine lv_istore (lv' := [(6, .int 0), (5, .int 0), (4, .int (-1)), (3, .int r_4), (2, .int x_3), (0, .ref (a 15)), (1, .int p0)]) hx hb dX10_cheapestIn_38 hl (by decide) rfl (fun ls hl => ?_)
  refine loopW (α := US) (fun n y_5 H locs ls => 9 < (y_5.1 0).toInt + (n : Int) ∧ rg 0 9 (y_5.1 0) ∧ rg (-1) 8 (y_5.1 2) ∧ va_P D classes [(a 15, .inr (10, [.ref (a 40), .ref (a 123), .ref (a 124)])), (a 40, .inr (0, [.int v40_0, .int v40_1, .int v40_2, .int v40_3, .int v40_4, .int v40_5, .int v40_6, .int v40_7, .ref (a 41), .ref (a 42), .ref (a 43), .ref (a 44), .ref (a 45), .ref (a 46), .ref (a 47), .ref (a 48), .ref (a 49), .ref (a 50), .ref (a 54)])), (a 42, .inl (t 0, 9, .inl f42)), (a 43, .inl (t 0, 9, .inl f43)), (a 45, .inl (t 0, 9, .inl f45)), (a 47, .inl (t 0, 9, .inl f47)), (a 49, .inl (t 0, 9, .inl f49)), (a 50, .inr (5, [.int v50_0, .ref (a 51), .ref (a 52), .ref (a 53)])), (a 51, .inl (t 0, 8, .inl f51)), (a 52, .inl (t 0, 8, .inl f52)), (a 53, .inl (t 0, 8, .inl f53)), (a 54, .inr (9, [.int v54_0, .int v54_1, .int v54_2, .ref (a 55), .ref (a 56), .ref (a 57), .ref (a 58)])), (a 123, .inl (t 0, 8, .inl (y_5.2.1 0))), (a 124, .inl (t 0, 8, .inl (y_5.2.1 1)))] H ∧ va_D A [(a 15, .inr (10, [.ref (a 40), .ref (a 123), .ref (a 124)])), (a 40, .inr (0, [.int v40_0, .int v40_1, .int v40_2, .int v40_3, .int v40_4, .int v40_5, .int v40_6, .int v40_7, .ref (a 41), .ref (a 42), .ref (a 43), .ref (a 44), .ref (a 45), .ref (a 46), .ref (a 47), .ref (a 48), .ref (a 49), .ref (a 50), .ref (a 54)])), (a 42, .inl (t 0, 9, .inl f42)), (a 43, .inl (t 0, 9, .inl f43)), (a 45, .inl (t 0, 9, .inl f45)), (a 47, .inl (t 0, 9, .inl f47)), (a 49, .inl (t 0, 9, .inl f49)), (a 50, .inr (5, [.int v50_0, .ref (a 51), .ref (a 52), .ref (a 53)])), (a 51, .inl (t 0, 8, .inl f51)), (a 52, .inl (t 0, 8, .inl f52)), (a 53, .inl (t 0, 8, .inl f53)), (a 54, .inr (9, [.int v54_0, .int v54_1, .int v54_2, .ref (a 55), .ref (a 56), .ref (a 57), .ref (a 58)])), (a 123, .inl (t 0, 8, .inl (y_5.2.1 0))), (a 124, .inl (t 0, 8, .inl (y_5.2.1 1)))] ∧ va_S A s.heap H locs ∧ lv_has ls 8 [(6, .int (y_5.1 0)), (5, .int (y_5.1 1)), (4, .int (y_5.1 2)), (3, .int r_4), (2, .int x_3), (0, .ref (a 15)), (1, .int p0)]) 40 (fun y_5 => []) (fun _ _ _ _ h9 => m_0 h9.1 h9.2.1) (fun n ih_8 y_5 H locs ls hI => ?_) 10 (fun k => [0, 0, (-1)].getD k 0, fun k => [f123, f124].getD k (fun _ => 0), fun k => [].getD k (fun _ => 0), fun k => [].getD k 0) ⟨(m_i (rg_c (x := 0) (k := 0) (by decide)) (by decide)), (rg_w (c := 0) (d := 9) (rg_c (x := 0) (k := 0) (by decide)) (by decide) (by decide)), (rg_w (c := (-1)) (d := 8) (rg_c (x := (-1)) (k := (-1)) (by decide)) (by decide) (by decide)), hP, hD, hS, (lv_sub hl [0, 1, 2, 3, 4, 5, 6] rfl)⟩
  obtain ⟨me_9, h_6, h_7, hP, hD, hS, hl⟩ := hI
  refine lv_iload hx hb dX10_cheapestIn_40 (lv_at hl 0 rfl) ?_
  refine lv_aload_n hx hb dX10_cheapestIn_42 rfl (lv_at hl 5 rfl) ?_
  refine va_get (D := D) (ci := 10) (v := .ref (a 40)) (C := RX10) (T := TX10) (N := 3) hx hb hts iX10 hown hK hP 0 rfl rfl 0 (by decide) (hts _ m_331) (fun _ h9 => h9) rfl dX10_cheapestIn_43 ?_
  refine va_getN (D := D) (ci := 0) (v := .int v40_6) (C := RX0) (T := TX0) (N := 19) (host := "WordSeats") hx hb hts iX0 hown hK hP 1 rfl rfl 6 (by decide) (va_Nw.use rfl (hN _ n_141)) (fun _ h9 => h9) rfl dX10_cheapestIn_46 ?_
  refine lv_icmp_ge (tgt := 100) hx hb dX10_cheapestIn_49 (by decide) (fun c_10 => ?_) (fun c_10 => ?_)
  · skip
    refine lv_iload hx hb dX10_cheapestIn_100 (lv_at hl 2 rfl) ?_
    have hP9 := hP.sub (ws' := [(a 15, .inr (10, [.ref (a 40), .ref (a 123), .ref (a 124)])), (a 40, .inr (0, [.int v40_0, .int v40_1, .int v40_2, .int v40_3, .int v40_4, .int v40_5, .int v40_6, .int v40_7, .ref (a 41), .ref (a 42), .ref (a 43), .ref (a 44), .ref (a 45), .ref (a 46), .ref (a 47), .ref (a 48), .ref (a 49), .ref (a 50), .ref (a 54)])), (a 42, .inl (t 0, 9, .inl f42)), (a 43, .inl (t 0, 9, .inl f43)), (a 45, .inl (t 0, 9, .inl f45)), (a 47, .inl (t 0, 9, .inl f47)), (a 49, .inl (t 0, 9, .inl f49)), (a 50, .inr (5, [.int v50_0, .ref (a 51), .ref (a 52), .ref (a 53)])), (a 51, .inl (t 0, 8, .inl f51)), (a 52, .inl (t 0, 8, .inl f52)), (a 53, .inl (t 0, 8, .inl f53)), (a 54, .inr (9, [.int v54_0, .int v54_1, .int v54_2, .ref (a 55), .ref (a 56), .ref (a 57), .ref (a 58)])), (a 123, .inl (t 0, 8, .inl (y_5.2.1 0))), (a 124, .inl (t 0, 8, .inl (y_5.2.1 1)))]) [0, 1, 2, 3, 4, 5, 6, 7, 8, 9, 10, 11, 12, 13] rfl
    have hD9 := hD.sub (ws' := [(a 15, .inr (10, [.ref (a 40), .ref (a 123), .ref (a 124)])), (a 40, .inr (0, [.int v40_0, .int v40_1, .int v40_2, .int v40_3, .int v40_4, .int v40_5, .int v40_6, .int v40_7, .ref (a 41), .ref (a 42), .ref (a 43), .ref (a 44), .ref (a 45), .ref (a 46), .ref (a 47), .ref (a 48), .ref (a 49), .ref (a 50), .ref (a 54)])), (a 42, .inl (t 0, 9, .inl f42)), (a 43, .inl (t 0, 9, .inl f43)), (a 45, .inl (t 0, 9, .inl f45)), (a 47, .inl (t 0, 9, .inl f47)), (a 49, .inl (t 0, 9, .inl f49)), (a 50, .inr (5, [.int v50_0, .ref (a 51), .ref (a 52), .ref (a 53)])), (a 51, .inl (t 0, 8, .inl f51)), (a 52, .inl (t 0, 8, .inl f52)), (a 53, .inl (t 0, 8, .inl f53)), (a 54, .inr (9, [.int v54_0, .int v54_1, .int v54_2, .ref (a 55), .ref (a 56), .ref (a 57), .ref (a 58)])), (a 123, .inl (t 0, 8, .inl (y_5.2.1 0))), (a 124, .inl (t 0, 8, .inl (y_5.2.1 1)))]) [0, 1, 2, 3, 4, 5, 6, 7, 8, 9, 10, 11, 12, 13] (by decide) rfl
    exact W.iret (v := (y_5.1 2)) hx hb hr (fun t9 ht hW => ⟨⟨(y_5.1 2), (fun k => [].getD k 0, fun k => [(y_5.2.1 0), (y_5.2.1 1)].getD k (fun _ => 0), fun k => [].getD k (fun _ => 0), fun _ => 0), rfl, h_7, by rw [ht]; exact hP9, hD9⟩, hS.F ht⟩) hS.2.2 dX10_cheapestIn_102
  · skip
    have h_11 : rg 0 8 (y_5.1 0) := ⟨(h_6).1, Int.le_trans (c_nleR c_10 r40_6) (by decide)⟩
    have h_12 : rg 1 9 v40_6 := ⟨Int.le_trans (by decide) (c_nle c_10 h_6), (r40_6).2⟩
    refine lv_iload_n hx hb dX10_cheapestIn_52 rfl (lv_at hl 3 rfl) ?_
    refine lv_iload hx hb dX10_cheapestIn_53 (lv_at hl 0 rfl) ?_
    refine y_pSN hF (s_X11_holds l D t a r_4 (y_5.1 0)) n_978 m_707 m_1 m_708 hd_X11_holds ⟨Nat.le_of_ble_eq_true rfl, Nat.le_of_ble_eq_true rfl⟩ hK hN hP hS [] rfl hl.1 rfl (Nat.le_of_ble_eq_true rfl) dX10_cheapestIn_55 ⟨Nat.zero_le _, Nat.zero_le _⟩ (fun r_13 H locs hr_13 hP hS => ?_)
    refine lv_if_eq (tgt := 94) hx hb dX10_cheapestIn_58 (by decide) (fun c_14 => ?_) (fun c_14 => ?_)
    · skip
      have h_15 : rg 0 0 r_13 := rg_eq c_14 (rg_c (x := 0) (k := 0) (by decide))
      obtain ⟨x_16, ex_16⟩ : ∃ y9 : Int32, y9 = (y_5.1 0) + 1 := ⟨_, rfl⟩
      have hx_16 : rg 1 9 x_16 := by rw [ex_16]; exact rg_add h_11 (rg_c (x := 1) (k := 1) (by decide)) (by decide) (by decide) (by decide) (by decide)
      have tx_16 : x_16.toInt = (y_5.1 0).toInt + 1 := by rw [ex_16]; exact inc_tk h_11 (by decide) (by decide) (by decide)
      refine lv_iinc (v := x_16) (lv' := [(6, .int x_16), (5, .int (y_5.1 1)), (4, .int (y_5.1 2)), (3, .int r_4), (2, .int x_3), (0, .ref (a 15)), (1, .int p0)]) hx hb dX10_cheapestIn_94 hl (k := 0) rfl (by rw [ex_16]; rfl) (by decide) rfl (fun ls hl => ?_)
      refine lv_goto (tgt := 40) hx hb dX10_cheapestIn_97 (by decide) ?_
      exact ih_8 (fun k => [x_16, (y_5.1 1), (y_5.1 2)].getD k 0, fun k => [(y_5.2.1 0), (y_5.2.1 1)].getD k (fun _ => 0), fun k => [].getD k (fun _ => 0), fun k => [].getD k 0) _ _ ls ⟨(m_upk me_9 tx_16 (by decide)), (rg_w (c := 0) (d := 9) hx_16 (by decide) (by decide)), h_7, hP, hD, hS, (lv_sub hl [0, 1, 2, 3, 4, 5, 6] rfl)⟩
    · skip
      have h_17 : rg 1 1 r_13 := rg_w (rg_neL hr_13 c_14 (by decide)) (by decide) (by decide)
      refine lv_aload_n hx hb dX10_cheapestIn_61 rfl (lv_at hl 5 rfl) ?_
      refine lv_iload_n hx hb dX10_cheapestIn_62 rfl (lv_at hl 4 rfl) ?_
      refine lv_iconst (v := 1) hx hb dX10_cheapestIn_63 (by decide) ?_
      refine lv_iload hx hb dX10_cheapestIn_64 (lv_at hl 0 rfl) ?_
      refine lv_ishl hx hb dX10_cheapestIn_66 ?_
      refine lv_topi (fun x_18 ex_18 => ?_)
      have hx_18 : rg 1 256 x_18 := by rw [ex_18]; exact rg_shl1 (b := 8) h_11 (by decide) (by decide)
      refine lv_ior hx hb dX10_cheapestIn_67 ?_
      refine lv_topi (fun x_19 ex_19 => ?_)
      refine y_wVi (wr := [(a 43, .inl (t 0, 9, .inl f43)), (a 54, .inr (9, [.int v54_0, .int v54_1, .int v54_2, .ref (a 55), .ref (a 56), .ref (a 57), .ref (a 58)]))]) hF (s_X10_priceOfAll l D t a v40_0 v40_1 v40_2 v40_3 v40_4 v40_5 v40_6 v40_7 f42 f45 f47 f49 v50_0 f51 f52 f53 (y_5.2.1 0) (y_5.2.1 1) x_19 r40_1 r40_5 (rg_w (c := 0) (d := 9) h_12 (by decide) (by decide)) r40_7 r50_0 q51 q52 q53 H.size) m_1056 m_1034 m_1035 m_8 m_1036 hd_X10_priceOfAll ⟨Nat.le_of_ble_eq_true rfl, Nat.le_of_ble_eq_true rfl⟩ hK hN hP hD hS hA 0 (ci := 10) rfl rfl rfl [0, 1, 2, 4, 5, 6, 7, 8, 9, 10, 12, 13] [3, 11] rfl rfl (by decide) (by decide) (by decide) hl.1 rfl (Nat.le_of_ble_eq_true rfl) dX10_cheapestIn_68 ⟨Nat.zero_le _, Nat.zero_le _⟩ (fun r_21 u_20 H locs hu_20 hP hD hS => ?_)
      have hP : va_P D classes [(a 43, .inl (t 0, 9, .inl f43)), (a 54, .inr (9, [.int v54_0, .int v54_1, .int v54_2, .ref (a 55), .ref (a 56), .ref (a 57), .ref (a 58)])), (a 15, .inr (10, [.ref (a 40), .ref (a 123), .ref (a 124)])), (a 40, .inr (0, [.int v40_0, .int v40_1, .int v40_2, .int v40_3, .int v40_4, .int v40_5, .int v40_6, .int v40_7, .ref (a 41), .ref (a 42), .ref (a 43), .ref (a 44), .ref (a 45), .ref (a 46), .ref (a 47), .ref (a 48), .ref (a 49), .ref (a 50), .ref (a 54)])), (a 42, .inl (t 0, 9, .inl f42)), (a 45, .inl (t 0, 9, .inl f45)), (a 47, .inl (t 0, 9, .inl f47)), (a 49, .inl (t 0, 9, .inl f49)), (a 50, .inr (5, [.int v50_0, .ref (a 51), .ref (a 52), .ref (a 53)])), (a 51, .inl (t 0, 8, .inl f51)), (a 52, .inl (t 0, 8, .inl f52)), (a 53, .inl (t 0, 8, .inl f53)), (a 123, .inl (t 0, 8, .inl (u_20.2.1 0))), (a 124, .inl (t 0, 8, .inl (u_20.2.1 1)))] H := hP
      have hD : va_D A [(a 43, .inl (t 0, 9, .inl f43)), (a 54, .inr (9, [.int v54_0, .int v54_1, .int v54_2, .ref (a 55), .ref (a 56), .ref (a 57), .ref (a 58)])), (a 15, .inr (10, [.ref (a 40), .ref (a 123), .ref (a 124)])), (a 40, .inr (0, [.int v40_0, .int v40_1, .int v40_2, .int v40_3, .int v40_4, .int v40_5, .int v40_6, .int v40_7, .ref (a 41), .ref (a 42), .ref (a 43), .ref (a 44), .ref (a 45), .ref (a 46), .ref (a 47), .ref (a 48), .ref (a 49), .ref (a 50), .ref (a 54)])), (a 42, .inl (t 0, 9, .inl f42)), (a 45, .inl (t 0, 9, .inl f45)), (a 47, .inl (t 0, 9, .inl f47)), (a 49, .inl (t 0, 9, .inl f49)), (a 50, .inr (5, [.int v50_0, .ref (a 51), .ref (a 52), .ref (a 53)])), (a 51, .inl (t 0, 8, .inl f51)), (a 52, .inl (t 0, 8, .inl f52)), (a 53, .inl (t 0, 8, .inl f53)), (a 123, .inl (t 0, 8, .inl (u_20.2.1 0))), (a 124, .inl (t 0, 8, .inl (u_20.2.1 1)))] := hD
      refine lv_istore (lv' := [(7, .int r_21), (6, .int (y_5.1 0)), (5, .int (y_5.1 1)), (4, .int (y_5.1 2)), (3, .int r_4), (2, .int x_3), (0, .ref (a 15)), (1, .int p0)]) hx hb dX10_cheapestIn_71 hl (by decide) rfl (fun ls hl => ?_)
      refine lv_iload hx hb dX10_cheapestIn_73 (lv_at hl 3 rfl) ?_
      refine lv_iconst (v := (-1)) hx hb dX10_cheapestIn_75 (by decide) ?_
      refine lv_icmp_eq (tgt := 86) hx hb dX10_cheapestIn_76 (by decide) (fun c_22 => ?_) (fun c_22 => ?_)
      · skip
        have h_23 : rg (-1) (-1) (y_5.1 2) := rg_eq c_22 (rg_c (x := (-1)) (k := (-1)) (by decide))
        refine lv_iload hx hb dX10_cheapestIn_86 (lv_at hl 1 rfl) ?_
        refine lv_istore (lv' := [(4, .int (y_5.1 0)), (7, .int r_21), (6, .int (y_5.1 0)), (5, .int (y_5.1 1)), (3, .int r_4), (2, .int x_3), (0, .ref (a 15)), (1, .int p0)]) hx hb dX10_cheapestIn_88 hl (by decide) rfl (fun ls hl => ?_)
        refine lv_iload hx hb dX10_cheapestIn_90 (lv_at hl 1 rfl) ?_
        refine lv_istore (lv' := [(5, .int r_21), (4, .int (y_5.1 0)), (7, .int r_21), (6, .int (y_5.1 0)), (3, .int r_4), (2, .int x_3), (0, .ref (a 15)), (1, .int p0)]) hx hb dX10_cheapestIn_92 hl (by decide) rfl (fun ls hl => ?_)
        obtain ⟨x_24, ex_24⟩ : ∃ y9 : Int32, y9 = (y_5.1 0) + 1 := ⟨_, rfl⟩
        have hx_24 : rg 1 9 x_24 := by rw [ex_24]; exact rg_add h_11 (rg_c (x := 1) (k := 1) (by decide)) (by decide) (by decide) (by decide) (by decide)
        have tx_24 : x_24.toInt = (y_5.1 0).toInt + 1 := by rw [ex_24]; exact inc_tk h_11 (by decide) (by decide) (by decide)
        refine lv_iinc (v := x_24) (lv' := [(6, .int x_24), (5, .int r_21), (4, .int (y_5.1 0)), (7, .int r_21), (3, .int r_4), (2, .int x_3), (0, .ref (a 15)), (1, .int p0)]) hx hb dX10_cheapestIn_94 hl (k := 3) rfl (by rw [ex_24]; rfl) (by decide) rfl (fun ls hl => ?_)
        refine lv_goto (tgt := 40) hx hb dX10_cheapestIn_97 (by decide) ?_
        exact ih_8 (fun k => [x_24, r_21, (y_5.1 0)].getD k 0, fun k => [(u_20.2.1 0), (u_20.2.1 1)].getD k (fun _ => 0), fun k => [].getD k (fun _ => 0), fun k => [].getD k 0) _ _ ls ⟨(m_upk me_9 tx_24 (by decide)), (rg_w (c := 0) (d := 9) hx_24 (by decide) (by decide)), (rg_w (c := (-1)) (d := 8) h_11 (by decide) (by decide)), (hP.sub [2, 3, 4, 0, 5, 6, 7, 8, 9, 10, 11, 1, 12, 13] rfl), (hD.sub [2, 3, 4, 0, 5, 6, 7, 8, 9, 10, 11, 1, 12, 13] (by decide) rfl), hS, (lv_sub hl [0, 1, 2, 4, 5, 6, 7] rfl)⟩
      · skip
        have h_25 : rg 0 8 (y_5.1 2) := rg_w (rg_neL h_7 c_22 (by decide)) (by decide) (by decide)
        refine lv_iload hx hb dX10_cheapestIn_79 (lv_at hl 0 rfl) ?_
        refine lv_iload hx hb dX10_cheapestIn_81 (lv_at hl 2 rfl) ?_
        refine lv_icmp_ge (tgt := 94) hx hb dX10_cheapestIn_83 (by decide) (fun c_26 => ?_) (fun c_26 => ?_)
        · skip
          obtain ⟨x_27, ex_27⟩ : ∃ y9 : Int32, y9 = (y_5.1 0) + 1 := ⟨_, rfl⟩
          have hx_27 : rg 1 9 x_27 := by rw [ex_27]; exact rg_add h_11 (rg_c (x := 1) (k := 1) (by decide)) (by decide) (by decide) (by decide) (by decide)
          have tx_27 : x_27.toInt = (y_5.1 0).toInt + 1 := by rw [ex_27]; exact inc_tk h_11 (by decide) (by decide) (by decide)
          refine lv_iinc (v := x_27) (lv' := [(6, .int x_27), (7, .int r_21), (5, .int (y_5.1 1)), (4, .int (y_5.1 2)), (3, .int r_4), (2, .int x_3), (0, .ref (a 15)), (1, .int p0)]) hx hb dX10_cheapestIn_94 hl (k := 1) rfl (by rw [ex_27]; rfl) (by decide) rfl (fun ls hl => ?_)
          refine lv_goto (tgt := 40) hx hb dX10_cheapestIn_97 (by decide) ?_
          exact ih_8 (fun k => [x_27, (y_5.1 1), (y_5.1 2)].getD k 0, fun k => [(u_20.2.1 0), (u_20.2.1 1)].getD k (fun _ => 0), fun k => [].getD k (fun _ => 0), fun k => [].getD k 0) _ _ ls ⟨(m_upk me_9 tx_27 (by decide)), (rg_w (c := 0) (d := 9) hx_27 (by decide) (by decide)), (rg_w (c := (-1)) (d := 8) h_25 (by decide) (by decide)), (hP.sub [2, 3, 4, 0, 5, 6, 7, 8, 9, 10, 11, 1, 12, 13] rfl), (hD.sub [2, 3, 4, 0, 5, 6, 7, 8, 9, 10, 11, 1, 12, 13] (by decide) rfl), hS, (lv_sub hl [0, 2, 3, 4, 5, 6, 7] rfl)⟩
        · skip
          have h_28 : rg (-2147483648) 2147483646 r_21 := ⟨((rg_any r_21)).1, Int.le_trans (c_nleR c_26 (rg_any (y_5.1 1))) (by decide)⟩
          have h_29 : rg (-2147483647) 2147483647 (y_5.1 1) := ⟨Int.le_trans (by decide) (c_nle c_26 (rg_any r_21)), ((rg_any (y_5.1 1))).2⟩
          refine lv_iload hx hb dX10_cheapestIn_86 (lv_at hl 1 rfl) ?_
          refine lv_istore (lv' := [(4, .int (y_5.1 0)), (7, .int r_21), (6, .int (y_5.1 0)), (5, .int (y_5.1 1)), (3, .int r_4), (2, .int x_3), (0, .ref (a 15)), (1, .int p0)]) hx hb dX10_cheapestIn_88 hl (by decide) rfl (fun ls hl => ?_)
          refine lv_iload hx hb dX10_cheapestIn_90 (lv_at hl 1 rfl) ?_
          refine lv_istore (lv' := [(5, .int r_21), (4, .int (y_5.1 0)), (7, .int r_21), (6, .int (y_5.1 0)), (3, .int r_4), (2, .int x_3), (0, .ref (a 15)), (1, .int p0)]) hx hb dX10_cheapestIn_92 hl (by decide) rfl (fun ls hl => ?_)
          obtain ⟨x_30, ex_30⟩ : ∃ y9 : Int32, y9 = (y_5.1 0) + 1 := ⟨_, rfl⟩
          have hx_30 : rg 1 9 x_30 := by rw [ex_30]; exact rg_add h_11 (rg_c (x := 1) (k := 1) (by decide)) (by decide) (by decide) (by decide) (by decide)
          have tx_30 : x_30.toInt = (y_5.1 0).toInt + 1 := by rw [ex_30]; exact inc_tk h_11 (by decide) (by decide) (by decide)
          refine lv_iinc (v := x_30) (lv' := [(6, .int x_30), (5, .int r_21), (4, .int (y_5.1 0)), (7, .int r_21), (3, .int r_4), (2, .int x_3), (0, .ref (a 15)), (1, .int p0)]) hx hb dX10_cheapestIn_94 hl (k := 3) rfl (by rw [ex_30]; rfl) (by decide) rfl (fun ls hl => ?_)
          refine lv_goto (tgt := 40) hx hb dX10_cheapestIn_97 (by decide) ?_
          exact ih_8 (fun k => [x_30, r_21, (y_5.1 0)].getD k 0, fun k => [(u_20.2.1 0), (u_20.2.1 1)].getD k (fun _ => 0), fun k => [].getD k (fun _ => 0), fun k => [].getD k 0) _ _ ls ⟨(m_upk me_9 tx_30 (by decide)), (rg_w (c := 0) (d := 9) hx_30 (by decide) (by decide)), (rg_w (c := (-1)) (d := 8) h_11 (by decide) (by decide)), (hP.sub [2, 3, 4, 0, 5, 6, 7, 8, 9, 10, 11, 1, 12, 13] rfl), (hD.sub [2, 3, 4, 0, 5, 6, 7, 8, 9, 10, 11, 1, 12, 13] (by decide) rfl), hS, (lv_sub hl [0, 1, 2, 4, 5, 6, 7] rfl)⟩

set_option maxHeartbeats 4000000 in
set_option maxRecDepth 100000 in
theorem s_X10_says (l : Launch) (D : va_G) (t : Nat → ClassId) (a : Nat → Nat) (v40_0 : Int32) (v40_1 : Int32) (v40_2 : Int32) (v40_3 : Int32) (v40_4 : Int32) (v40_5 : Int32) (v40_6 : Int32) (v40_7 : Int32) (f42 : Nat → Int32) (f45 : Nat → Int32) (v50_0 : Int32) (f51 : Nat → Int32) (f52 : Nat → Int32) (f53 : Nat → Int32) (f123 : Nat → Int32) (f124 : Nat → Int32) (p0 : Int32) (p1 : Int32) (r40_1 : rg 0 8 v40_1) (r40_5 : rg 0 4 v40_5) (r40_6 : rg 0 9 v40_6) (r40_7 : rg 0 9 v40_7) (r50_0 : rg 0 8 v50_0) (q51 : ∀ j, j < 8 → rg 0 7 (f51 j)) (q52 : ∀ j, j < 8 → rg 0 7 (f52 j)) (q53 : ∀ j, j < 8 → rg 0 7 (f53 j)) (sz : Nat) : Met l yX10_says (wd yX10_says cX10_says 3 (some .boolean)) (RM 3 0 0) (PreW D (TY t) [.ref (a 15), .int p0, .int p1] [(a 15, .inr (10, [.ref (a 40), .ref (a 123), .ref (a 124)])), (a 40, .inr (0, [.int v40_0, .int v40_1, .int v40_2, .int v40_3, .int v40_4, .int v40_5, .int v40_6, .int v40_7, .ref (a 41), .ref (a 42), .ref (a 43), .ref (a 44), .ref (a 45), .ref (a 46), .ref (a 47), .ref (a 48), .ref (a 49), .ref (a 50), .ref (a 54)])), (a 42, .inl (t 0, 9, .inl f42)), (a 45, .inl (t 0, 9, .inl f45)), (a 50, .inr (5, [.int v50_0, .ref (a 51), .ref (a 52), .ref (a 53)])), (a 51, .inl (t 0, 8, .inl f51)), (a 52, .inl (t 0, 8, .inl f52)), (a 53, .inl (t 0, 8, .inl f53)), (a 123, .inl (t 0, 8, .inl f123)), (a 124, .inl (t 0, 8, .inl f124))] sz) (va_Qi (fun (r : Int32) (_ : US) => rg 0 1 r) (fun (u : US) t9 => va_P D classes ((fun u : US => [(a 15, .inr (10, [.ref (a 40), .ref (a 123), .ref (a 124)])), (a 40, .inr (0, [.int v40_0, .int v40_1, .int v40_2, .int v40_3, .int v40_4, .int v40_5, .int v40_6, .int v40_7, .ref (a 41), .ref (a 42), .ref (a 43), .ref (a 44), .ref (a 45), .ref (a 46), .ref (a 47), .ref (a 48), .ref (a 49), .ref (a 50), .ref (a 54)])), (a 42, .inl (t 0, 9, .inl f42)), (a 45, .inl (t 0, 9, .inl f45)), (a 50, .inr (5, [.int v50_0, .ref (a 51), .ref (a 52), .ref (a 53)])), (a 51, .inl (t 0, 8, .inl f51)), (a 52, .inl (t 0, 8, .inl f52)), (a 53, .inl (t 0, 8, .inl f53)), (a 123, .inl (t 0, 8, .inl (u.2.1 0))), (a 124, .inl (t 0, 8, .inl (u.2.1 1)))]) u) t9.heap ∧ va_D (va_A [(a 15, .inr (10, [.ref (a 40), .ref (a 123), .ref (a 124)])), (a 40, .inr (0, [.int v40_0, .int v40_1, .int v40_2, .int v40_3, .int v40_4, .int v40_5, .int v40_6, .int v40_7, .ref (a 41), .ref (a 42), .ref (a 43), .ref (a 44), .ref (a 45), .ref (a 46), .ref (a 47), .ref (a 48), .ref (a 49), .ref (a 50), .ref (a 54)])), (a 42, .inl (t 0, 9, .inl f42)), (a 45, .inl (t 0, 9, .inl f45)), (a 50, .inr (5, [.int v50_0, .ref (a 51), .ref (a 52), .ref (a 53)])), (a 51, .inl (t 0, 8, .inl f51)), (a 52, .inl (t 0, 8, .inl f52)), (a 53, .inl (t 0, 8, .inl f53)), (a 123, .inl (t 0, 8, .inl f123)), (a 124, .inl (t 0, 8, .inl f124))] sz) ((fun u : US => [(a 15, .inr (10, [.ref (a 40), .ref (a 123), .ref (a 124)])), (a 40, .inr (0, [.int v40_0, .int v40_1, .int v40_2, .int v40_3, .int v40_4, .int v40_5, .int v40_6, .int v40_7, .ref (a 41), .ref (a 42), .ref (a 43), .ref (a 44), .ref (a 45), .ref (a 46), .ref (a 47), .ref (a 48), .ref (a 49), .ref (a 50), .ref (a 54)])), (a 42, .inl (t 0, 9, .inl f42)), (a 45, .inl (t 0, 9, .inl f45)), (a 50, .inr (5, [.int v50_0, .ref (a 51), .ref (a 52), .ref (a 53)])), (a 51, .inl (t 0, 8, .inl f51)), (a 52, .inl (t 0, 8, .inl f52)), (a 53, .inl (t 0, 8, .inl f53)), (a 123, .inl (t 0, 8, .inl (u.2.1 0))), (a 124, .inl (t 0, 8, .inl (u.2.1 1)))]) u)) (va_A [(a 15, .inr (10, [.ref (a 40), .ref (a 123), .ref (a 124)])), (a 40, .inr (0, [.int v40_0, .int v40_1, .int v40_2, .int v40_3, .int v40_4, .int v40_5, .int v40_6, .int v40_7, .ref (a 41), .ref (a 42), .ref (a 43), .ref (a 44), .ref (a 45), .ref (a 46), .ref (a 47), .ref (a 48), .ref (a 49), .ref (a 50), .ref (a 54)])), (a 42, .inl (t 0, 9, .inl f42)), (a 45, .inl (t 0, 9, .inl f45)), (a 50, .inr (5, [.int v50_0, .ref (a 51), .ref (a 52), .ref (a 53)])), (a 51, .inl (t 0, 8, .inl f51)), (a 52, .inl (t 0, 8, .inl f52)), (a 53, .inl (t 0, 8, .inl f53)), (a 123, .inl (t 0, 8, .inl f123)), (a 124, .inl (t 0, 8, .inl f124))] sz)) 0 0 (va_A [(a 15, .inr (10, [.ref (a 40), .ref (a 123), .ref (a 124)])), (a 40, .inr (0, [.int v40_0, .int v40_1, .int v40_2, .int v40_3, .int v40_4, .int v40_5, .int v40_6, .int v40_7, .ref (a 41), .ref (a 42), .ref (a 43), .ref (a 44), .ref (a 45), .ref (a 46), .ref (a 47), .ref (a 48), .ref (a 49), .ref (a 50), .ref (a 54)])), (a 42, .inl (t 0, 9, .inl f42)), (a 45, .inl (t 0, 9, .inl f45)), (a 50, .inr (5, [.int v50_0, .ref (a 51), .ref (a 52), .ref (a 53)])), (a 51, .inl (t 0, 8, .inl f51)), (a 52, .inl (t 0, 8, .inl f52)), (a 53, .inl (t 0, 8, .inl f53)), (a 123, .inl (t 0, 8, .inl f123)), (a 124, .inl (t 0, 8, .inl f124))] sz) := by
  refine Met.ofW (cc := cX10_says) (maxL := 3) (ret := (some .boolean)) (by decide) rfl ?_
  intro p e s m args below meth c s₁ B hml hv
  obtain ⟨rfl, hsz, hP, hK, hD0, hN⟩ := hv
  have hx := B.exec
  have hb := B.bytes
  have hr := B.returns
  have hts : ∀ w ∈ TB, w.before _ s = true := fun w h => atoms_spec (ws := wd yX10_says cX10_says 3 (some .boolean)) B.pre w (List.mem_cons_of_mem _ h)
  have hown : s.vm.findClass RX10 = some m.cls := findClass_of_methodNamed B.named
  have hlocks := B.notSynchronized
  have hF : CallFix p m c cX10_says 3 s _ TB RX10 := ⟨hx, hb, hml, hown, hts⟩
  have hl := lv_entry ([.ref (a 15), .int p0, .int p1]) (n := 3) (Nat.le_of_ble_eq_true rfl)
  rw [lg_entry_eq]
  generalize (lg_sl ([.ref (a 15), .int p0, .int p1]) ++ List.replicate (3 - (lg_sl ([.ref (a 15), .int p0, .int p1])).length) Slot.unset).toArray = ls at hl ⊢
  have hl : lv_has ls 3 [(0, .ref (a 15)), (1, .int p0), (2, .int p1)] := hl
  subst hsz
  have hD := hD0.self (sz := s.heap.size)
  generalize hAe : va_A [(a 15, .inr (10, [.ref (a 40), .ref (a 123), .ref (a 124)])), (a 40, .inr (0, [.int v40_0, .int v40_1, .int v40_2, .int v40_3, .int v40_4, .int v40_5, .int v40_6, .int v40_7, .ref (a 41), .ref (a 42), .ref (a 43), .ref (a 44), .ref (a 45), .ref (a 46), .ref (a 47), .ref (a 48), .ref (a 49), .ref (a 50), .ref (a 54)])), (a 42, .inl (t 0, 9, .inl f42)), (a 45, .inl (t 0, 9, .inl f45)), (a 50, .inr (5, [.int v50_0, .ref (a 51), .ref (a 52), .ref (a 53)])), (a 51, .inl (t 0, 8, .inl f51)), (a 52, .inl (t 0, 8, .inl f52)), (a 53, .inl (t 0, 8, .inl f53)), (a 123, .inl (t 0, 8, .inl f123)), (a 124, .inl (t 0, 8, .inl f124))] s.heap.size = A at hD ⊢
  have hA : ∀ q : Nat, s.heap.size ≤ q → A q := fun q h => by rw [← hAe]; exact Or.inr h
  have hS : va_S A s.heap s.heap [] := va_S.rf
  have hP : va_P D classes [(a 15, .inr (10, [.ref (a 40), .ref (a 123), .ref (a 124)])), (a 40, .inr (0, [.int v40_0, .int v40_1, .int v40_2, .int v40_3, .int v40_4, .int v40_5, .int v40_6, .int v40_7, .ref (a 41), .ref (a 42), .ref (a 43), .ref (a 44), .ref (a 45), .ref (a 46), .ref (a 47), .ref (a 48), .ref (a 49), .ref (a 50), .ref (a 54)])), (a 42, .inl (t 0, 9, .inl f42)), (a 45, .inl (t 0, 9, .inl f45)), (a 50, .inr (5, [.int v50_0, .ref (a 51), .ref (a 52), .ref (a 53)])), (a 51, .inl (t 0, 8, .inl f51)), (a 52, .inl (t 0, 8, .inl f52)), (a 53, .inl (t 0, 8, .inl f53)), (a 123, .inl (t 0, 8, .inl f123)), (a 124, .inl (t 0, 8, .inl f124))] s.heap := hP
  refine lv_aload_n hx hb dX10_says_0 rfl (lv_at hl 0 rfl) ?_
  refine lv_iload_n hx hb dX10_says_1 rfl (lv_at hl 1 rfl) ?_
  refine y_wV (wr := []) hF (s_X10_learn l D t a v40_0 v40_1 v40_2 v40_3 v40_4 v40_5 v40_6 v40_7 f42 f45 v50_0 f51 f52 f53 f123 f124 p0 r40_1 r40_5 r40_6 r40_7 r50_0 q51 q52 q53 s.heap.size) m_1037 m_973 m_974 m_8 m_975 hd_X10_learn ⟨Nat.le_of_ble_eq_true rfl, Nat.le_of_ble_eq_true rfl⟩ hK hN hP hD hS hA 0 (ci := 10) rfl rfl rfl [0, 1, 2, 3, 4, 5, 6, 7, 8, 9] [] rfl rfl (by decide) (by decide) (by decide) hl.1 rfl (Nat.le_of_ble_eq_true rfl) dX10_says_2 ⟨Nat.zero_le _, Nat.zero_le _⟩ (fun u_1 H locs hu_1 hP hD hS => ?_)
  have hP : va_P D classes [(a 15, .inr (10, [.ref (a 40), .ref (a 123), .ref (a 124)])), (a 40, .inr (0, [.int v40_0, .int v40_1, .int v40_2, .int v40_3, .int v40_4, .int v40_5, .int v40_6, .int v40_7, .ref (a 41), .ref (a 42), .ref (a 43), .ref (a 44), .ref (a 45), .ref (a 46), .ref (a 47), .ref (a 48), .ref (a 49), .ref (a 50), .ref (a 54)])), (a 42, .inl (t 0, 9, .inl f42)), (a 45, .inl (t 0, 9, .inl f45)), (a 50, .inr (5, [.int v50_0, .ref (a 51), .ref (a 52), .ref (a 53)])), (a 51, .inl (t 0, 8, .inl f51)), (a 52, .inl (t 0, 8, .inl f52)), (a 53, .inl (t 0, 8, .inl f53)), (a 123, .inl (t 0, 8, .inl (u_1.2.1 0))), (a 124, .inl (t 0, 8, .inl (u_1.2.1 1)))] H := hP
  have hD : va_D A [(a 15, .inr (10, [.ref (a 40), .ref (a 123), .ref (a 124)])), (a 40, .inr (0, [.int v40_0, .int v40_1, .int v40_2, .int v40_3, .int v40_4, .int v40_5, .int v40_6, .int v40_7, .ref (a 41), .ref (a 42), .ref (a 43), .ref (a 44), .ref (a 45), .ref (a 46), .ref (a 47), .ref (a 48), .ref (a 49), .ref (a 50), .ref (a 54)])), (a 42, .inl (t 0, 9, .inl f42)), (a 45, .inl (t 0, 9, .inl f45)), (a 50, .inr (5, [.int v50_0, .ref (a 51), .ref (a 52), .ref (a 53)])), (a 51, .inl (t 0, 8, .inl f51)), (a 52, .inl (t 0, 8, .inl f52)), (a 53, .inl (t 0, 8, .inl f53)), (a 123, .inl (t 0, 8, .inl (u_1.2.1 0))), (a 124, .inl (t 0, 8, .inl (u_1.2.1 1)))] := hD
  refine lv_aload_n hx hb dX10_says_5 rfl (lv_at hl 0 rfl) ?_
  refine y_pV hF (s_X10_unsayable l D t a v40_0 v40_1 v40_2 v40_3 v40_4 v40_5 v40_6 v40_7 (u_1.2.1 1) r40_1 r40_5 r40_6 r40_7) m_1069 m_1018 m_1019 m_8 m_1020 hd_X10_unsayable ⟨Nat.le_of_ble_eq_true rfl, Nat.le_of_ble_eq_true rfl⟩ hK hN hP hS [0, 1, 9] rfl 0 (ci := 10) rfl rfl rfl hl.1 rfl (Nat.le_of_ble_eq_true rfl) dX10_says_6 ⟨Nat.zero_le _, Nat.zero_le _⟩ (fun r_3 H locs hr_3 hP hS => ?_)
  refine lv_iload_n hx hb dX10_says_9 rfl (lv_at hl 2 rfl) ?_
  refine lv_iand hx hb dX10_says_10 ?_
  refine lv_topi (fun x_4 ex_4 => ?_)
  have hx_4 : rg 0 255 x_4 := by rw [ex_4]; exact rg_andL hr_3
  refine lv_if_ne (tgt := 18) hx hb dX10_says_11 (by decide) (fun c_5 => ?_) (fun c_5 => ?_)
  · skip
    have h_6 : rg 1 255 x_4 := rg_w (rg_neL hx_4 c_5 (by decide)) (by decide) (by decide)
    refine lv_iconst (v := 0) hx hb dX10_says_18 (by decide) ?_
    have hP9 := hP.sub (ws' := [(a 15, .inr (10, [.ref (a 40), .ref (a 123), .ref (a 124)])), (a 40, .inr (0, [.int v40_0, .int v40_1, .int v40_2, .int v40_3, .int v40_4, .int v40_5, .int v40_6, .int v40_7, .ref (a 41), .ref (a 42), .ref (a 43), .ref (a 44), .ref (a 45), .ref (a 46), .ref (a 47), .ref (a 48), .ref (a 49), .ref (a 50), .ref (a 54)])), (a 42, .inl (t 0, 9, .inl f42)), (a 45, .inl (t 0, 9, .inl f45)), (a 50, .inr (5, [.int v50_0, .ref (a 51), .ref (a 52), .ref (a 53)])), (a 51, .inl (t 0, 8, .inl f51)), (a 52, .inl (t 0, 8, .inl f52)), (a 53, .inl (t 0, 8, .inl f53)), (a 123, .inl (t 0, 8, .inl (u_1.2.1 0))), (a 124, .inl (t 0, 8, .inl (u_1.2.1 1)))]) [0, 1, 2, 3, 4, 5, 6, 7, 8, 9] rfl
    have hD9 := hD.sub (ws' := [(a 15, .inr (10, [.ref (a 40), .ref (a 123), .ref (a 124)])), (a 40, .inr (0, [.int v40_0, .int v40_1, .int v40_2, .int v40_3, .int v40_4, .int v40_5, .int v40_6, .int v40_7, .ref (a 41), .ref (a 42), .ref (a 43), .ref (a 44), .ref (a 45), .ref (a 46), .ref (a 47), .ref (a 48), .ref (a 49), .ref (a 50), .ref (a 54)])), (a 42, .inl (t 0, 9, .inl f42)), (a 45, .inl (t 0, 9, .inl f45)), (a 50, .inr (5, [.int v50_0, .ref (a 51), .ref (a 52), .ref (a 53)])), (a 51, .inl (t 0, 8, .inl f51)), (a 52, .inl (t 0, 8, .inl f52)), (a 53, .inl (t 0, 8, .inl f53)), (a 123, .inl (t 0, 8, .inl (u_1.2.1 0))), (a 124, .inl (t 0, 8, .inl (u_1.2.1 1)))]) [0, 1, 2, 3, 4, 5, 6, 7, 8, 9] (by decide) rfl
    exact W.zret (v := 0) hx hb hr rfl (fun t9 ht hW => ⟨⟨0, (fun k => [].getD k 0, fun k => [(u_1.2.1 0), (u_1.2.1 1)].getD k (fun _ => 0), fun k => [].getD k (fun _ => 0), fun _ => 0), rfl, (rg_w (c := 0) (d := 1) (rg_c (x := 0) (k := 0) (by decide)) (by decide) (by decide)), by rw [ht]; exact hP9, hD9⟩, hS.F ht⟩) hS.2.2 dX10_says_19
  · skip
    have h_7 : rg 0 0 x_4 := rg_eq c_5 (rg_c (x := 0) (k := 0) (by decide))
    refine lv_iconst (v := 1) hx hb dX10_says_14 (by decide) ?_
    refine lv_goto (tgt := 19) hx hb dX10_says_15 (by decide) ?_
    have hP9 := hP.sub (ws' := [(a 15, .inr (10, [.ref (a 40), .ref (a 123), .ref (a 124)])), (a 40, .inr (0, [.int v40_0, .int v40_1, .int v40_2, .int v40_3, .int v40_4, .int v40_5, .int v40_6, .int v40_7, .ref (a 41), .ref (a 42), .ref (a 43), .ref (a 44), .ref (a 45), .ref (a 46), .ref (a 47), .ref (a 48), .ref (a 49), .ref (a 50), .ref (a 54)])), (a 42, .inl (t 0, 9, .inl f42)), (a 45, .inl (t 0, 9, .inl f45)), (a 50, .inr (5, [.int v50_0, .ref (a 51), .ref (a 52), .ref (a 53)])), (a 51, .inl (t 0, 8, .inl f51)), (a 52, .inl (t 0, 8, .inl f52)), (a 53, .inl (t 0, 8, .inl f53)), (a 123, .inl (t 0, 8, .inl (u_1.2.1 0))), (a 124, .inl (t 0, 8, .inl (u_1.2.1 1)))]) [0, 1, 2, 3, 4, 5, 6, 7, 8, 9] rfl
    have hD9 := hD.sub (ws' := [(a 15, .inr (10, [.ref (a 40), .ref (a 123), .ref (a 124)])), (a 40, .inr (0, [.int v40_0, .int v40_1, .int v40_2, .int v40_3, .int v40_4, .int v40_5, .int v40_6, .int v40_7, .ref (a 41), .ref (a 42), .ref (a 43), .ref (a 44), .ref (a 45), .ref (a 46), .ref (a 47), .ref (a 48), .ref (a 49), .ref (a 50), .ref (a 54)])), (a 42, .inl (t 0, 9, .inl f42)), (a 45, .inl (t 0, 9, .inl f45)), (a 50, .inr (5, [.int v50_0, .ref (a 51), .ref (a 52), .ref (a 53)])), (a 51, .inl (t 0, 8, .inl f51)), (a 52, .inl (t 0, 8, .inl f52)), (a 53, .inl (t 0, 8, .inl f53)), (a 123, .inl (t 0, 8, .inl (u_1.2.1 0))), (a 124, .inl (t 0, 8, .inl (u_1.2.1 1)))]) [0, 1, 2, 3, 4, 5, 6, 7, 8, 9] (by decide) rfl
    exact W.zret (v := 1) hx hb hr rfl (fun t9 ht hW => ⟨⟨1, (fun k => [].getD k 0, fun k => [(u_1.2.1 0), (u_1.2.1 1)].getD k (fun _ => 0), fun k => [].getD k (fun _ => 0), fun _ => 0), rfl, (rg_w (c := 0) (d := 1) (rg_c (x := 1) (k := 1) (by decide)) (by decide) (by decide)), by rw [ht]; exact hP9, hD9⟩, hS.F ht⟩) hS.2.2 dX10_says_19

set_option maxHeartbeats 4000000 in
set_option maxRecDepth 100000 in
theorem s_X10_fewestFor (l : Launch) (D : va_G) (t : Nat → ClassId) (a : Nat → Nat) (v40_0 : Int32) (v40_1 : Int32) (v40_2 : Int32) (v40_3 : Int32) (v40_4 : Int32) (v40_5 : Int32) (v40_6 : Int32) (v40_7 : Int32) (f42 : Nat → Int32) (f45 : Nat → Int32) (v50_0 : Int32) (f51 : Nat → Int32) (f52 : Nat → Int32) (f53 : Nat → Int32) (v54_0 : Int32) (v54_1 : Int32) (v54_2 : Int32) (f123 : Nat → Int32) (f124 : Nat → Int32) (p0 : Int32) (r40_1 : rg 0 8 v40_1) (r40_5 : rg 0 4 v40_5) (r40_6 : rg 0 9 v40_6) (r40_7 : rg 0 9 v40_7) (r50_0 : rg 0 8 v50_0) (q51 : ∀ j, j < 8 → rg 0 7 (f51 j)) (q52 : ∀ j, j < 8 → rg 0 7 (f52 j)) (q53 : ∀ j, j < 8 → rg 0 7 (f53 j)) (r54_0 : rg 0 60 v54_0) (sz : Nat) : Met l yX10_fewestFor (wd yX10_fewestFor cX10_fewestFor 6 (some .int)) (RM 4 0 0) (PreW D (TY t) [.ref (a 15), .int p0] [(a 15, .inr (10, [.ref (a 40), .ref (a 123), .ref (a 124)])), (a 40, .inr (0, [.int v40_0, .int v40_1, .int v40_2, .int v40_3, .int v40_4, .int v40_5, .int v40_6, .int v40_7, .ref (a 41), .ref (a 42), .ref (a 43), .ref (a 44), .ref (a 45), .ref (a 46), .ref (a 47), .ref (a 48), .ref (a 49), .ref (a 50), .ref (a 54)])), (a 42, .inl (t 0, 9, .inl f42)), (a 45, .inl (t 0, 9, .inl f45)), (a 50, .inr (5, [.int v50_0, .ref (a 51), .ref (a 52), .ref (a 53)])), (a 51, .inl (t 0, 8, .inl f51)), (a 52, .inl (t 0, 8, .inl f52)), (a 53, .inl (t 0, 8, .inl f53)), (a 54, .inr (9, [.int v54_0, .int v54_1, .int v54_2, .ref (a 55), .ref (a 56), .ref (a 57), .ref (a 58)])), (a 123, .inl (t 0, 8, .inl f123)), (a 124, .inl (t 0, 8, .inl f124))] sz) (va_Qi (fun (r : Int32) (_ : US) => rg (-1) 511 r) (fun (u : US) t9 => va_P D classes ((fun u : US => [(a 15, .inr (10, [.ref (a 40), .ref (a 123), .ref (a 124)])), (a 40, .inr (0, [.int v40_0, .int v40_1, .int v40_2, .int v40_3, .int v40_4, .int v40_5, .int v40_6, .int v40_7, .ref (a 41), .ref (a 42), .ref (a 43), .ref (a 44), .ref (a 45), .ref (a 46), .ref (a 47), .ref (a 48), .ref (a 49), .ref (a 50), .ref (a 54)])), (a 42, .inl (t 0, 9, .inl f42)), (a 45, .inl (t 0, 9, .inl f45)), (a 50, .inr (5, [.int v50_0, .ref (a 51), .ref (a 52), .ref (a 53)])), (a 51, .inl (t 0, 8, .inl f51)), (a 52, .inl (t 0, 8, .inl f52)), (a 53, .inl (t 0, 8, .inl f53)), (a 54, .inr (9, [.int v54_0, .int v54_1, .int v54_2, .ref (a 55), .ref (a 56), .ref (a 57), .ref (a 58)])), (a 123, .inl (t 0, 8, .inl (u.2.1 0))), (a 124, .inl (t 0, 8, .inl (u.2.1 1)))]) u) t9.heap ∧ va_D (va_A [(a 15, .inr (10, [.ref (a 40), .ref (a 123), .ref (a 124)])), (a 40, .inr (0, [.int v40_0, .int v40_1, .int v40_2, .int v40_3, .int v40_4, .int v40_5, .int v40_6, .int v40_7, .ref (a 41), .ref (a 42), .ref (a 43), .ref (a 44), .ref (a 45), .ref (a 46), .ref (a 47), .ref (a 48), .ref (a 49), .ref (a 50), .ref (a 54)])), (a 42, .inl (t 0, 9, .inl f42)), (a 45, .inl (t 0, 9, .inl f45)), (a 50, .inr (5, [.int v50_0, .ref (a 51), .ref (a 52), .ref (a 53)])), (a 51, .inl (t 0, 8, .inl f51)), (a 52, .inl (t 0, 8, .inl f52)), (a 53, .inl (t 0, 8, .inl f53)), (a 54, .inr (9, [.int v54_0, .int v54_1, .int v54_2, .ref (a 55), .ref (a 56), .ref (a 57), .ref (a 58)])), (a 123, .inl (t 0, 8, .inl f123)), (a 124, .inl (t 0, 8, .inl f124))] sz) ((fun u : US => [(a 15, .inr (10, [.ref (a 40), .ref (a 123), .ref (a 124)])), (a 40, .inr (0, [.int v40_0, .int v40_1, .int v40_2, .int v40_3, .int v40_4, .int v40_5, .int v40_6, .int v40_7, .ref (a 41), .ref (a 42), .ref (a 43), .ref (a 44), .ref (a 45), .ref (a 46), .ref (a 47), .ref (a 48), .ref (a 49), .ref (a 50), .ref (a 54)])), (a 42, .inl (t 0, 9, .inl f42)), (a 45, .inl (t 0, 9, .inl f45)), (a 50, .inr (5, [.int v50_0, .ref (a 51), .ref (a 52), .ref (a 53)])), (a 51, .inl (t 0, 8, .inl f51)), (a 52, .inl (t 0, 8, .inl f52)), (a 53, .inl (t 0, 8, .inl f53)), (a 54, .inr (9, [.int v54_0, .int v54_1, .int v54_2, .ref (a 55), .ref (a 56), .ref (a 57), .ref (a 58)])), (a 123, .inl (t 0, 8, .inl (u.2.1 0))), (a 124, .inl (t 0, 8, .inl (u.2.1 1)))]) u)) (va_A [(a 15, .inr (10, [.ref (a 40), .ref (a 123), .ref (a 124)])), (a 40, .inr (0, [.int v40_0, .int v40_1, .int v40_2, .int v40_3, .int v40_4, .int v40_5, .int v40_6, .int v40_7, .ref (a 41), .ref (a 42), .ref (a 43), .ref (a 44), .ref (a 45), .ref (a 46), .ref (a 47), .ref (a 48), .ref (a 49), .ref (a 50), .ref (a 54)])), (a 42, .inl (t 0, 9, .inl f42)), (a 45, .inl (t 0, 9, .inl f45)), (a 50, .inr (5, [.int v50_0, .ref (a 51), .ref (a 52), .ref (a 53)])), (a 51, .inl (t 0, 8, .inl f51)), (a 52, .inl (t 0, 8, .inl f52)), (a 53, .inl (t 0, 8, .inl f53)), (a 54, .inr (9, [.int v54_0, .int v54_1, .int v54_2, .ref (a 55), .ref (a 56), .ref (a 57), .ref (a 58)])), (a 123, .inl (t 0, 8, .inl f123)), (a 124, .inl (t 0, 8, .inl f124))] sz)) 0 0 (va_A [(a 15, .inr (10, [.ref (a 40), .ref (a 123), .ref (a 124)])), (a 40, .inr (0, [.int v40_0, .int v40_1, .int v40_2, .int v40_3, .int v40_4, .int v40_5, .int v40_6, .int v40_7, .ref (a 41), .ref (a 42), .ref (a 43), .ref (a 44), .ref (a 45), .ref (a 46), .ref (a 47), .ref (a 48), .ref (a 49), .ref (a 50), .ref (a 54)])), (a 42, .inl (t 0, 9, .inl f42)), (a 45, .inl (t 0, 9, .inl f45)), (a 50, .inr (5, [.int v50_0, .ref (a 51), .ref (a 52), .ref (a 53)])), (a 51, .inl (t 0, 8, .inl f51)), (a 52, .inl (t 0, 8, .inl f52)), (a 53, .inl (t 0, 8, .inl f53)), (a 54, .inr (9, [.int v54_0, .int v54_1, .int v54_2, .ref (a 55), .ref (a 56), .ref (a 57), .ref (a 58)])), (a 123, .inl (t 0, 8, .inl f123)), (a 124, .inl (t 0, 8, .inl f124))] sz) := by
  refine Met.ofW (cc := cX10_fewestFor) (maxL := 6) (ret := (some .int)) (by decide) rfl ?_
  intro p e s m args below meth c s₁ B hml hv
  obtain ⟨rfl, hsz, hP, hK, hD0, hN⟩ := hv
  have hx := B.exec
  have hb := B.bytes
  have hr := B.returns
  have hts : ∀ w ∈ TB, w.before _ s = true := fun w h => atoms_spec (ws := wd yX10_fewestFor cX10_fewestFor 6 (some .int)) B.pre w (List.mem_cons_of_mem _ h)
  have hown : s.vm.findClass RX10 = some m.cls := findClass_of_methodNamed B.named
  have hlocks := B.notSynchronized
  have hF : CallFix p m c cX10_fewestFor 6 s _ TB RX10 := ⟨hx, hb, hml, hown, hts⟩
  have hl := lv_entry ([.ref (a 15), .int p0]) (n := 6) (Nat.le_of_ble_eq_true rfl)
  rw [lg_entry_eq]
  generalize (lg_sl ([.ref (a 15), .int p0]) ++ List.replicate (6 - (lg_sl ([.ref (a 15), .int p0])).length) Slot.unset).toArray = ls at hl ⊢
  have hl : lv_has ls 6 [(0, .ref (a 15)), (1, .int p0)] := hl
  subst hsz
  have hD := hD0.self (sz := s.heap.size)
  generalize hAe : va_A [(a 15, .inr (10, [.ref (a 40), .ref (a 123), .ref (a 124)])), (a 40, .inr (0, [.int v40_0, .int v40_1, .int v40_2, .int v40_3, .int v40_4, .int v40_5, .int v40_6, .int v40_7, .ref (a 41), .ref (a 42), .ref (a 43), .ref (a 44), .ref (a 45), .ref (a 46), .ref (a 47), .ref (a 48), .ref (a 49), .ref (a 50), .ref (a 54)])), (a 42, .inl (t 0, 9, .inl f42)), (a 45, .inl (t 0, 9, .inl f45)), (a 50, .inr (5, [.int v50_0, .ref (a 51), .ref (a 52), .ref (a 53)])), (a 51, .inl (t 0, 8, .inl f51)), (a 52, .inl (t 0, 8, .inl f52)), (a 53, .inl (t 0, 8, .inl f53)), (a 54, .inr (9, [.int v54_0, .int v54_1, .int v54_2, .ref (a 55), .ref (a 56), .ref (a 57), .ref (a 58)])), (a 123, .inl (t 0, 8, .inl f123)), (a 124, .inl (t 0, 8, .inl f124))] s.heap.size = A at hD ⊢
  have hA : ∀ q : Nat, s.heap.size ≤ q → A q := fun q h => by rw [← hAe]; exact Or.inr h
  have hS : va_S A s.heap s.heap [] := va_S.rf
  have hP : va_P D classes [(a 15, .inr (10, [.ref (a 40), .ref (a 123), .ref (a 124)])), (a 40, .inr (0, [.int v40_0, .int v40_1, .int v40_2, .int v40_3, .int v40_4, .int v40_5, .int v40_6, .int v40_7, .ref (a 41), .ref (a 42), .ref (a 43), .ref (a 44), .ref (a 45), .ref (a 46), .ref (a 47), .ref (a 48), .ref (a 49), .ref (a 50), .ref (a 54)])), (a 42, .inl (t 0, 9, .inl f42)), (a 45, .inl (t 0, 9, .inl f45)), (a 50, .inr (5, [.int v50_0, .ref (a 51), .ref (a 52), .ref (a 53)])), (a 51, .inl (t 0, 8, .inl f51)), (a 52, .inl (t 0, 8, .inl f52)), (a 53, .inl (t 0, 8, .inl f53)), (a 54, .inr (9, [.int v54_0, .int v54_1, .int v54_2, .ref (a 55), .ref (a 56), .ref (a 57), .ref (a 58)])), (a 123, .inl (t 0, 8, .inl f123)), (a 124, .inl (t 0, 8, .inl f124))] s.heap := hP
  refine lv_iconst (v := 1) hx hb dX10_fewestFor_0 (by decide) ?_
  refine lv_aload_n hx hb dX10_fewestFor_1 rfl (lv_at hl 0 rfl) ?_
  refine va_get (D := D) (ci := 10) (v := .ref (a 40)) (C := RX10) (T := TX10) (N := 3) hx hb hts iX10 hown hK hP 0 rfl rfl 0 (by decide) (hts _ m_331) (fun _ h9 => h9) rfl dX10_fewestFor_2 ?_
  refine va_getN (D := D) (ci := 0) (v := .int v40_6) (C := RX0) (T := TX0) (N := 19) (host := "WordSeats") hx hb hts iX0 hown hK hP 1 rfl rfl 6 (by decide) (va_Nw.use rfl (hN _ n_141)) (fun _ h9 => h9) rfl dX10_fewestFor_5 ?_
  refine lv_ishl hx hb dX10_fewestFor_8 ?_
  refine lv_topi (fun x_1 ex_1 => ?_)
  have hx_1 : rg 1 512 x_1 := by rw [ex_1]; exact rg_shl1 (b := 9) r40_6 (by decide) (by decide)
  refine lv_iconst (v := 1) hx hb dX10_fewestFor_9 (by decide) ?_
  refine lv_isub hx hb dX10_fewestFor_10 ?_
  refine lv_topi (fun x_2 ex_2 => ?_)
  have hx_2 : rg 0 511 x_2 := by rw [ex_2]; exact rg_sub hx_1 (rg_c (x := 1) (k := 1) (by decide)) (by decide) (by decide) (by decide) (by decide)
  refine lv_aload_n hx hb dX10_fewestFor_11 rfl (lv_at hl 0 rfl) ?_
  refine va_get (D := D) (ci := 10) (v := .ref (a 40)) (C := RX10) (T := TX10) (N := 3) hx hb hts iX10 hown hK hP 0 rfl rfl 0 (by decide) (hts _ m_331) (fun _ h9 => h9) rfl dX10_fewestFor_12 ?_
  refine va_getN (D := D) (ci := 0) (v := .ref (a 54)) (C := RX0) (T := TX0) (N := 19) (host := "WordSeats") hx hb hts iX0 hown hK hP 1 rfl rfl 18 (by decide) (va_Nw.use rfl (hN _ n_192)) (fun _ h9 => h9) rfl dX10_fewestFor_15 ?_
  refine va_getN (D := D) (ci := 9) (v := .int v54_2) (C := RX9) (T := TX9) (N := 7) (host := "WordSeats") hx hb hts iX9 hown hK hP 8 rfl rfl 2 (by decide) (va_Nw.use rfl (hN _ n_93)) (fun _ h9 => h9) rfl dX10_fewestFor_18 ?_
  refine lv_iconst (v := (-1)) hx hb dX10_fewestFor_21 (by decide) ?_
  refine lv_ixor hx hb dX10_fewestFor_22 ?_
  refine lv_topi (fun x_3 ex_3 => ?_)
  refine lv_iand hx hb dX10_fewestFor_23 ?_
  refine lv_topi (fun x_4 ex_4 => ?_)
  have hx_4 : rg 0 511 x_4 := by rw [ex_4]; exact rg_andL hx_2
  refine lv_istore_n (lv' := [(2, .int x_4), (0, .ref (a 15)), (1, .int p0)]) hx hb dX10_fewestFor_24 rfl hl (by decide) rfl (fun ls hl => ?_)
  refine lv_aload_n hx hb dX10_fewestFor_25 rfl (lv_at hl 1 rfl) ?_
  refine lv_iload_n hx hb dX10_fewestFor_26 rfl (lv_at hl 0 rfl) ?_
  refine lv_iload_n hx hb dX10_fewestFor_27 rfl (lv_at hl 2 rfl) ?_
  refine y_wVi (wr := [(a 54, .inr (9, [.int v54_0, .int v54_1, .int v54_2, .ref (a 55), .ref (a 56), .ref (a 57), .ref (a 58)]))]) hF (s_X10_says l D t a v40_0 v40_1 v40_2 v40_3 v40_4 v40_5 v40_6 v40_7 f42 f45 v50_0 f51 f52 f53 f123 f124 x_4 p0 r40_1 r40_5 r40_6 r40_7 r50_0 q51 q52 q53 s.heap.size) m_1065 m_1067 m_s29 m_8 m_1068 hd_X10_says ⟨Nat.le_of_ble_eq_true rfl, Nat.le_of_ble_eq_true rfl⟩ hK hN hP hD hS hA 0 (ci := 10) rfl rfl rfl [0, 1, 2, 3, 4, 5, 6, 7, 9, 10] [8] rfl rfl (by decide) (by decide) (by decide) hl.1 rfl (Nat.le_of_ble_eq_true rfl) dX10_fewestFor_28 ⟨Nat.zero_le _, Nat.zero_le _⟩ (fun r_6 u_5 H locs hu_5 hP hD hS => ?_)
  have hr_6 := hu_5
  have hP : va_P D classes [(a 54, .inr (9, [.int v54_0, .int v54_1, .int v54_2, .ref (a 55), .ref (a 56), .ref (a 57), .ref (a 58)])), (a 15, .inr (10, [.ref (a 40), .ref (a 123), .ref (a 124)])), (a 40, .inr (0, [.int v40_0, .int v40_1, .int v40_2, .int v40_3, .int v40_4, .int v40_5, .int v40_6, .int v40_7, .ref (a 41), .ref (a 42), .ref (a 43), .ref (a 44), .ref (a 45), .ref (a 46), .ref (a 47), .ref (a 48), .ref (a 49), .ref (a 50), .ref (a 54)])), (a 42, .inl (t 0, 9, .inl f42)), (a 45, .inl (t 0, 9, .inl f45)), (a 50, .inr (5, [.int v50_0, .ref (a 51), .ref (a 52), .ref (a 53)])), (a 51, .inl (t 0, 8, .inl f51)), (a 52, .inl (t 0, 8, .inl f52)), (a 53, .inl (t 0, 8, .inl f53)), (a 123, .inl (t 0, 8, .inl (u_5.2.1 0))), (a 124, .inl (t 0, 8, .inl (u_5.2.1 1)))] H := hP
  have hD : va_D A [(a 54, .inr (9, [.int v54_0, .int v54_1, .int v54_2, .ref (a 55), .ref (a 56), .ref (a 57), .ref (a 58)])), (a 15, .inr (10, [.ref (a 40), .ref (a 123), .ref (a 124)])), (a 40, .inr (0, [.int v40_0, .int v40_1, .int v40_2, .int v40_3, .int v40_4, .int v40_5, .int v40_6, .int v40_7, .ref (a 41), .ref (a 42), .ref (a 43), .ref (a 44), .ref (a 45), .ref (a 46), .ref (a 47), .ref (a 48), .ref (a 49), .ref (a 50), .ref (a 54)])), (a 42, .inl (t 0, 9, .inl f42)), (a 45, .inl (t 0, 9, .inl f45)), (a 50, .inr (5, [.int v50_0, .ref (a 51), .ref (a 52), .ref (a 53)])), (a 51, .inl (t 0, 8, .inl f51)), (a 52, .inl (t 0, 8, .inl f52)), (a 53, .inl (t 0, 8, .inl f53)), (a 123, .inl (t 0, 8, .inl (u_5.2.1 0))), (a 124, .inl (t 0, 8, .inl (u_5.2.1 1)))] := hD
  refine lv_if_ne (tgt := 36) hx hb dX10_fewestFor_31 (by decide) (fun c_7 => ?_) (fun c_7 => ?_)
  · skip
    have h_8 : rg 1 1 r_6 := rg_w (rg_neL hr_6 c_7 (by decide)) (by decide) (by decide)
    refine lv_iload_n hx hb dX10_fewestFor_36 rfl (lv_at hl 0 rfl) ?_
    refine lv_istore_n (lv' := [(3, .int x_4), (2, .int x_4), (0, .ref (a 15)), (1, .int p0)]) hx hb dX10_fewestFor_37 rfl hl (by decide) rfl (fun ls hl => ?_)
    refine lv_iconst (v := 0) hx hb dX10_fewestFor_38 (by decide) ?_
    refine lv_istore (lv' := [(4, .int 0), (3, .int x_4), (2, .int x_4), (0, .ref (a 15)), (1, .int p0)]) hx hb dX10_fewestFor_39 hl (by decide) rfl (fun ls hl => ?_)
    refine loopW (α := US) (fun n y_9 H locs ls => 512 < (y_9.1 0).toInt + (n : Int) ∧ rg 0 512 (y_9.1 0) ∧ rg 0 511 (y_9.1 1) ∧ va_P D classes [(a 54, .inr (9, [.int v54_0, .int v54_1, .int v54_2, .ref (a 55), .ref (a 56), .ref (a 57), .ref (a 58)])), (a 15, .inr (10, [.ref (a 40), .ref (a 123), .ref (a 124)])), (a 40, .inr (0, [.int v40_0, .int v40_1, .int v40_2, .int v40_3, .int v40_4, .int v40_5, .int v40_6, .int v40_7, .ref (a 41), .ref (a 42), .ref (a 43), .ref (a 44), .ref (a 45), .ref (a 46), .ref (a 47), .ref (a 48), .ref (a 49), .ref (a 50), .ref (a 54)])), (a 42, .inl (t 0, 9, .inl f42)), (a 45, .inl (t 0, 9, .inl f45)), (a 50, .inr (5, [.int v50_0, .ref (a 51), .ref (a 52), .ref (a 53)])), (a 51, .inl (t 0, 8, .inl f51)), (a 52, .inl (t 0, 8, .inl f52)), (a 53, .inl (t 0, 8, .inl f53)), (a 123, .inl (t 0, 8, .inl (y_9.2.1 0))), (a 124, .inl (t 0, 8, .inl (y_9.2.1 1)))] H ∧ va_D A [(a 54, .inr (9, [.int v54_0, .int v54_1, .int v54_2, .ref (a 55), .ref (a 56), .ref (a 57), .ref (a 58)])), (a 15, .inr (10, [.ref (a 40), .ref (a 123), .ref (a 124)])), (a 40, .inr (0, [.int v40_0, .int v40_1, .int v40_2, .int v40_3, .int v40_4, .int v40_5, .int v40_6, .int v40_7, .ref (a 41), .ref (a 42), .ref (a 43), .ref (a 44), .ref (a 45), .ref (a 46), .ref (a 47), .ref (a 48), .ref (a 49), .ref (a 50), .ref (a 54)])), (a 42, .inl (t 0, 9, .inl f42)), (a 45, .inl (t 0, 9, .inl f45)), (a 50, .inr (5, [.int v50_0, .ref (a 51), .ref (a 52), .ref (a 53)])), (a 51, .inl (t 0, 8, .inl f51)), (a 52, .inl (t 0, 8, .inl f52)), (a 53, .inl (t 0, 8, .inl f53)), (a 123, .inl (t 0, 8, .inl (y_9.2.1 0))), (a 124, .inl (t 0, 8, .inl (y_9.2.1 1)))] ∧ va_S A s.heap H locs ∧ lv_has ls 6 [(4, .int (y_9.1 0)), (3, .int (y_9.1 1)), (2, .int x_4), (0, .ref (a 15)), (1, .int p0)]) 41 (fun y_9 => []) (fun _ _ _ _ h9 => m_0 h9.1 h9.2.1) (fun n ih_12 y_9 H locs ls hI => ?_) 513 (fun k => [0, x_4].getD k 0, fun k => [(u_5.2.1 0), (u_5.2.1 1)].getD k (fun _ => 0), fun k => [].getD k (fun _ => 0), fun k => [].getD k 0) ⟨(m_i (rg_c (x := 0) (k := 0) (by decide)) (by decide)), (rg_w (c := 0) (d := 512) (rg_c (x := 0) (k := 0) (by decide)) (by decide) (by decide)), hx_4, hP, hD, hS, (lv_sub hl [0, 1, 2, 3, 4] rfl)⟩
    obtain ⟨me_13, h_10, h_11, hP, hD, hS, hl⟩ := hI
    refine lv_iload hx hb dX10_fewestFor_41 (lv_at hl 0 rfl) ?_
    refine lv_iload_n hx hb dX10_fewestFor_43 rfl (lv_at hl 2 rfl) ?_
    refine lv_icmp_gt (tgt := 99) hx hb dX10_fewestFor_44 (by decide) (fun c_14 => ?_) (fun c_14 => ?_)
    · skip
      have h_15 : rg 1 512 (y_9.1 0) := ⟨Int.le_trans (by decide) (c_ltR c_14 hx_4), (h_10).2⟩
      refine lv_iload_n hx hb dX10_fewestFor_99 rfl (lv_at hl 1 rfl) ?_
      have hP9 := hP.sub (ws' := [(a 15, .inr (10, [.ref (a 40), .ref (a 123), .ref (a 124)])), (a 40, .inr (0, [.int v40_0, .int v40_1, .int v40_2, .int v40_3, .int v40_4, .int v40_5, .int v40_6, .int v40_7, .ref (a 41), .ref (a 42), .ref (a 43), .ref (a 44), .ref (a 45), .ref (a 46), .ref (a 47), .ref (a 48), .ref (a 49), .ref (a 50), .ref (a 54)])), (a 42, .inl (t 0, 9, .inl f42)), (a 45, .inl (t 0, 9, .inl f45)), (a 50, .inr (5, [.int v50_0, .ref (a 51), .ref (a 52), .ref (a 53)])), (a 51, .inl (t 0, 8, .inl f51)), (a 52, .inl (t 0, 8, .inl f52)), (a 53, .inl (t 0, 8, .inl f53)), (a 54, .inr (9, [.int v54_0, .int v54_1, .int v54_2, .ref (a 55), .ref (a 56), .ref (a 57), .ref (a 58)])), (a 123, .inl (t 0, 8, .inl (y_9.2.1 0))), (a 124, .inl (t 0, 8, .inl (y_9.2.1 1)))]) [1, 2, 3, 4, 5, 6, 7, 8, 0, 9, 10] rfl
      have hD9 := hD.sub (ws' := [(a 15, .inr (10, [.ref (a 40), .ref (a 123), .ref (a 124)])), (a 40, .inr (0, [.int v40_0, .int v40_1, .int v40_2, .int v40_3, .int v40_4, .int v40_5, .int v40_6, .int v40_7, .ref (a 41), .ref (a 42), .ref (a 43), .ref (a 44), .ref (a 45), .ref (a 46), .ref (a 47), .ref (a 48), .ref (a 49), .ref (a 50), .ref (a 54)])), (a 42, .inl (t 0, 9, .inl f42)), (a 45, .inl (t 0, 9, .inl f45)), (a 50, .inr (5, [.int v50_0, .ref (a 51), .ref (a 52), .ref (a 53)])), (a 51, .inl (t 0, 8, .inl f51)), (a 52, .inl (t 0, 8, .inl f52)), (a 53, .inl (t 0, 8, .inl f53)), (a 54, .inr (9, [.int v54_0, .int v54_1, .int v54_2, .ref (a 55), .ref (a 56), .ref (a 57), .ref (a 58)])), (a 123, .inl (t 0, 8, .inl (y_9.2.1 0))), (a 124, .inl (t 0, 8, .inl (y_9.2.1 1)))]) [1, 2, 3, 4, 5, 6, 7, 8, 0, 9, 10] (by decide) rfl
      exact W.iret (v := (y_9.1 1)) hx hb hr (fun t9 ht hW => ⟨⟨(y_9.1 1), (fun k => [].getD k 0, fun k => [(y_9.2.1 0), (y_9.2.1 1)].getD k (fun _ => 0), fun k => [].getD k (fun _ => 0), fun _ => 0), rfl, (rg_w (c := (-1)) (d := 511) h_11 (by decide) (by decide)), by rw [ht]; exact hP9, hD9⟩, hS.F ht⟩) hS.2.2 dX10_fewestFor_100
    · skip
      have h_16 : rg 0 511 (y_9.1 0) := ⟨(h_10).1, Int.le_trans (c_nltR c_14 hx_4) (by decide)⟩
      refine lv_iload hx hb dX10_fewestFor_47 (lv_at hl 0 rfl) ?_
      refine y_pS hF (s_J6_bitCount_0f7a4 l D t a (y_9.1 0)) m_1070 m_753 m_21 m_754 hd_J6_bitCount_0f7a4 ⟨Nat.le_of_ble_eq_true rfl, Nat.le_of_ble_eq_true rfl⟩ hK hN hP hS [] rfl hl.1 rfl (Nat.le_of_ble_eq_true rfl) dX10_fewestFor_49 ⟨Nat.zero_le _, Nat.zero_le _⟩ (fun r_17 H locs hr_17 hP hS => ?_)
      refine lv_iload_n hx hb dX10_fewestFor_52 rfl (lv_at hl 1 rfl) ?_
      refine y_pS hF (s_J6_bitCount_0f7a4 l D t a (y_9.1 1)) m_1070 m_753 m_21 m_754 hd_J6_bitCount_0f7a4 ⟨Nat.le_of_ble_eq_true rfl, Nat.le_of_ble_eq_true rfl⟩ hK hN hP hS [] rfl hl.1 rfl (Nat.le_of_ble_eq_true rfl) dX10_fewestFor_53 ⟨Nat.zero_le _, Nat.zero_le _⟩ (fun r_18 H locs hr_18 hP hS => ?_)
      refine lv_icmp_ge (tgt := 63) hx hb dX10_fewestFor_56 (by decide) (fun c_19 => ?_) (fun c_19 => ?_)
      · skip
        refine lv_iconst (v := 0) hx hb dX10_fewestFor_63 (by decide) ?_
        refine lv_istore (lv' := [(5, .int 0), (4, .int (y_9.1 0)), (3, .int (y_9.1 1)), (2, .int x_4), (0, .ref (a 15)), (1, .int p0)]) hx hb dX10_fewestFor_64 hl (by decide) rfl (fun ls hl => ?_)
        refine lv_iload hx hb dX10_fewestFor_66 (lv_at hl 0 rfl) ?_
        refine lv_if_eq (tgt := 93) hx hb dX10_fewestFor_68 (by decide) (fun c_20 => ?_) (fun c_20 => False.elim (by first | exact absurd (by decide) c_20 | exact absurd c_20 (by decide)))
        obtain ⟨x_21, ex_21⟩ : ∃ y9 : Int32, y9 = (y_9.1 0) + 1 := ⟨_, rfl⟩
        have hx_21 : rg 1 512 x_21 := by rw [ex_21]; exact rg_add h_16 (rg_c (x := 1) (k := 1) (by decide)) (by decide) (by decide) (by decide) (by decide)
        have tx_21 : x_21.toInt = (y_9.1 0).toInt + 1 := by rw [ex_21]; exact inc_tk h_16 (by decide) (by decide) (by decide)
        refine lv_iinc (v := x_21) (lv' := [(4, .int x_21), (5, .int 0), (3, .int (y_9.1 1)), (2, .int x_4), (0, .ref (a 15)), (1, .int p0)]) hx hb dX10_fewestFor_93 hl (k := 1) rfl (by rw [ex_21]; rfl) (by decide) rfl (fun ls hl => ?_)
        refine lv_goto (tgt := 41) hx hb dX10_fewestFor_96 (by decide) ?_
        exact ih_12 (fun k => [x_21, (y_9.1 1)].getD k 0, fun k => [(y_9.2.1 0), (y_9.2.1 1)].getD k (fun _ => 0), fun k => [].getD k (fun _ => 0), fun k => [].getD k 0) _ _ ls ⟨(m_upk me_13 tx_21 (by decide)), (rg_w (c := 0) (d := 512) hx_21 (by decide) (by decide)), h_11, hP, hD, hS, (lv_sub hl [0, 2, 3, 4, 5] rfl)⟩
      · skip
        have h_22 : rg 0 62 r_17 := ⟨(hr_17).1, Int.le_trans (c_nleR c_19 hr_18) (by decide)⟩
        have h_23 : rg 1 63 r_18 := ⟨Int.le_trans (by decide) (c_nle c_19 hr_17), (hr_18).2⟩
        refine lv_iconst (v := 1) hx hb dX10_fewestFor_59 (by decide) ?_
        refine lv_goto (tgt := 64) hx hb dX10_fewestFor_60 (by decide) ?_
        refine lv_istore (lv' := [(5, .int 1), (4, .int (y_9.1 0)), (3, .int (y_9.1 1)), (2, .int x_4), (0, .ref (a 15)), (1, .int p0)]) hx hb dX10_fewestFor_64 hl (by decide) rfl (fun ls hl => ?_)
        refine lv_iload hx hb dX10_fewestFor_66 (lv_at hl 0 rfl) ?_
        refine lv_if_eq (tgt := 93) hx hb dX10_fewestFor_68 (by decide) (fun c_24 => False.elim (by first | exact absurd (by decide) c_24 | exact absurd c_24 (by decide))) (fun c_24 => ?_)
        refine lv_iload hx hb dX10_fewestFor_71 (lv_at hl 1 rfl) ?_
        refine lv_iload_n hx hb dX10_fewestFor_73 rfl (lv_at hl 3 rfl) ?_
        refine lv_iconst (v := (-1)) hx hb dX10_fewestFor_74 (by decide) ?_
        refine lv_ixor hx hb dX10_fewestFor_75 ?_
        refine lv_topi (fun x_25 ex_25 => ?_)
        refine lv_iand hx hb dX10_fewestFor_76 ?_
        refine lv_topi (fun x_26 ex_26 => ?_)
        have hx_26 : rg 0 511 x_26 := by rw [ex_26]; exact rg_andL h_16
        refine lv_if_ne (tgt := 93) hx hb dX10_fewestFor_77 (by decide) (fun c_27 => ?_) (fun c_27 => ?_)
        · skip
          have h_28 : rg 1 511 x_26 := rg_w (rg_neL hx_26 c_27 (by decide)) (by decide) (by decide)
          obtain ⟨x_29, ex_29⟩ : ∃ y9 : Int32, y9 = (y_9.1 0) + 1 := ⟨_, rfl⟩
          have hx_29 : rg 1 512 x_29 := by rw [ex_29]; exact rg_add h_16 (rg_c (x := 1) (k := 1) (by decide)) (by decide) (by decide) (by decide) (by decide)
          have tx_29 : x_29.toInt = (y_9.1 0).toInt + 1 := by rw [ex_29]; exact inc_tk h_16 (by decide) (by decide) (by decide)
          refine lv_iinc (v := x_29) (lv' := [(4, .int x_29), (5, .int 1), (3, .int (y_9.1 1)), (2, .int x_4), (0, .ref (a 15)), (1, .int p0)]) hx hb dX10_fewestFor_93 hl (k := 1) rfl (by rw [ex_29]; rfl) (by decide) rfl (fun ls hl => ?_)
          refine lv_goto (tgt := 41) hx hb dX10_fewestFor_96 (by decide) ?_
          exact ih_12 (fun k => [x_29, (y_9.1 1)].getD k 0, fun k => [(y_9.2.1 0), (y_9.2.1 1)].getD k (fun _ => 0), fun k => [].getD k (fun _ => 0), fun k => [].getD k 0) _ _ ls ⟨(m_upk me_13 tx_29 (by decide)), (rg_w (c := 0) (d := 512) hx_29 (by decide) (by decide)), h_11, hP, hD, hS, (lv_sub hl [0, 2, 3, 4, 5] rfl)⟩
        · skip
          have h_30 : rg 0 0 x_26 := rg_eq c_27 (rg_c (x := 0) (k := 0) (by decide))
          refine lv_aload_n hx hb dX10_fewestFor_80 rfl (lv_at hl 4 rfl) ?_
          refine lv_iload hx hb dX10_fewestFor_81 (lv_at hl 1 rfl) ?_
          refine lv_iload_n hx hb dX10_fewestFor_83 rfl (lv_at hl 5 rfl) ?_
          refine y_wVi (wr := [(a 54, .inr (9, [.int v54_0, .int v54_1, .int v54_2, .ref (a 55), .ref (a 56), .ref (a 57), .ref (a 58)]))]) hF (s_X10_says l D t a v40_0 v40_1 v40_2 v40_3 v40_4 v40_5 v40_6 v40_7 f42 f45 v50_0 f51 f52 f53 (y_9.2.1 0) (y_9.2.1 1) (y_9.1 0) p0 r40_1 r40_5 r40_6 r40_7 r50_0 q51 q52 q53 H.size) m_1065 m_1067 m_s29 m_8 m_1068 hd_X10_says ⟨Nat.le_of_ble_eq_true rfl, Nat.le_of_ble_eq_true rfl⟩ hK hN hP hD hS hA 0 (ci := 10) rfl rfl rfl [1, 2, 3, 4, 5, 6, 7, 8, 9, 10] [0] rfl rfl (by decide) (by decide) (by decide) hl.1 rfl (Nat.le_of_ble_eq_true rfl) dX10_fewestFor_84 ⟨Nat.zero_le _, Nat.zero_le _⟩ (fun r_32 u_31 H locs hu_31 hP hD hS => ?_)
          have hr_32 := hu_31
          have hP : va_P D classes [(a 54, .inr (9, [.int v54_0, .int v54_1, .int v54_2, .ref (a 55), .ref (a 56), .ref (a 57), .ref (a 58)])), (a 15, .inr (10, [.ref (a 40), .ref (a 123), .ref (a 124)])), (a 40, .inr (0, [.int v40_0, .int v40_1, .int v40_2, .int v40_3, .int v40_4, .int v40_5, .int v40_6, .int v40_7, .ref (a 41), .ref (a 42), .ref (a 43), .ref (a 44), .ref (a 45), .ref (a 46), .ref (a 47), .ref (a 48), .ref (a 49), .ref (a 50), .ref (a 54)])), (a 42, .inl (t 0, 9, .inl f42)), (a 45, .inl (t 0, 9, .inl f45)), (a 50, .inr (5, [.int v50_0, .ref (a 51), .ref (a 52), .ref (a 53)])), (a 51, .inl (t 0, 8, .inl f51)), (a 52, .inl (t 0, 8, .inl f52)), (a 53, .inl (t 0, 8, .inl f53)), (a 123, .inl (t 0, 8, .inl (u_31.2.1 0))), (a 124, .inl (t 0, 8, .inl (u_31.2.1 1)))] H := hP
          have hD : va_D A [(a 54, .inr (9, [.int v54_0, .int v54_1, .int v54_2, .ref (a 55), .ref (a 56), .ref (a 57), .ref (a 58)])), (a 15, .inr (10, [.ref (a 40), .ref (a 123), .ref (a 124)])), (a 40, .inr (0, [.int v40_0, .int v40_1, .int v40_2, .int v40_3, .int v40_4, .int v40_5, .int v40_6, .int v40_7, .ref (a 41), .ref (a 42), .ref (a 43), .ref (a 44), .ref (a 45), .ref (a 46), .ref (a 47), .ref (a 48), .ref (a 49), .ref (a 50), .ref (a 54)])), (a 42, .inl (t 0, 9, .inl f42)), (a 45, .inl (t 0, 9, .inl f45)), (a 50, .inr (5, [.int v50_0, .ref (a 51), .ref (a 52), .ref (a 53)])), (a 51, .inl (t 0, 8, .inl f51)), (a 52, .inl (t 0, 8, .inl f52)), (a 53, .inl (t 0, 8, .inl f53)), (a 123, .inl (t 0, 8, .inl (u_31.2.1 0))), (a 124, .inl (t 0, 8, .inl (u_31.2.1 1)))] := hD
          refine lv_if_eq (tgt := 93) hx hb dX10_fewestFor_87 (by decide) (fun c_33 => ?_) (fun c_33 => ?_)
          · skip
            have h_34 : rg 0 0 r_32 := rg_eq c_33 (rg_c (x := 0) (k := 0) (by decide))
            obtain ⟨x_35, ex_35⟩ : ∃ y9 : Int32, y9 = (y_9.1 0) + 1 := ⟨_, rfl⟩
            have hx_35 : rg 1 512 x_35 := by rw [ex_35]; exact rg_add h_16 (rg_c (x := 1) (k := 1) (by decide)) (by decide) (by decide) (by decide) (by decide)
            have tx_35 : x_35.toInt = (y_9.1 0).toInt + 1 := by rw [ex_35]; exact inc_tk h_16 (by decide) (by decide) (by decide)
            refine lv_iinc (v := x_35) (lv' := [(4, .int x_35), (5, .int 1), (3, .int (y_9.1 1)), (2, .int x_4), (0, .ref (a 15)), (1, .int p0)]) hx hb dX10_fewestFor_93 hl (k := 1) rfl (by rw [ex_35]; rfl) (by decide) rfl (fun ls hl => ?_)
            refine lv_goto (tgt := 41) hx hb dX10_fewestFor_96 (by decide) ?_
            exact ih_12 (fun k => [x_35, (y_9.1 1)].getD k 0, fun k => [(u_31.2.1 0), (u_31.2.1 1)].getD k (fun _ => 0), fun k => [].getD k (fun _ => 0), fun k => [].getD k 0) _ _ ls ⟨(m_upk me_13 tx_35 (by decide)), (rg_w (c := 0) (d := 512) hx_35 (by decide) (by decide)), h_11, hP, hD, hS, (lv_sub hl [0, 2, 3, 4, 5] rfl)⟩
          · skip
            have h_36 : rg 1 1 r_32 := rg_w (rg_neL hr_32 c_33 (by decide)) (by decide) (by decide)
            refine lv_iload hx hb dX10_fewestFor_90 (lv_at hl 1 rfl) ?_
            refine lv_istore_n (lv' := [(3, .int (y_9.1 0)), (5, .int 1), (4, .int (y_9.1 0)), (2, .int x_4), (0, .ref (a 15)), (1, .int p0)]) hx hb dX10_fewestFor_92 rfl hl (by decide) rfl (fun ls hl => ?_)
            obtain ⟨x_37, ex_37⟩ : ∃ y9 : Int32, y9 = (y_9.1 0) + 1 := ⟨_, rfl⟩
            have hx_37 : rg 1 512 x_37 := by rw [ex_37]; exact rg_add h_16 (rg_c (x := 1) (k := 1) (by decide)) (by decide) (by decide) (by decide) (by decide)
            have tx_37 : x_37.toInt = (y_9.1 0).toInt + 1 := by rw [ex_37]; exact inc_tk h_16 (by decide) (by decide) (by decide)
            refine lv_iinc (v := x_37) (lv' := [(4, .int x_37), (3, .int (y_9.1 0)), (5, .int 1), (2, .int x_4), (0, .ref (a 15)), (1, .int p0)]) hx hb dX10_fewestFor_93 hl (k := 2) rfl (by rw [ex_37]; rfl) (by decide) rfl (fun ls hl => ?_)
            refine lv_goto (tgt := 41) hx hb dX10_fewestFor_96 (by decide) ?_
            exact ih_12 (fun k => [x_37, (y_9.1 0)].getD k 0, fun k => [(u_31.2.1 0), (u_31.2.1 1)].getD k (fun _ => 0), fun k => [].getD k (fun _ => 0), fun k => [].getD k 0) _ _ ls ⟨(m_upk me_13 tx_37 (by decide)), (rg_w (c := 0) (d := 512) hx_37 (by decide) (by decide)), h_16, hP, hD, hS, (lv_sub hl [0, 1, 3, 4, 5] rfl)⟩
  · skip
    have h_38 : rg 0 0 r_6 := rg_eq c_7 (rg_c (x := 0) (k := 0) (by decide))
    refine lv_iconst (v := (-1)) hx hb dX10_fewestFor_34 (by decide) ?_
    have hP9 := hP.sub (ws' := [(a 15, .inr (10, [.ref (a 40), .ref (a 123), .ref (a 124)])), (a 40, .inr (0, [.int v40_0, .int v40_1, .int v40_2, .int v40_3, .int v40_4, .int v40_5, .int v40_6, .int v40_7, .ref (a 41), .ref (a 42), .ref (a 43), .ref (a 44), .ref (a 45), .ref (a 46), .ref (a 47), .ref (a 48), .ref (a 49), .ref (a 50), .ref (a 54)])), (a 42, .inl (t 0, 9, .inl f42)), (a 45, .inl (t 0, 9, .inl f45)), (a 50, .inr (5, [.int v50_0, .ref (a 51), .ref (a 52), .ref (a 53)])), (a 51, .inl (t 0, 8, .inl f51)), (a 52, .inl (t 0, 8, .inl f52)), (a 53, .inl (t 0, 8, .inl f53)), (a 54, .inr (9, [.int v54_0, .int v54_1, .int v54_2, .ref (a 55), .ref (a 56), .ref (a 57), .ref (a 58)])), (a 123, .inl (t 0, 8, .inl (u_5.2.1 0))), (a 124, .inl (t 0, 8, .inl (u_5.2.1 1)))]) [1, 2, 3, 4, 5, 6, 7, 8, 0, 9, 10] rfl
    have hD9 := hD.sub (ws' := [(a 15, .inr (10, [.ref (a 40), .ref (a 123), .ref (a 124)])), (a 40, .inr (0, [.int v40_0, .int v40_1, .int v40_2, .int v40_3, .int v40_4, .int v40_5, .int v40_6, .int v40_7, .ref (a 41), .ref (a 42), .ref (a 43), .ref (a 44), .ref (a 45), .ref (a 46), .ref (a 47), .ref (a 48), .ref (a 49), .ref (a 50), .ref (a 54)])), (a 42, .inl (t 0, 9, .inl f42)), (a 45, .inl (t 0, 9, .inl f45)), (a 50, .inr (5, [.int v50_0, .ref (a 51), .ref (a 52), .ref (a 53)])), (a 51, .inl (t 0, 8, .inl f51)), (a 52, .inl (t 0, 8, .inl f52)), (a 53, .inl (t 0, 8, .inl f53)), (a 54, .inr (9, [.int v54_0, .int v54_1, .int v54_2, .ref (a 55), .ref (a 56), .ref (a 57), .ref (a 58)])), (a 123, .inl (t 0, 8, .inl (u_5.2.1 0))), (a 124, .inl (t 0, 8, .inl (u_5.2.1 1)))]) [1, 2, 3, 4, 5, 6, 7, 8, 0, 9, 10] (by decide) rfl
    exact W.iret (v := (-1)) hx hb hr (fun t9 ht hW => ⟨⟨(-1), (fun k => [].getD k 0, fun k => [(u_5.2.1 0), (u_5.2.1 1)].getD k (fun _ => 0), fun k => [].getD k (fun _ => 0), fun _ => 0), rfl, (rg_w (c := (-1)) (d := 511) (rg_c (x := (-1)) (k := (-1)) (by decide)) (by decide) (by decide)), by rw [ht]; exact hP9, hD9⟩, hS.F ht⟩) hS.2.2 dX10_fewestFor_35

set_option maxHeartbeats 4000000 in
set_option maxRecDepth 100000 in
theorem s_X10_cheapestHouse (l : Launch) (D : va_G) (t : Nat → ClassId) (a : Nat → Nat) (v40_0 : Int32) (v40_1 : Int32) (v40_2 : Int32) (v40_3 : Int32) (v40_4 : Int32) (v40_5 : Int32) (v40_6 : Int32) (v40_7 : Int32) (f42 : Nat → Int32) (f43 : Nat → Int32) (f45 : Nat → Int32) (f47 : Nat → Int32) (f49 : Nat → Int32) (v50_0 : Int32) (f51 : Nat → Int32) (f52 : Nat → Int32) (f53 : Nat → Int32) (v54_0 : Int32) (v54_1 : Int32) (v54_2 : Int32) (f123 : Nat → Int32) (f124 : Nat → Int32) (r40_1 : rg 0 8 v40_1) (r40_5 : rg 0 4 v40_5) (r40_6 : rg 0 9 v40_6) (r40_7 : rg 0 9 v40_7) (q43 : ∀ j, j < 9 → rg 0 3 (f43 j)) (r50_0 : rg 0 8 v50_0) (q51 : ∀ j, j < 8 → rg 0 7 (f51 j)) (q52 : ∀ j, j < 8 → rg 0 7 (f52 j)) (q53 : ∀ j, j < 8 → rg 0 7 (f53 j)) (r54_0 : rg 0 60 v54_0) (sz : Nat) : Met l yX10_cheapestHouse (wd yX10_cheapestHouse cX10_cheapestHouse 5 (some .int)) (RM 4 0 0) (PreW D (TY t) [.ref (a 15)] [(a 15, .inr (10, [.ref (a 40), .ref (a 123), .ref (a 124)])), (a 40, .inr (0, [.int v40_0, .int v40_1, .int v40_2, .int v40_3, .int v40_4, .int v40_5, .int v40_6, .int v40_7, .ref (a 41), .ref (a 42), .ref (a 43), .ref (a 44), .ref (a 45), .ref (a 46), .ref (a 47), .ref (a 48), .ref (a 49), .ref (a 50), .ref (a 54)])), (a 42, .inl (t 0, 9, .inl f42)), (a 43, .inl (t 0, 9, .inl f43)), (a 45, .inl (t 0, 9, .inl f45)), (a 47, .inl (t 0, 9, .inl f47)), (a 49, .inl (t 0, 9, .inl f49)), (a 50, .inr (5, [.int v50_0, .ref (a 51), .ref (a 52), .ref (a 53)])), (a 51, .inl (t 0, 8, .inl f51)), (a 52, .inl (t 0, 8, .inl f52)), (a 53, .inl (t 0, 8, .inl f53)), (a 54, .inr (9, [.int v54_0, .int v54_1, .int v54_2, .ref (a 55), .ref (a 56), .ref (a 57), .ref (a 58)])), (a 123, .inl (t 0, 8, .inl f123)), (a 124, .inl (t 0, 8, .inl f124))] sz) (va_Qi (fun (r : Int32) (_ : US) => rg 0 511 r) (fun (u : US) t9 => va_P D classes ((fun u : US => [(a 15, .inr (10, [.ref (a 40), .ref (a 123), .ref (a 124)])), (a 40, .inr (0, [.int v40_0, .int v40_1, .int v40_2, .int v40_3, .int v40_4, .int v40_5, .int v40_6, .int v40_7, .ref (a 41), .ref (a 42), .ref (a 43), .ref (a 44), .ref (a 45), .ref (a 46), .ref (a 47), .ref (a 48), .ref (a 49), .ref (a 50), .ref (a 54)])), (a 42, .inl (t 0, 9, .inl f42)), (a 43, .inl (t 0, 9, .inl f43)), (a 45, .inl (t 0, 9, .inl f45)), (a 47, .inl (t 0, 9, .inl f47)), (a 49, .inl (t 0, 9, .inl f49)), (a 50, .inr (5, [.int v50_0, .ref (a 51), .ref (a 52), .ref (a 53)])), (a 51, .inl (t 0, 8, .inl f51)), (a 52, .inl (t 0, 8, .inl f52)), (a 53, .inl (t 0, 8, .inl f53)), (a 54, .inr (9, [.int v54_0, .int v54_1, .int v54_2, .ref (a 55), .ref (a 56), .ref (a 57), .ref (a 58)])), (a 123, .inl (t 0, 8, .inl (u.2.1 0))), (a 124, .inl (t 0, 8, .inl (u.2.1 1)))]) u) t9.heap ∧ va_D (va_A [(a 15, .inr (10, [.ref (a 40), .ref (a 123), .ref (a 124)])), (a 40, .inr (0, [.int v40_0, .int v40_1, .int v40_2, .int v40_3, .int v40_4, .int v40_5, .int v40_6, .int v40_7, .ref (a 41), .ref (a 42), .ref (a 43), .ref (a 44), .ref (a 45), .ref (a 46), .ref (a 47), .ref (a 48), .ref (a 49), .ref (a 50), .ref (a 54)])), (a 42, .inl (t 0, 9, .inl f42)), (a 43, .inl (t 0, 9, .inl f43)), (a 45, .inl (t 0, 9, .inl f45)), (a 47, .inl (t 0, 9, .inl f47)), (a 49, .inl (t 0, 9, .inl f49)), (a 50, .inr (5, [.int v50_0, .ref (a 51), .ref (a 52), .ref (a 53)])), (a 51, .inl (t 0, 8, .inl f51)), (a 52, .inl (t 0, 8, .inl f52)), (a 53, .inl (t 0, 8, .inl f53)), (a 54, .inr (9, [.int v54_0, .int v54_1, .int v54_2, .ref (a 55), .ref (a 56), .ref (a 57), .ref (a 58)])), (a 123, .inl (t 0, 8, .inl f123)), (a 124, .inl (t 0, 8, .inl f124))] sz) ((fun u : US => [(a 15, .inr (10, [.ref (a 40), .ref (a 123), .ref (a 124)])), (a 40, .inr (0, [.int v40_0, .int v40_1, .int v40_2, .int v40_3, .int v40_4, .int v40_5, .int v40_6, .int v40_7, .ref (a 41), .ref (a 42), .ref (a 43), .ref (a 44), .ref (a 45), .ref (a 46), .ref (a 47), .ref (a 48), .ref (a 49), .ref (a 50), .ref (a 54)])), (a 42, .inl (t 0, 9, .inl f42)), (a 43, .inl (t 0, 9, .inl f43)), (a 45, .inl (t 0, 9, .inl f45)), (a 47, .inl (t 0, 9, .inl f47)), (a 49, .inl (t 0, 9, .inl f49)), (a 50, .inr (5, [.int v50_0, .ref (a 51), .ref (a 52), .ref (a 53)])), (a 51, .inl (t 0, 8, .inl f51)), (a 52, .inl (t 0, 8, .inl f52)), (a 53, .inl (t 0, 8, .inl f53)), (a 54, .inr (9, [.int v54_0, .int v54_1, .int v54_2, .ref (a 55), .ref (a 56), .ref (a 57), .ref (a 58)])), (a 123, .inl (t 0, 8, .inl (u.2.1 0))), (a 124, .inl (t 0, 8, .inl (u.2.1 1)))]) u)) (va_A [(a 15, .inr (10, [.ref (a 40), .ref (a 123), .ref (a 124)])), (a 40, .inr (0, [.int v40_0, .int v40_1, .int v40_2, .int v40_3, .int v40_4, .int v40_5, .int v40_6, .int v40_7, .ref (a 41), .ref (a 42), .ref (a 43), .ref (a 44), .ref (a 45), .ref (a 46), .ref (a 47), .ref (a 48), .ref (a 49), .ref (a 50), .ref (a 54)])), (a 42, .inl (t 0, 9, .inl f42)), (a 43, .inl (t 0, 9, .inl f43)), (a 45, .inl (t 0, 9, .inl f45)), (a 47, .inl (t 0, 9, .inl f47)), (a 49, .inl (t 0, 9, .inl f49)), (a 50, .inr (5, [.int v50_0, .ref (a 51), .ref (a 52), .ref (a 53)])), (a 51, .inl (t 0, 8, .inl f51)), (a 52, .inl (t 0, 8, .inl f52)), (a 53, .inl (t 0, 8, .inl f53)), (a 54, .inr (9, [.int v54_0, .int v54_1, .int v54_2, .ref (a 55), .ref (a 56), .ref (a 57), .ref (a 58)])), (a 123, .inl (t 0, 8, .inl f123)), (a 124, .inl (t 0, 8, .inl f124))] sz)) 0 0 (va_A [(a 15, .inr (10, [.ref (a 40), .ref (a 123), .ref (a 124)])), (a 40, .inr (0, [.int v40_0, .int v40_1, .int v40_2, .int v40_3, .int v40_4, .int v40_5, .int v40_6, .int v40_7, .ref (a 41), .ref (a 42), .ref (a 43), .ref (a 44), .ref (a 45), .ref (a 46), .ref (a 47), .ref (a 48), .ref (a 49), .ref (a 50), .ref (a 54)])), (a 42, .inl (t 0, 9, .inl f42)), (a 43, .inl (t 0, 9, .inl f43)), (a 45, .inl (t 0, 9, .inl f45)), (a 47, .inl (t 0, 9, .inl f47)), (a 49, .inl (t 0, 9, .inl f49)), (a 50, .inr (5, [.int v50_0, .ref (a 51), .ref (a 52), .ref (a 53)])), (a 51, .inl (t 0, 8, .inl f51)), (a 52, .inl (t 0, 8, .inl f52)), (a 53, .inl (t 0, 8, .inl f53)), (a 54, .inr (9, [.int v54_0, .int v54_1, .int v54_2, .ref (a 55), .ref (a 56), .ref (a 57), .ref (a 58)])), (a 123, .inl (t 0, 8, .inl f123)), (a 124, .inl (t 0, 8, .inl f124))] sz) := by
  refine Met.ofW (cc := cX10_cheapestHouse) (maxL := 5) (ret := (some .int)) (by decide) rfl ?_
  intro p e s m args below meth c s₁ B hml hv
  obtain ⟨rfl, hsz, hP, hK, hD0, hN⟩ := hv
  have hx := B.exec
  have hb := B.bytes
  have hr := B.returns
  have hts : ∀ w ∈ TB, w.before _ s = true := fun w h => atoms_spec (ws := wd yX10_cheapestHouse cX10_cheapestHouse 5 (some .int)) B.pre w (List.mem_cons_of_mem _ h)
  have hown : s.vm.findClass RX10 = some m.cls := findClass_of_methodNamed B.named
  have hlocks := B.notSynchronized
  have hF : CallFix p m c cX10_cheapestHouse 5 s _ TB RX10 := ⟨hx, hb, hml, hown, hts⟩
  have hl := lv_entry ([.ref (a 15)]) (n := 5) (Nat.le_of_ble_eq_true rfl)
  rw [lg_entry_eq]
  generalize (lg_sl ([.ref (a 15)]) ++ List.replicate (5 - (lg_sl ([.ref (a 15)])).length) Slot.unset).toArray = ls at hl ⊢
  have hl : lv_has ls 5 [(0, .ref (a 15))] := hl
  subst hsz
  have hD := hD0.self (sz := s.heap.size)
  generalize hAe : va_A [(a 15, .inr (10, [.ref (a 40), .ref (a 123), .ref (a 124)])), (a 40, .inr (0, [.int v40_0, .int v40_1, .int v40_2, .int v40_3, .int v40_4, .int v40_5, .int v40_6, .int v40_7, .ref (a 41), .ref (a 42), .ref (a 43), .ref (a 44), .ref (a 45), .ref (a 46), .ref (a 47), .ref (a 48), .ref (a 49), .ref (a 50), .ref (a 54)])), (a 42, .inl (t 0, 9, .inl f42)), (a 43, .inl (t 0, 9, .inl f43)), (a 45, .inl (t 0, 9, .inl f45)), (a 47, .inl (t 0, 9, .inl f47)), (a 49, .inl (t 0, 9, .inl f49)), (a 50, .inr (5, [.int v50_0, .ref (a 51), .ref (a 52), .ref (a 53)])), (a 51, .inl (t 0, 8, .inl f51)), (a 52, .inl (t 0, 8, .inl f52)), (a 53, .inl (t 0, 8, .inl f53)), (a 54, .inr (9, [.int v54_0, .int v54_1, .int v54_2, .ref (a 55), .ref (a 56), .ref (a 57), .ref (a 58)])), (a 123, .inl (t 0, 8, .inl f123)), (a 124, .inl (t 0, 8, .inl f124))] s.heap.size = A at hD ⊢
  have hA : ∀ q : Nat, s.heap.size ≤ q → A q := fun q h => by rw [← hAe]; exact Or.inr h
  have hS : va_S A s.heap s.heap [] := va_S.rf
  have hP : va_P D classes [(a 15, .inr (10, [.ref (a 40), .ref (a 123), .ref (a 124)])), (a 40, .inr (0, [.int v40_0, .int v40_1, .int v40_2, .int v40_3, .int v40_4, .int v40_5, .int v40_6, .int v40_7, .ref (a 41), .ref (a 42), .ref (a 43), .ref (a 44), .ref (a 45), .ref (a 46), .ref (a 47), .ref (a 48), .ref (a 49), .ref (a 50), .ref (a 54)])), (a 42, .inl (t 0, 9, .inl f42)), (a 43, .inl (t 0, 9, .inl f43)), (a 45, .inl (t 0, 9, .inl f45)), (a 47, .inl (t 0, 9, .inl f47)), (a 49, .inl (t 0, 9, .inl f49)), (a 50, .inr (5, [.int v50_0, .ref (a 51), .ref (a 52), .ref (a 53)])), (a 51, .inl (t 0, 8, .inl f51)), (a 52, .inl (t 0, 8, .inl f52)), (a 53, .inl (t 0, 8, .inl f53)), (a 54, .inr (9, [.int v54_0, .int v54_1, .int v54_2, .ref (a 55), .ref (a 56), .ref (a 57), .ref (a 58)])), (a 123, .inl (t 0, 8, .inl f123)), (a 124, .inl (t 0, 8, .inl f124))] s.heap := hP
  refine lv_iconst (v := 0) hx hb dX10_cheapestHouse_0 (by decide) ?_
  refine lv_istore_n (lv' := [(1, .int 0), (0, .ref (a 15))]) hx hb dX10_cheapestHouse_1 rfl hl (by decide) rfl (fun ls hl => ?_)
  refine lv_aload_n hx hb dX10_cheapestHouse_2 rfl (lv_at hl 1 rfl) ?_
  refine lv_iconst (v := 0) hx hb dX10_cheapestHouse_3 (by decide) ?_
  refine y_wVi (wr := [(a 43, .inl (t 0, 9, .inl f43)), (a 54, .inr (9, [.int v54_0, .int v54_1, .int v54_2, .ref (a 55), .ref (a 56), .ref (a 57), .ref (a 58)]))]) hF (s_X10_priceOfAll l D t a v40_0 v40_1 v40_2 v40_3 v40_4 v40_5 v40_6 v40_7 f42 f45 f47 f49 v50_0 f51 f52 f53 f123 f124 0 r40_1 r40_5 r40_6 r40_7 r50_0 q51 q52 q53 s.heap.size) m_1056 m_1034 m_1035 m_8 m_1036 hd_X10_priceOfAll ⟨Nat.le_of_ble_eq_true rfl, Nat.le_of_ble_eq_true rfl⟩ hK hN hP hD hS hA 0 (ci := 10) rfl rfl rfl [0, 1, 2, 4, 5, 6, 7, 8, 9, 10, 12, 13] [3, 11] rfl rfl (by decide) (by decide) (by decide) hl.1 rfl (Nat.le_of_ble_eq_true rfl) dX10_cheapestHouse_4 ⟨Nat.zero_le _, Nat.zero_le _⟩ (fun r_2 u_1 H locs hu_1 hP hD hS => ?_)
  have hP : va_P D classes [(a 43, .inl (t 0, 9, .inl f43)), (a 54, .inr (9, [.int v54_0, .int v54_1, .int v54_2, .ref (a 55), .ref (a 56), .ref (a 57), .ref (a 58)])), (a 15, .inr (10, [.ref (a 40), .ref (a 123), .ref (a 124)])), (a 40, .inr (0, [.int v40_0, .int v40_1, .int v40_2, .int v40_3, .int v40_4, .int v40_5, .int v40_6, .int v40_7, .ref (a 41), .ref (a 42), .ref (a 43), .ref (a 44), .ref (a 45), .ref (a 46), .ref (a 47), .ref (a 48), .ref (a 49), .ref (a 50), .ref (a 54)])), (a 42, .inl (t 0, 9, .inl f42)), (a 45, .inl (t 0, 9, .inl f45)), (a 47, .inl (t 0, 9, .inl f47)), (a 49, .inl (t 0, 9, .inl f49)), (a 50, .inr (5, [.int v50_0, .ref (a 51), .ref (a 52), .ref (a 53)])), (a 51, .inl (t 0, 8, .inl f51)), (a 52, .inl (t 0, 8, .inl f52)), (a 53, .inl (t 0, 8, .inl f53)), (a 123, .inl (t 0, 8, .inl (u_1.2.1 0))), (a 124, .inl (t 0, 8, .inl (u_1.2.1 1)))] H := hP
  have hD : va_D A [(a 43, .inl (t 0, 9, .inl f43)), (a 54, .inr (9, [.int v54_0, .int v54_1, .int v54_2, .ref (a 55), .ref (a 56), .ref (a 57), .ref (a 58)])), (a 15, .inr (10, [.ref (a 40), .ref (a 123), .ref (a 124)])), (a 40, .inr (0, [.int v40_0, .int v40_1, .int v40_2, .int v40_3, .int v40_4, .int v40_5, .int v40_6, .int v40_7, .ref (a 41), .ref (a 42), .ref (a 43), .ref (a 44), .ref (a 45), .ref (a 46), .ref (a 47), .ref (a 48), .ref (a 49), .ref (a 50), .ref (a 54)])), (a 42, .inl (t 0, 9, .inl f42)), (a 45, .inl (t 0, 9, .inl f45)), (a 47, .inl (t 0, 9, .inl f47)), (a 49, .inl (t 0, 9, .inl f49)), (a 50, .inr (5, [.int v50_0, .ref (a 51), .ref (a 52), .ref (a 53)])), (a 51, .inl (t 0, 8, .inl f51)), (a 52, .inl (t 0, 8, .inl f52)), (a 53, .inl (t 0, 8, .inl f53)), (a 123, .inl (t 0, 8, .inl (u_1.2.1 0))), (a 124, .inl (t 0, 8, .inl (u_1.2.1 1)))] := hD
  refine lv_istore_n (lv' := [(2, .int r_2), (1, .int 0), (0, .ref (a 15))]) hx hb dX10_cheapestHouse_7 rfl hl (by decide) rfl (fun ls hl => ?_)
  refine lv_iconst (v := 1) hx hb dX10_cheapestHouse_8 (by decide) ?_
  refine lv_istore_n (lv' := [(3, .int 1), (2, .int r_2), (1, .int 0), (0, .ref (a 15))]) hx hb dX10_cheapestHouse_9 rfl hl (by decide) rfl (fun ls hl => ?_)
  refine loopW (α := US) (fun n y_3 H locs ls => 512 < (y_3.1 0).toInt + (n : Int) ∧ rg 1 512 (y_3.1 0) ∧ rg 0 511 (y_3.1 2) ∧ va_P D classes [(a 43, .inl (t 0, 9, .inl f43)), (a 54, .inr (9, [.int v54_0, .int v54_1, .int v54_2, .ref (a 55), .ref (a 56), .ref (a 57), .ref (a 58)])), (a 15, .inr (10, [.ref (a 40), .ref (a 123), .ref (a 124)])), (a 40, .inr (0, [.int v40_0, .int v40_1, .int v40_2, .int v40_3, .int v40_4, .int v40_5, .int v40_6, .int v40_7, .ref (a 41), .ref (a 42), .ref (a 43), .ref (a 44), .ref (a 45), .ref (a 46), .ref (a 47), .ref (a 48), .ref (a 49), .ref (a 50), .ref (a 54)])), (a 42, .inl (t 0, 9, .inl f42)), (a 45, .inl (t 0, 9, .inl f45)), (a 47, .inl (t 0, 9, .inl f47)), (a 49, .inl (t 0, 9, .inl f49)), (a 50, .inr (5, [.int v50_0, .ref (a 51), .ref (a 52), .ref (a 53)])), (a 51, .inl (t 0, 8, .inl f51)), (a 52, .inl (t 0, 8, .inl f52)), (a 53, .inl (t 0, 8, .inl f53)), (a 123, .inl (t 0, 8, .inl (y_3.2.1 0))), (a 124, .inl (t 0, 8, .inl (y_3.2.1 1)))] H ∧ va_D A [(a 43, .inl (t 0, 9, .inl f43)), (a 54, .inr (9, [.int v54_0, .int v54_1, .int v54_2, .ref (a 55), .ref (a 56), .ref (a 57), .ref (a 58)])), (a 15, .inr (10, [.ref (a 40), .ref (a 123), .ref (a 124)])), (a 40, .inr (0, [.int v40_0, .int v40_1, .int v40_2, .int v40_3, .int v40_4, .int v40_5, .int v40_6, .int v40_7, .ref (a 41), .ref (a 42), .ref (a 43), .ref (a 44), .ref (a 45), .ref (a 46), .ref (a 47), .ref (a 48), .ref (a 49), .ref (a 50), .ref (a 54)])), (a 42, .inl (t 0, 9, .inl f42)), (a 45, .inl (t 0, 9, .inl f45)), (a 47, .inl (t 0, 9, .inl f47)), (a 49, .inl (t 0, 9, .inl f49)), (a 50, .inr (5, [.int v50_0, .ref (a 51), .ref (a 52), .ref (a 53)])), (a 51, .inl (t 0, 8, .inl f51)), (a 52, .inl (t 0, 8, .inl f52)), (a 53, .inl (t 0, 8, .inl f53)), (a 123, .inl (t 0, 8, .inl (y_3.2.1 0))), (a 124, .inl (t 0, 8, .inl (y_3.2.1 1)))] ∧ va_S A s.heap H locs ∧ lv_has ls 5 [(3, .int (y_3.1 0)), (2, .int (y_3.1 1)), (1, .int (y_3.1 2)), (0, .ref (a 15))]) 10 (fun y_3 => []) (fun _ _ _ _ h9 => m_0 h9.1 h9.2.1) (fun n ih_6 y_3 H locs ls hI => ?_) 512 (fun k => [1, r_2, 0].getD k 0, fun k => [(u_1.2.1 0), (u_1.2.1 1)].getD k (fun _ => 0), fun k => [].getD k (fun _ => 0), fun k => [].getD k 0) ⟨(m_i (rg_c (x := 1) (k := 1) (by decide)) (by decide)), (rg_w (c := 1) (d := 512) (rg_c (x := 1) (k := 1) (by decide)) (by decide) (by decide)), (rg_w (c := 0) (d := 511) (rg_c (x := 0) (k := 0) (by decide)) (by decide) (by decide)), hP, hD, hS, (lv_sub hl [0, 1, 2, 3] rfl)⟩
  obtain ⟨me_7, h_4, h_5, hP, hD, hS, hl⟩ := hI
  refine lv_iload_n hx hb dX10_cheapestHouse_10 rfl (lv_at hl 0 rfl) ?_
  refine lv_iconst (v := 1) hx hb dX10_cheapestHouse_11 (by decide) ?_
  refine lv_aload_n hx hb dX10_cheapestHouse_12 rfl (lv_at hl 3 rfl) ?_
  refine va_get (D := D) (ci := 10) (v := .ref (a 40)) (C := RX10) (T := TX10) (N := 3) hx hb hts iX10 hown hK hP 2 rfl rfl 0 (by decide) (hts _ m_331) (fun _ h9 => h9) rfl dX10_cheapestHouse_13 ?_
  refine va_getN (D := D) (ci := 0) (v := .int v40_6) (C := RX0) (T := TX0) (N := 19) (host := "WordSeats") hx hb hts iX0 hown hK hP 3 rfl rfl 6 (by decide) (va_Nw.use rfl (hN _ n_141)) (fun _ h9 => h9) rfl dX10_cheapestHouse_16 ?_
  refine lv_ishl hx hb dX10_cheapestHouse_19 ?_
  refine lv_topi (fun x_8 ex_8 => ?_)
  have hx_8 : rg 1 512 x_8 := by rw [ex_8]; exact rg_shl1 (b := 9) r40_6 (by decide) (by decide)
  refine lv_icmp_ge (tgt := 58) hx hb dX10_cheapestHouse_20 (by decide) (fun c_9 => ?_) (fun c_9 => ?_)
  · skip
    refine lv_iload_n hx hb dX10_cheapestHouse_58 rfl (lv_at hl 2 rfl) ?_
    have hP9 := hP.sub (ws' := [(a 15, .inr (10, [.ref (a 40), .ref (a 123), .ref (a 124)])), (a 40, .inr (0, [.int v40_0, .int v40_1, .int v40_2, .int v40_3, .int v40_4, .int v40_5, .int v40_6, .int v40_7, .ref (a 41), .ref (a 42), .ref (a 43), .ref (a 44), .ref (a 45), .ref (a 46), .ref (a 47), .ref (a 48), .ref (a 49), .ref (a 50), .ref (a 54)])), (a 42, .inl (t 0, 9, .inl f42)), (a 43, .inl (t 0, 9, .inl f43)), (a 45, .inl (t 0, 9, .inl f45)), (a 47, .inl (t 0, 9, .inl f47)), (a 49, .inl (t 0, 9, .inl f49)), (a 50, .inr (5, [.int v50_0, .ref (a 51), .ref (a 52), .ref (a 53)])), (a 51, .inl (t 0, 8, .inl f51)), (a 52, .inl (t 0, 8, .inl f52)), (a 53, .inl (t 0, 8, .inl f53)), (a 54, .inr (9, [.int v54_0, .int v54_1, .int v54_2, .ref (a 55), .ref (a 56), .ref (a 57), .ref (a 58)])), (a 123, .inl (t 0, 8, .inl (y_3.2.1 0))), (a 124, .inl (t 0, 8, .inl (y_3.2.1 1)))]) [2, 3, 4, 0, 5, 6, 7, 8, 9, 10, 11, 1, 12, 13] rfl
    have hD9 := hD.sub (ws' := [(a 15, .inr (10, [.ref (a 40), .ref (a 123), .ref (a 124)])), (a 40, .inr (0, [.int v40_0, .int v40_1, .int v40_2, .int v40_3, .int v40_4, .int v40_5, .int v40_6, .int v40_7, .ref (a 41), .ref (a 42), .ref (a 43), .ref (a 44), .ref (a 45), .ref (a 46), .ref (a 47), .ref (a 48), .ref (a 49), .ref (a 50), .ref (a 54)])), (a 42, .inl (t 0, 9, .inl f42)), (a 43, .inl (t 0, 9, .inl f43)), (a 45, .inl (t 0, 9, .inl f45)), (a 47, .inl (t 0, 9, .inl f47)), (a 49, .inl (t 0, 9, .inl f49)), (a 50, .inr (5, [.int v50_0, .ref (a 51), .ref (a 52), .ref (a 53)])), (a 51, .inl (t 0, 8, .inl f51)), (a 52, .inl (t 0, 8, .inl f52)), (a 53, .inl (t 0, 8, .inl f53)), (a 54, .inr (9, [.int v54_0, .int v54_1, .int v54_2, .ref (a 55), .ref (a 56), .ref (a 57), .ref (a 58)])), (a 123, .inl (t 0, 8, .inl (y_3.2.1 0))), (a 124, .inl (t 0, 8, .inl (y_3.2.1 1)))]) [2, 3, 4, 0, 5, 6, 7, 8, 9, 10, 11, 1, 12, 13] (by decide) rfl
    exact W.iret (v := (y_3.1 2)) hx hb hr (fun t9 ht hW => ⟨⟨(y_3.1 2), (fun k => [].getD k 0, fun k => [(y_3.2.1 0), (y_3.2.1 1)].getD k (fun _ => 0), fun k => [].getD k (fun _ => 0), fun _ => 0), rfl, h_5, by rw [ht]; exact hP9, hD9⟩, hS.F ht⟩) hS.2.2 dX10_cheapestHouse_59
  · skip
    have h_10 : rg 1 511 (y_3.1 0) := ⟨(h_4).1, Int.le_trans (c_nleR c_9 hx_8) (by decide)⟩
    have h_11 : rg 2 512 x_8 := ⟨Int.le_trans (by decide) (c_nle c_9 h_4), (hx_8).2⟩
    refine lv_aload_n hx hb dX10_cheapestHouse_23 rfl (lv_at hl 3 rfl) ?_
    refine va_get (D := D) (ci := 10) (v := .ref (a 40)) (C := RX10) (T := TX10) (N := 3) hx hb hts iX10 hown hK hP 2 rfl rfl 0 (by decide) (hts _ m_331) (fun _ h9 => h9) rfl dX10_cheapestHouse_24 ?_
    refine lv_iload_n hx hb dX10_cheapestHouse_27 rfl (lv_at hl 0 rfl) ?_
    refine y_pV hF (s_X0_canSit_40 l D t a v40_0 v40_1 v40_2 v40_3 v40_4 v40_5 v40_6 v40_7 f43 v54_0 v54_1 v54_2 (y_3.1 0) r40_1 r40_5 r40_6 r40_7 q43 r54_0) m_1083 m_1084 m_1085 m_3 m_1086 hd_X0_canSit ⟨Nat.le_of_ble_eq_true rfl, Nat.le_of_ble_eq_true rfl⟩ hK hN hP hS [3, 0, 1] rfl 0 (ci := 0) rfl rfl rfl hl.1 rfl (Nat.le_of_ble_eq_true rfl) dX10_cheapestHouse_28 ⟨Nat.zero_le _, Nat.zero_le _⟩ (fun r_12 H locs hr_12 hP hS => ?_)
    refine lv_if_eq (tgt := 52) hx hb dX10_cheapestHouse_31 (by decide) (fun c_13 => ?_) (fun c_13 => ?_)
    · skip
      have h_14 : rg 0 0 r_12 := rg_eq c_13 (rg_c (x := 0) (k := 0) (by decide))
      obtain ⟨x_15, ex_15⟩ : ∃ y9 : Int32, y9 = (y_3.1 0) + 1 := ⟨_, rfl⟩
      have hx_15 : rg 2 512 x_15 := by rw [ex_15]; exact rg_add h_10 (rg_c (x := 1) (k := 1) (by decide)) (by decide) (by decide) (by decide) (by decide)
      have tx_15 : x_15.toInt = (y_3.1 0).toInt + 1 := by rw [ex_15]; exact inc_tk h_10 (by decide) (by decide) (by decide)
      refine lv_iinc (v := x_15) (lv' := [(3, .int x_15), (2, .int (y_3.1 1)), (1, .int (y_3.1 2)), (0, .ref (a 15))]) hx hb dX10_cheapestHouse_52 hl (k := 0) rfl (by rw [ex_15]; rfl) (by decide) rfl (fun ls hl => ?_)
      refine lv_goto (tgt := 10) hx hb dX10_cheapestHouse_55 (by decide) ?_
      exact ih_6 (fun k => [x_15, (y_3.1 1), (y_3.1 2)].getD k 0, fun k => [(y_3.2.1 0), (y_3.2.1 1)].getD k (fun _ => 0), fun k => [].getD k (fun _ => 0), fun k => [].getD k 0) _ _ ls ⟨(m_upk me_7 tx_15 (by decide)), (rg_w (c := 1) (d := 512) hx_15 (by decide) (by decide)), h_5, hP, hD, hS, (lv_sub hl [0, 1, 2, 3] rfl)⟩
    · skip
      have h_16 : rg 1 1 r_12 := rg_w (rg_neL hr_12 c_13 (by decide)) (by decide) (by decide)
      refine lv_aload_n hx hb dX10_cheapestHouse_34 rfl (lv_at hl 3 rfl) ?_
      refine lv_iload_n hx hb dX10_cheapestHouse_35 rfl (lv_at hl 0 rfl) ?_
      refine y_wVi (wr := [(a 43, .inl (t 0, 9, .inl f43)), (a 54, .inr (9, [.int v54_0, .int v54_1, .int v54_2, .ref (a 55), .ref (a 56), .ref (a 57), .ref (a 58)]))]) hF (s_X10_priceOfAll l D t a v40_0 v40_1 v40_2 v40_3 v40_4 v40_5 v40_6 v40_7 f42 f45 f47 f49 v50_0 f51 f52 f53 (y_3.2.1 0) (y_3.2.1 1) (y_3.1 0) r40_1 r40_5 r40_6 r40_7 r50_0 q51 q52 q53 H.size) m_1056 m_1034 m_1035 m_8 m_1036 hd_X10_priceOfAll ⟨Nat.le_of_ble_eq_true rfl, Nat.le_of_ble_eq_true rfl⟩ hK hN hP hD hS hA 0 (ci := 10) rfl rfl rfl [2, 3, 4, 5, 6, 7, 8, 9, 10, 11, 12, 13] [0, 1] rfl rfl (by decide) (by decide) (by decide) hl.1 rfl (Nat.le_of_ble_eq_true rfl) dX10_cheapestHouse_36 ⟨Nat.zero_le _, Nat.zero_le _⟩ (fun r_18 u_17 H locs hu_17 hP hD hS => ?_)
      have hP : va_P D classes [(a 43, .inl (t 0, 9, .inl f43)), (a 54, .inr (9, [.int v54_0, .int v54_1, .int v54_2, .ref (a 55), .ref (a 56), .ref (a 57), .ref (a 58)])), (a 15, .inr (10, [.ref (a 40), .ref (a 123), .ref (a 124)])), (a 40, .inr (0, [.int v40_0, .int v40_1, .int v40_2, .int v40_3, .int v40_4, .int v40_5, .int v40_6, .int v40_7, .ref (a 41), .ref (a 42), .ref (a 43), .ref (a 44), .ref (a 45), .ref (a 46), .ref (a 47), .ref (a 48), .ref (a 49), .ref (a 50), .ref (a 54)])), (a 42, .inl (t 0, 9, .inl f42)), (a 45, .inl (t 0, 9, .inl f45)), (a 47, .inl (t 0, 9, .inl f47)), (a 49, .inl (t 0, 9, .inl f49)), (a 50, .inr (5, [.int v50_0, .ref (a 51), .ref (a 52), .ref (a 53)])), (a 51, .inl (t 0, 8, .inl f51)), (a 52, .inl (t 0, 8, .inl f52)), (a 53, .inl (t 0, 8, .inl f53)), (a 123, .inl (t 0, 8, .inl (u_17.2.1 0))), (a 124, .inl (t 0, 8, .inl (u_17.2.1 1)))] H := hP
      have hD : va_D A [(a 43, .inl (t 0, 9, .inl f43)), (a 54, .inr (9, [.int v54_0, .int v54_1, .int v54_2, .ref (a 55), .ref (a 56), .ref (a 57), .ref (a 58)])), (a 15, .inr (10, [.ref (a 40), .ref (a 123), .ref (a 124)])), (a 40, .inr (0, [.int v40_0, .int v40_1, .int v40_2, .int v40_3, .int v40_4, .int v40_5, .int v40_6, .int v40_7, .ref (a 41), .ref (a 42), .ref (a 43), .ref (a 44), .ref (a 45), .ref (a 46), .ref (a 47), .ref (a 48), .ref (a 49), .ref (a 50), .ref (a 54)])), (a 42, .inl (t 0, 9, .inl f42)), (a 45, .inl (t 0, 9, .inl f45)), (a 47, .inl (t 0, 9, .inl f47)), (a 49, .inl (t 0, 9, .inl f49)), (a 50, .inr (5, [.int v50_0, .ref (a 51), .ref (a 52), .ref (a 53)])), (a 51, .inl (t 0, 8, .inl f51)), (a 52, .inl (t 0, 8, .inl f52)), (a 53, .inl (t 0, 8, .inl f53)), (a 123, .inl (t 0, 8, .inl (u_17.2.1 0))), (a 124, .inl (t 0, 8, .inl (u_17.2.1 1)))] := hD
      refine lv_istore (lv' := [(4, .int r_18), (3, .int (y_3.1 0)), (2, .int (y_3.1 1)), (1, .int (y_3.1 2)), (0, .ref (a 15))]) hx hb dX10_cheapestHouse_39 hl (by decide) rfl (fun ls hl => ?_)
      refine lv_iload hx hb dX10_cheapestHouse_41 (lv_at hl 0 rfl) ?_
      refine lv_iload_n hx hb dX10_cheapestHouse_43 rfl (lv_at hl 2 rfl) ?_
      refine lv_icmp_ge (tgt := 52) hx hb dX10_cheapestHouse_44 (by decide) (fun c_19 => ?_) (fun c_19 => ?_)
      · skip
        obtain ⟨x_20, ex_20⟩ : ∃ y9 : Int32, y9 = (y_3.1 0) + 1 := ⟨_, rfl⟩
        have hx_20 : rg 2 512 x_20 := by rw [ex_20]; exact rg_add h_10 (rg_c (x := 1) (k := 1) (by decide)) (by decide) (by decide) (by decide) (by decide)
        have tx_20 : x_20.toInt = (y_3.1 0).toInt + 1 := by rw [ex_20]; exact inc_tk h_10 (by decide) (by decide) (by decide)
        refine lv_iinc (v := x_20) (lv' := [(3, .int x_20), (4, .int r_18), (2, .int (y_3.1 1)), (1, .int (y_3.1 2)), (0, .ref (a 15))]) hx hb dX10_cheapestHouse_52 hl (k := 1) rfl (by rw [ex_20]; rfl) (by decide) rfl (fun ls hl => ?_)
        refine lv_goto (tgt := 10) hx hb dX10_cheapestHouse_55 (by decide) ?_
        exact ih_6 (fun k => [x_20, (y_3.1 1), (y_3.1 2)].getD k 0, fun k => [(u_17.2.1 0), (u_17.2.1 1)].getD k (fun _ => 0), fun k => [].getD k (fun _ => 0), fun k => [].getD k 0) _ _ ls ⟨(m_upk me_7 tx_20 (by decide)), (rg_w (c := 1) (d := 512) hx_20 (by decide) (by decide)), h_5, hP, hD, hS, (lv_sub hl [0, 2, 3, 4] rfl)⟩
      · skip
        have h_21 : rg (-2147483648) 2147483646 r_18 := ⟨((rg_any r_18)).1, Int.le_trans (c_nleR c_19 (rg_any (y_3.1 1))) (by decide)⟩
        have h_22 : rg (-2147483647) 2147483647 (y_3.1 1) := ⟨Int.le_trans (by decide) (c_nle c_19 (rg_any r_18)), ((rg_any (y_3.1 1))).2⟩
        refine lv_iload_n hx hb dX10_cheapestHouse_47 rfl (lv_at hl 1 rfl) ?_
        refine lv_istore_n (lv' := [(1, .int (y_3.1 0)), (4, .int r_18), (3, .int (y_3.1 0)), (2, .int (y_3.1 1)), (0, .ref (a 15))]) hx hb dX10_cheapestHouse_48 rfl hl (by decide) rfl (fun ls hl => ?_)
        refine lv_iload hx hb dX10_cheapestHouse_49 (lv_at hl 1 rfl) ?_
        refine lv_istore_n (lv' := [(2, .int r_18), (1, .int (y_3.1 0)), (4, .int r_18), (3, .int (y_3.1 0)), (0, .ref (a 15))]) hx hb dX10_cheapestHouse_51 rfl hl (by decide) rfl (fun ls hl => ?_)
        obtain ⟨x_23, ex_23⟩ : ∃ y9 : Int32, y9 = (y_3.1 0) + 1 := ⟨_, rfl⟩
        have hx_23 : rg 2 512 x_23 := by rw [ex_23]; exact rg_add h_10 (rg_c (x := 1) (k := 1) (by decide)) (by decide) (by decide) (by decide) (by decide)
        have tx_23 : x_23.toInt = (y_3.1 0).toInt + 1 := by rw [ex_23]; exact inc_tk h_10 (by decide) (by decide) (by decide)
        refine lv_iinc (v := x_23) (lv' := [(3, .int x_23), (2, .int r_18), (1, .int (y_3.1 0)), (4, .int r_18), (0, .ref (a 15))]) hx hb dX10_cheapestHouse_52 hl (k := 3) rfl (by rw [ex_23]; rfl) (by decide) rfl (fun ls hl => ?_)
        refine lv_goto (tgt := 10) hx hb dX10_cheapestHouse_55 (by decide) ?_
        exact ih_6 (fun k => [x_23, r_18, (y_3.1 0)].getD k 0, fun k => [(u_17.2.1 0), (u_17.2.1 1)].getD k (fun _ => 0), fun k => [].getD k (fun _ => 0), fun k => [].getD k 0) _ _ ls ⟨(m_upk me_7 tx_23 (by decide)), (rg_w (c := 1) (d := 512) hx_23 (by decide) (by decide)), (rg_w (c := 0) (d := 511) h_10 (by decide) (by decide)), hP, hD, hS, (lv_sub hl [0, 1, 2, 4] rfl)⟩

