set_option maxHeartbeats 4000000 in
set_option maxRecDepth 100000 in
theorem s_X3_seatsOf (l : Launch) (D : va_G) (t : Nat → ClassId) (a : Nat → Nat) (v40_0 : Int32) (v40_1 : Int32) (v40_2 : Int32) (v40_3 : Int32) (v40_4 : Int32) (v40_5 : Int32) (v40_6 : Int32) (v40_7 : Int32) (f41 : Nat → Int32) (f43 : Nat → Int32) (f44 : Nat → Int32) (v54_0 : Int32) (v54_1 : Int32) (v54_2 : Int32) (p0 : Int32) (r40_1 : rg 0 8 v40_1) (r40_5 : rg 0 4 v40_5) (r40_6 : rg 0 9 v40_6) (r40_7 : rg 0 9 v40_7) (q43 : ∀ j, j < 9 → rg 0 3 (f43 j)) (q44 : ∀ j, j < 9 → rg 0 3 (f44 j)) (r54_0 : rg 0 60 v54_0) : Met l yX3_seatsOf (wd yX3_seatsOf cX3_seatsOf 4 (some .int)) (RM 1 0 0) (PreP D (TY t) [.ref (a 16), .int p0] [(a 16, .inr (3, [.ref (a 40), .ref (a 125), .ref (a 126)])), (a 40, .inr (0, [.int v40_0, .int v40_1, .int v40_2, .int v40_3, .int v40_4, .int v40_5, .int v40_6, .int v40_7, .ref (a 41), .ref (a 42), .ref (a 43), .ref (a 44), .ref (a 45), .ref (a 46), .ref (a 47), .ref (a 48), .ref (a 49), .ref (a 50), .ref (a 54)])), (a 41, .inl (t 0, 4, .inl f41)), (a 43, .inl (t 0, 9, .inl f43)), (a 44, .inl (t 0, 9, .inl f44)), (a 54, .inr (9, [.int v54_0, .int v54_1, .int v54_2, .ref (a 55), .ref (a 56), .ref (a 57), .ref (a 58)]))]) (QP (fun _ => True)) 0 0 NoF := by
  refine Met.ofW (cc := cX3_seatsOf) (maxL := 4) (ret := (some .int)) (by decide) rfl ?_
  intro p e s m args below meth c s₁ B hml hv
  obtain ⟨rfl, hP, hK, hN⟩ := hv
  have hx := B.exec
  have hb := B.bytes
  have hr := B.returns
  have hts : ∀ w ∈ TB, w.before _ s = true := fun w h => atoms_spec (ws := wd yX3_seatsOf cX3_seatsOf 4 (some .int)) B.pre w (List.mem_cons_of_mem _ h)
  have hown : s.vm.findClass RX3 = some m.cls := findClass_of_methodNamed B.named
  have hlocks := B.notSynchronized
  have hF : CallFix p m c cX3_seatsOf 4 s _ TB RX3 := ⟨hx, hb, hml, hown, hts⟩
  have hl := lv_entry ([.ref (a 16), .int p0]) (n := 4) (Nat.le_of_ble_eq_true rfl)
  rw [lg_entry_eq]
  generalize (lg_sl ([.ref (a 16), .int p0]) ++ List.replicate (4 - (lg_sl ([.ref (a 16), .int p0])).length) Slot.unset).toArray = ls at hl ⊢
  have hl : lv_has ls 4 [(0, .ref (a 16)), (1, .int p0)] := hl
  have hS : va_S NoF s.heap s.heap [] := va_S.rf
  have hP : va_P D classes [(a 16, .inr (3, [.ref (a 40), .ref (a 125), .ref (a 126)])), (a 40, .inr (0, [.int v40_0, .int v40_1, .int v40_2, .int v40_3, .int v40_4, .int v40_5, .int v40_6, .int v40_7, .ref (a 41), .ref (a 42), .ref (a 43), .ref (a 44), .ref (a 45), .ref (a 46), .ref (a 47), .ref (a 48), .ref (a 49), .ref (a 50), .ref (a 54)])), (a 41, .inl (t 0, 4, .inl f41)), (a 43, .inl (t 0, 9, .inl f43)), (a 44, .inl (t 0, 9, .inl f44)), (a 54, .inr (9, [.int v54_0, .int v54_1, .int v54_2, .ref (a 55), .ref (a 56), .ref (a 57), .ref (a 58)]))] s.heap := hP
  refine lv_iconst (v := 0) hx hb dX3_seatsOf_0 (by decide) ?_
  refine lv_istore_n (lv' := [(2, .int 0), (0, .ref (a 16)), (1, .int p0)]) hx hb dX3_seatsOf_1 rfl hl (by decide) rfl (fun ls hl => ?_)
  refine lv_iconst (v := 0) hx hb dX3_seatsOf_2 (by decide) ?_
  refine lv_istore_n (lv' := [(3, .int 0), (2, .int 0), (0, .ref (a 16)), (1, .int p0)]) hx hb dX3_seatsOf_3 rfl hl (by decide) rfl (fun ls hl => ?_)
  refine loopW (α := US) (fun n y_1 H locs ls => 9 < (y_1.1 0).toInt + (n : Int) ∧ rg 0 9 (y_1.1 0) ∧ va_P D classes [(a 16, .inr (3, [.ref (a 40), .ref (a 125), .ref (a 126)])), (a 40, .inr (0, [.int v40_0, .int v40_1, .int v40_2, .int v40_3, .int v40_4, .int v40_5, .int v40_6, .int v40_7, .ref (a 41), .ref (a 42), .ref (a 43), .ref (a 44), .ref (a 45), .ref (a 46), .ref (a 47), .ref (a 48), .ref (a 49), .ref (a 50), .ref (a 54)])), (a 41, .inl (t 0, 4, .inl f41)), (a 43, .inl (t 0, 9, .inl f43)), (a 44, .inl (t 0, 9, .inl f44)), (a 54, .inr (9, [.int v54_0, .int v54_1, .int v54_2, .ref (a 55), .ref (a 56), .ref (a 57), .ref (a 58)]))] H ∧ va_S NoF s.heap H locs ∧ lv_has ls 4 [(3, .int (y_1.1 0)), (2, .int (y_1.1 1)), (0, .ref (a 16)), (1, .int p0)]) 4 (fun y_1 => []) (fun _ _ _ _ h9 => m_0 h9.1 h9.2.1) (fun n ih_3 y_1 H locs ls hI => ?_) 10 (fun k => [0, 0].getD k 0, fun k => [].getD k (fun _ => 0), fun k => [].getD k (fun _ => 0), fun k => [].getD k 0) ⟨(m_i (rg_c (x := 0) (k := 0) (by decide)) (by decide)), (rg_w (c := 0) (d := 9) (rg_c (x := 0) (k := 0) (by decide)) (by decide) (by decide)), hP, hS, (lv_sub hl [0, 1, 2, 3] rfl)⟩
  obtain ⟨me_4, h_2, hP, hS, hl⟩ := hI
  refine lv_iload_n hx hb dX3_seatsOf_4 rfl (lv_at hl 0 rfl) ?_
  refine lv_aload_n hx hb dX3_seatsOf_5 rfl (lv_at hl 2 rfl) ?_
  refine va_get (D := D) (ci := 3) (v := .ref (a 40)) (C := RX3) (T := TX3) (N := 3) hx hb hts iX3 hown hK hP 0 rfl rfl 0 (by decide) (hts _ m_349) (fun _ h9 => h9) rfl dX3_seatsOf_6 ?_
  refine va_getN (D := D) (ci := 0) (v := .int v40_6) (C := RX0) (T := TX0) (N := 19) (host := "WordSeats") hx hb hts iX0 hown hK hP 1 rfl rfl 6 (by decide) (va_Nw.use rfl (hN _ n_140)) (fun _ h9 => h9) rfl dX3_seatsOf_9 ?_
  refine lv_icmp_ge (tgt := 74) hx hb dX3_seatsOf_12 (by decide) (fun c_5 => ?_) (fun c_5 => ?_)
  · skip
    refine lv_iload_n hx hb dX3_seatsOf_74 rfl (lv_at hl 1 rfl) ?_
    exact W.iret (v := (y_1.1 1)) hx hb hr (fun t9 ht hW => ⟨⟨(y_1.1 1), (), rfl, trivial, trivial⟩, hS.F ht⟩) hS.2.2 dX3_seatsOf_75
  · skip
    have h_6 : rg 0 8 (y_1.1 0) := ⟨(h_2).1, Int.le_trans (c_nleR c_5 r40_6) (by decide)⟩
    have h_7 : rg 1 9 v40_6 := ⟨Int.le_trans (by decide) (c_nle c_5 h_2), (r40_6).2⟩
    refine lv_aload_n hx hb dX3_seatsOf_15 rfl (lv_at hl 2 rfl) ?_
    refine va_get (D := D) (ci := 3) (v := .ref (a 40)) (C := RX3) (T := TX3) (N := 3) hx hb hts iX3 hown hK hP 0 rfl rfl 0 (by decide) (hts _ m_349) (fun _ h9 => h9) rfl dX3_seatsOf_16 ?_
    refine va_getN (D := D) (ci := 0) (v := .ref (a 54)) (C := RX0) (T := TX0) (N := 19) (host := "WordSeats") hx hb hts iX0 hown hK hP 1 rfl rfl 18 (by decide) (va_Nw.use rfl (hN _ n_190)) (fun _ h9 => h9) rfl dX3_seatsOf_19 ?_
    refine va_getN (D := D) (ci := 9) (v := .int v54_1) (C := RX9) (T := TX9) (N := 7) (host := "WordSeats") hx hb hts iX9 hown hK hP 5 rfl rfl 1 (by decide) (va_Nw.use rfl (hN _ n_88)) (fun _ h9 => h9) rfl dX3_seatsOf_22 ?_
    refine lv_iload_n hx hb dX3_seatsOf_25 rfl (lv_at hl 0 rfl) ?_
    refine y_pSN hF (s_X11_holds l D t a v54_1 (y_1.1 0)) n_1122 m_707 m_1 m_708 hd_X11_holds ⟨Nat.le_of_ble_eq_true rfl, Nat.le_of_ble_eq_true rfl⟩ hK hN hP hS [] rfl hl.1 rfl (Nat.le_of_ble_eq_true rfl) dX3_seatsOf_26 ⟨Nat.zero_le _, Nat.zero_le _⟩ (fun r_8 H locs hr_8 hP hS => ?_)
    refine lv_if_eq (tgt := 68) hx hb dX3_seatsOf_29 (by decide) (fun c_9 => ?_) (fun c_9 => ?_)
    · skip
      have h_10 : rg 0 0 r_8 := rg_eq c_9 (rg_c (x := 0) (k := 0) (by decide))
      obtain ⟨x_11, ex_11⟩ : ∃ y9 : Int32, y9 = (y_1.1 0) + 1 := ⟨_, rfl⟩
      have hx_11 : rg 1 9 x_11 := by rw [ex_11]; exact rg_add h_6 (rg_c (x := 1) (k := 1) (by decide)) (by decide) (by decide) (by decide) (by decide)
      have tx_11 : x_11.toInt = (y_1.1 0).toInt + 1 := by rw [ex_11]; exact inc_tk h_6 (by decide) (by decide) (by decide)
      refine lv_iinc (v := x_11) (lv' := [(3, .int x_11), (2, .int (y_1.1 1)), (0, .ref (a 16)), (1, .int p0)]) hx hb dX3_seatsOf_68 hl (k := 0) rfl (by rw [ex_11]; rfl) (by decide) rfl (fun ls hl => ?_)
      refine lv_goto (tgt := 4) hx hb dX3_seatsOf_71 (by decide) ?_
      exact ih_3 (fun k => [x_11, (y_1.1 1)].getD k 0, fun k => [].getD k (fun _ => 0), fun k => [].getD k (fun _ => 0), fun k => [].getD k 0) _ _ ls ⟨(m_upk me_4 tx_11 (by decide)), (rg_w (c := 0) (d := 9) hx_11 (by decide) (by decide)), hP, hS, (lv_sub hl [0, 1, 2, 3] rfl)⟩
    · skip
      have h_12 : rg 1 1 r_8 := rg_w (rg_neL hr_8 c_9 (by decide)) (by decide) (by decide)
      refine lv_iload_n hx hb dX3_seatsOf_32 rfl (lv_at hl 3 rfl) ?_
      refine lv_aload_n hx hb dX3_seatsOf_33 rfl (lv_at hl 2 rfl) ?_
      refine va_get (D := D) (ci := 3) (v := .ref (a 40)) (C := RX3) (T := TX3) (N := 3) hx hb hts iX3 hown hK hP 0 rfl rfl 0 (by decide) (hts _ m_349) (fun _ h9 => h9) rfl dX3_seatsOf_34 ?_
      refine va_getN (D := D) (ci := 0) (v := .ref (a 44)) (C := RX0) (T := TX0) (N := 19) (host := "WordSeats") hx hb hts iX0 hown hK hP 1 rfl rfl 11 (by decide) (va_Nw.use rfl (hN _ n_165)) (fun _ h9 => h9) rfl dX3_seatsOf_37 ?_
      refine lv_iload_n hx hb dX3_seatsOf_40 rfl (lv_at hl 0 rfl) ?_
      refine va_iald hx hb hK hP 4 0 rfl rfl (in_rg h_6 (by decide) (by decide)) dX3_seatsOf_41 ?_
      refine lv_topi (fun x_13 ex_13 => ?_)
      have hx_13 : rg 0 3 x_13 := by rw [ex_13]; exact q44 _ (cl_rg h_6 (by decide) (by decide))
      refine y_pSN hF (s_X11_holds l D t a p0 x_13) n_1122 m_707 m_1 m_708 hd_X11_holds ⟨Nat.le_of_ble_eq_true rfl, Nat.le_of_ble_eq_true rfl⟩ hK hN hP hS [] rfl hl.1 rfl (Nat.le_of_ble_eq_true rfl) dX3_seatsOf_42 ⟨Nat.zero_le _, Nat.zero_le _⟩ (fun r_14 H locs hr_14 hP hS => ?_)
      refine lv_if_eq (tgt := 68) hx hb dX3_seatsOf_45 (by decide) (fun c_15 => ?_) (fun c_15 => ?_)
      · skip
        have h_16 : rg 0 0 r_14 := rg_eq c_15 (rg_c (x := 0) (k := 0) (by decide))
        obtain ⟨x_17, ex_17⟩ : ∃ y9 : Int32, y9 = (y_1.1 0) + 1 := ⟨_, rfl⟩
        have hx_17 : rg 1 9 x_17 := by rw [ex_17]; exact rg_add h_6 (rg_c (x := 1) (k := 1) (by decide)) (by decide) (by decide) (by decide) (by decide)
        have tx_17 : x_17.toInt = (y_1.1 0).toInt + 1 := by rw [ex_17]; exact inc_tk h_6 (by decide) (by decide) (by decide)
        refine lv_iinc (v := x_17) (lv' := [(3, .int x_17), (2, .int (y_1.1 1)), (0, .ref (a 16)), (1, .int p0)]) hx hb dX3_seatsOf_68 hl (k := 0) rfl (by rw [ex_17]; rfl) (by decide) rfl (fun ls hl => ?_)
        refine lv_goto (tgt := 4) hx hb dX3_seatsOf_71 (by decide) ?_
        exact ih_3 (fun k => [x_17, (y_1.1 1)].getD k 0, fun k => [].getD k (fun _ => 0), fun k => [].getD k (fun _ => 0), fun k => [].getD k 0) _ _ ls ⟨(m_upk me_4 tx_17 (by decide)), (rg_w (c := 0) (d := 9) hx_17 (by decide) (by decide)), hP, hS, (lv_sub hl [0, 1, 2, 3] rfl)⟩
      · skip
        have h_18 : rg 1 1 r_14 := rg_w (rg_neL hr_14 c_15 (by decide)) (by decide) (by decide)
        refine lv_iload_n hx hb dX3_seatsOf_48 rfl (lv_at hl 1 rfl) ?_
        refine lv_aload_n hx hb dX3_seatsOf_49 rfl (lv_at hl 2 rfl) ?_
        refine va_get (D := D) (ci := 3) (v := .ref (a 40)) (C := RX3) (T := TX3) (N := 3) hx hb hts iX3 hown hK hP 0 rfl rfl 0 (by decide) (hts _ m_349) (fun _ h9 => h9) rfl dX3_seatsOf_50 ?_
        refine va_getN (D := D) (ci := 0) (v := .ref (a 41)) (C := RX0) (T := TX0) (N := 19) (host := "WordSeats") hx hb hts iX0 hown hK hP 1 rfl rfl 8 (by decide) (va_Nw.use rfl (hN _ n_154)) (fun _ h9 => h9) rfl dX3_seatsOf_53 ?_
        refine lv_aload_n hx hb dX3_seatsOf_56 rfl (lv_at hl 2 rfl) ?_
        refine va_get (D := D) (ci := 3) (v := .ref (a 40)) (C := RX3) (T := TX3) (N := 3) hx hb hts iX3 hown hK hP 0 rfl rfl 0 (by decide) (hts _ m_349) (fun _ h9 => h9) rfl dX3_seatsOf_57 ?_
        refine va_getN (D := D) (ci := 0) (v := .ref (a 43)) (C := RX0) (T := TX0) (N := 19) (host := "WordSeats") hx hb hts iX0 hown hK hP 1 rfl rfl 10 (by decide) (va_Nw.use rfl (hN _ n_161)) (fun _ h9 => h9) rfl dX3_seatsOf_60 ?_
        refine lv_iload_n hx hb dX3_seatsOf_63 rfl (lv_at hl 0 rfl) ?_
        refine va_iald hx hb hK hP 3 0 rfl rfl (in_rg h_6 (by decide) (by decide)) dX3_seatsOf_64 ?_
        refine lv_topi (fun x_19 ex_19 => ?_)
        have hx_19 : rg 0 3 x_19 := by rw [ex_19]; exact q43 _ (cl_rg h_6 (by decide) (by decide))
        refine va_iald hx hb hK hP 2 0 rfl rfl (in_rg hx_19 (by decide) (by decide)) dX3_seatsOf_65 ?_
        refine lv_topi (fun x_20 ex_20 => ?_)
        refine lv_iadd hx hb dX3_seatsOf_66 ?_
        refine lv_topi (fun x_21 ex_21 => ?_)
        refine lv_istore_n (lv' := [(2, .int x_21), (3, .int (y_1.1 0)), (0, .ref (a 16)), (1, .int p0)]) hx hb dX3_seatsOf_67 rfl hl (by decide) rfl (fun ls hl => ?_)
        obtain ⟨x_22, ex_22⟩ : ∃ y9 : Int32, y9 = (y_1.1 0) + 1 := ⟨_, rfl⟩
        have hx_22 : rg 1 9 x_22 := by rw [ex_22]; exact rg_add h_6 (rg_c (x := 1) (k := 1) (by decide)) (by decide) (by decide) (by decide) (by decide)
        have tx_22 : x_22.toInt = (y_1.1 0).toInt + 1 := by rw [ex_22]; exact inc_tk h_6 (by decide) (by decide) (by decide)
        refine lv_iinc (v := x_22) (lv' := [(3, .int x_22), (2, .int x_21), (0, .ref (a 16)), (1, .int p0)]) hx hb dX3_seatsOf_68 hl (k := 1) rfl (by rw [ex_22]; rfl) (by decide) rfl (fun ls hl => ?_)
        refine lv_goto (tgt := 4) hx hb dX3_seatsOf_71 (by decide) ?_
        exact ih_3 (fun k => [x_22, x_21].getD k 0, fun k => [].getD k (fun _ => 0), fun k => [].getD k (fun _ => 0), fun k => [].getD k 0) _ _ ls ⟨(m_upk me_4 tx_22 (by decide)), (rg_w (c := 0) (d := 9) hx_22 (by decide) (by decide)), hP, hS, (lv_sub hl [0, 1, 2, 3] rfl)⟩

set_option maxHeartbeats 4000000 in
set_option maxRecDepth 100000 in
theorem s_X3_rule (l : Launch) (D : va_G) (t : Nat → ClassId) (a : Nat → Nat) (v40_0 : Int32) (v40_1 : Int32) (v40_2 : Int32) (v40_3 : Int32) (v40_4 : Int32) (v40_5 : Int32) (v40_6 : Int32) (v40_7 : Int32) (f41 : Nat → Int32) (f43 : Nat → Int32) (f44 : Nat → Int32) (v54_0 : Int32) (v54_1 : Int32) (v54_2 : Int32) (p0 : Int32) (r40_1 : rg 0 8 v40_1) (r40_5 : rg 0 4 v40_5) (r40_6 : rg 0 9 v40_6) (r40_7 : rg 0 9 v40_7) (q43 : ∀ j, j < 9 → rg 0 3 (f43 j)) (q44 : ∀ j, j < 9 → rg 0 3 (f44 j)) (r54_0 : rg 0 60 v54_0) : Met l yX3_rule (wd yX3_rule cX3_rule 4 (some .boolean)) (RM 2 0 0) (PreP D (TY t) [.ref (a 16), .int p0] [(a 16, .inr (3, [.ref (a 40), .ref (a 125), .ref (a 126)])), (a 40, .inr (0, [.int v40_0, .int v40_1, .int v40_2, .int v40_3, .int v40_4, .int v40_5, .int v40_6, .int v40_7, .ref (a 41), .ref (a 42), .ref (a 43), .ref (a 44), .ref (a 45), .ref (a 46), .ref (a 47), .ref (a 48), .ref (a 49), .ref (a 50), .ref (a 54)])), (a 41, .inl (t 0, 4, .inl f41)), (a 43, .inl (t 0, 9, .inl f43)), (a 44, .inl (t 0, 9, .inl f44)), (a 54, .inr (9, [.int v54_0, .int v54_1, .int v54_2, .ref (a 55), .ref (a 56), .ref (a 57), .ref (a 58)]))]) (QP (fun r => rg 0 1 r)) 0 0 NoF := by
  refine Met.ofW (cc := cX3_rule) (maxL := 4) (ret := (some .boolean)) (by decide) rfl ?_
  intro p e s m args below meth c s₁ B hml hv
  obtain ⟨rfl, hP, hK, hN⟩ := hv
  have hx := B.exec
  have hb := B.bytes
  have hr := B.returns
  have hts : ∀ w ∈ TB, w.before _ s = true := fun w h => atoms_spec (ws := wd yX3_rule cX3_rule 4 (some .boolean)) B.pre w (List.mem_cons_of_mem _ h)
  have hown : s.vm.findClass RX3 = some m.cls := findClass_of_methodNamed B.named
  have hlocks := B.notSynchronized
  have hF : CallFix p m c cX3_rule 4 s _ TB RX3 := ⟨hx, hb, hml, hown, hts⟩
  have hl := lv_entry ([.ref (a 16), .int p0]) (n := 4) (Nat.le_of_ble_eq_true rfl)
  rw [lg_entry_eq]
  generalize (lg_sl ([.ref (a 16), .int p0]) ++ List.replicate (4 - (lg_sl ([.ref (a 16), .int p0])).length) Slot.unset).toArray = ls at hl ⊢
  have hl : lv_has ls 4 [(0, .ref (a 16)), (1, .int p0)] := hl
  have hS : va_S NoF s.heap s.heap [] := va_S.rf
  have hP : va_P D classes [(a 16, .inr (3, [.ref (a 40), .ref (a 125), .ref (a 126)])), (a 40, .inr (0, [.int v40_0, .int v40_1, .int v40_2, .int v40_3, .int v40_4, .int v40_5, .int v40_6, .int v40_7, .ref (a 41), .ref (a 42), .ref (a 43), .ref (a 44), .ref (a 45), .ref (a 46), .ref (a 47), .ref (a 48), .ref (a 49), .ref (a 50), .ref (a 54)])), (a 41, .inl (t 0, 4, .inl f41)), (a 43, .inl (t 0, 9, .inl f43)), (a 44, .inl (t 0, 9, .inl f44)), (a 54, .inr (9, [.int v54_0, .int v54_1, .int v54_2, .ref (a 55), .ref (a 56), .ref (a 57), .ref (a 58)]))] s.heap := hP
  refine lv_iconst (v := 0) hx hb dX3_rule_0 (by decide) ?_
  refine lv_istore_n (lv' := [(2, .int 0), (0, .ref (a 16)), (1, .int p0)]) hx hb dX3_rule_1 rfl hl (by decide) rfl (fun ls hl => ?_)
  refine lv_iconst (v := 0) hx hb dX3_rule_2 (by decide) ?_
  refine lv_istore_n (lv' := [(3, .int 0), (2, .int 0), (0, .ref (a 16)), (1, .int p0)]) hx hb dX3_rule_3 rfl hl (by decide) rfl (fun ls hl => ?_)
  refine loopW (α := US) (fun n y_1 H locs ls => 4 < (y_1.1 0).toInt + (n : Int) ∧ rg 0 4 (y_1.1 0) ∧ va_P D classes [(a 16, .inr (3, [.ref (a 40), .ref (a 125), .ref (a 126)])), (a 40, .inr (0, [.int v40_0, .int v40_1, .int v40_2, .int v40_3, .int v40_4, .int v40_5, .int v40_6, .int v40_7, .ref (a 41), .ref (a 42), .ref (a 43), .ref (a 44), .ref (a 45), .ref (a 46), .ref (a 47), .ref (a 48), .ref (a 49), .ref (a 50), .ref (a 54)])), (a 41, .inl (t 0, 4, .inl f41)), (a 43, .inl (t 0, 9, .inl f43)), (a 44, .inl (t 0, 9, .inl f44)), (a 54, .inr (9, [.int v54_0, .int v54_1, .int v54_2, .ref (a 55), .ref (a 56), .ref (a 57), .ref (a 58)]))] H ∧ va_S NoF s.heap H locs ∧ lv_has ls 4 [(3, .int (y_1.1 0)), (2, .int (y_1.1 1)), (0, .ref (a 16)), (1, .int p0)]) 4 (fun y_1 => []) (fun _ _ _ _ h9 => m_0 h9.1 h9.2.1) (fun n ih_3 y_1 H locs ls hI => ?_) 5 (fun k => [0, 0].getD k 0, fun k => [].getD k (fun _ => 0), fun k => [].getD k (fun _ => 0), fun k => [].getD k 0) ⟨(m_i (rg_c (x := 0) (k := 0) (by decide)) (by decide)), (rg_w (c := 0) (d := 4) (rg_c (x := 0) (k := 0) (by decide)) (by decide) (by decide)), hP, hS, (lv_sub hl [0, 1, 2, 3] rfl)⟩
  obtain ⟨me_4, h_2, hP, hS, hl⟩ := hI
  refine lv_iload_n hx hb dX3_rule_4 rfl (lv_at hl 0 rfl) ?_
  refine lv_aload_n hx hb dX3_rule_5 rfl (lv_at hl 2 rfl) ?_
  refine va_get (D := D) (ci := 3) (v := .ref (a 40)) (C := RX3) (T := TX3) (N := 3) hx hb hts iX3 hown hK hP 0 rfl rfl 0 (by decide) (hts _ m_349) (fun _ h9 => h9) rfl dX3_rule_6 ?_
  refine va_getN (D := D) (ci := 0) (v := .int v40_5) (C := RX0) (T := TX0) (N := 19) (host := "WordSeats") hx hb hts iX0 hown hK hP 1 rfl rfl 5 (by decide) (va_Nw.use rfl (hN _ n_136)) (fun _ h9 => h9) rfl dX3_rule_9 ?_
  refine lv_icmp_ge (tgt := 33) hx hb dX3_rule_12 (by decide) (fun c_5 => ?_) (fun c_5 => ?_)
  · skip
    refine lv_iconst (v := 2) hx hb dX3_rule_33 (by decide) ?_
    refine lv_aload_n hx hb dX3_rule_34 rfl (lv_at hl 2 rfl) ?_
    refine lv_iload_n hx hb dX3_rule_35 rfl (lv_at hl 3 rfl) ?_
    refine y_pV hF (s_X3_seatsOf l D t a v40_0 v40_1 v40_2 v40_3 v40_4 v40_5 v40_6 v40_7 f41 f43 f44 v54_0 v54_1 v54_2 p0 r40_1 r40_5 r40_6 r40_7 q43 q44 r54_0) m_1131 m_1119 m_1120 m_9 m_1121 hd_X3_seatsOf ⟨Nat.le_of_ble_eq_true rfl, Nat.le_of_ble_eq_true rfl⟩ hK hN hP hS [0, 1, 2, 3, 4, 5] rfl 0 (ci := 3) rfl rfl rfl hl.1 rfl (Nat.le_of_ble_eq_true rfl) dX3_rule_36 ⟨Nat.zero_le _, Nat.zero_le _⟩ (fun r_6 H locs hr_6 hP hS => ?_)
    refine lv_imul hx hb dX3_rule_39 ?_
    refine lv_topi (fun x_7 ex_7 => ?_)
    refine lv_iload_n hx hb dX3_rule_40 rfl (lv_at hl 1 rfl) ?_
    refine lv_icmp_le (tgt := 48) hx hb dX3_rule_41 (by decide) (fun c_8 => ?_) (fun c_8 => ?_)
    · skip
      refine lv_iconst (v := 0) hx hb dX3_rule_48 (by decide) ?_
      exact W.zret (v := 0) hx hb hr rfl (fun t9 ht hW => ⟨⟨0, (), rfl, (rg_w (c := 0) (d := 1) (rg_c (x := 0) (k := 0) (by decide)) (by decide) (by decide)), trivial⟩, hS.F ht⟩) hS.2.2 dX3_rule_49
    · skip
      have h_9 : rg (-2147483647) 2147483647 x_7 := ⟨Int.le_trans (by decide) (c_nle c_8 (rg_any (y_1.1 1))), ((rg_any x_7)).2⟩
      have h_10 : rg (-2147483648) 2147483646 (y_1.1 1) := ⟨((rg_any (y_1.1 1))).1, Int.le_trans (c_nleR c_8 (rg_any x_7)) (by decide)⟩
      refine lv_iconst (v := 1) hx hb dX3_rule_44 (by decide) ?_
      refine lv_goto (tgt := 49) hx hb dX3_rule_45 (by decide) ?_
      exact W.zret (v := 1) hx hb hr rfl (fun t9 ht hW => ⟨⟨1, (), rfl, (rg_w (c := 0) (d := 1) (rg_c (x := 1) (k := 1) (by decide)) (by decide) (by decide)), trivial⟩, hS.F ht⟩) hS.2.2 dX3_rule_49
  · skip
    have h_11 : rg 0 3 (y_1.1 0) := ⟨(h_2).1, Int.le_trans (c_nleR c_5 r40_5) (by decide)⟩
    have h_12 : rg 1 4 v40_5 := ⟨Int.le_trans (by decide) (c_nle c_5 h_2), (r40_5).2⟩
    refine lv_iload_n hx hb dX3_rule_15 rfl (lv_at hl 1 rfl) ?_
    refine lv_aload_n hx hb dX3_rule_16 rfl (lv_at hl 2 rfl) ?_
    refine va_get (D := D) (ci := 3) (v := .ref (a 40)) (C := RX3) (T := TX3) (N := 3) hx hb hts iX3 hown hK hP 0 rfl rfl 0 (by decide) (hts _ m_349) (fun _ h9 => h9) rfl dX3_rule_17 ?_
    refine va_getN (D := D) (ci := 0) (v := .ref (a 41)) (C := RX0) (T := TX0) (N := 19) (host := "WordSeats") hx hb hts iX0 hown hK hP 1 rfl rfl 8 (by decide) (va_Nw.use rfl (hN _ n_154)) (fun _ h9 => h9) rfl dX3_rule_20 ?_
    refine lv_iload_n hx hb dX3_rule_23 rfl (lv_at hl 0 rfl) ?_
    refine va_iald hx hb hK hP 2 0 rfl rfl (in_rg h_11 (by decide) (by decide)) dX3_rule_24 ?_
    refine lv_topi (fun x_13 ex_13 => ?_)
    refine lv_iadd hx hb dX3_rule_25 ?_
    refine lv_topi (fun x_14 ex_14 => ?_)
    refine lv_istore_n (lv' := [(2, .int x_14), (3, .int (y_1.1 0)), (0, .ref (a 16)), (1, .int p0)]) hx hb dX3_rule_26 rfl hl (by decide) rfl (fun ls hl => ?_)
    obtain ⟨x_15, ex_15⟩ : ∃ y9 : Int32, y9 = (y_1.1 0) + 1 := ⟨_, rfl⟩
    have hx_15 : rg 1 4 x_15 := by rw [ex_15]; exact rg_add h_11 (rg_c (x := 1) (k := 1) (by decide)) (by decide) (by decide) (by decide) (by decide)
    have tx_15 : x_15.toInt = (y_1.1 0).toInt + 1 := by rw [ex_15]; exact inc_tk h_11 (by decide) (by decide) (by decide)
    refine lv_iinc (v := x_15) (lv' := [(3, .int x_15), (2, .int x_14), (0, .ref (a 16)), (1, .int p0)]) hx hb dX3_rule_27 hl (k := 1) rfl (by rw [ex_15]; rfl) (by decide) rfl (fun ls hl => ?_)
    refine lv_goto (tgt := 4) hx hb dX3_rule_30 (by decide) ?_
    exact ih_3 (fun k => [x_15, x_14].getD k 0, fun k => [].getD k (fun _ => 0), fun k => [].getD k (fun _ => 0), fun k => [].getD k 0) _ _ ls ⟨(m_upk me_4 tx_15 (by decide)), (rg_w (c := 0) (d := 4) hx_15 (by decide) (by decide)), hP, hS, (lv_sub hl [0, 1, 2, 3] rfl)⟩

set_option maxHeartbeats 4000000 in
set_option maxRecDepth 100000 in
theorem s_X3_turns (l : Launch) (D : va_G) (t : Nat → ClassId) (a : Nat → Nat) (aK aV : Nat → Nat) (v40_0 : Int32) (v40_1 : Int32) (v40_2 : Int32) (v40_3 : Int32) (v40_4 : Int32) (v40_5 : Int32) (v40_6 : Int32) (v40_7 : Int32) (f41 : Nat → Int32) (f43 : Nat → Int32) (f44 : Nat → Int32) (v54_0 : Int32) (v54_1 : Int32) (v54_2 : Int32) (p0 : Int32) (r40_1 : rg 0 8 v40_1) (r40_5 : rg 0 4 v40_5) (r40_6 : rg 0 9 v40_6) (r40_7 : rg 0 9 v40_7) (q43 : ∀ j, j < 9 → rg 0 3 (f43 j)) (q44 : ∀ j, j < 9 → rg 0 3 (f44 j)) (r54_0 : rg 0 60 v54_0) (rp0 : rg 0 3 p0) : Met l yX3_turns (wd yX3_turns cX3_turns 4 (some .int)) (RM 3 0 0) (PrePE D (TY t) aK aV [.ref (a 16), .int p0] [(a 16, .inr (3, [.ref (a 40), .ref (a 125), .ref (a 126)])), (a 40, .inr (0, [.int v40_0, .int v40_1, .int v40_2, .int v40_3, .int v40_4, .int v40_5, .int v40_6, .int v40_7, .ref (a 41), .ref (a 42), .ref (a 43), .ref (a 44), .ref (a 45), .ref (a 46), .ref (a 47), .ref (a 48), .ref (a 49), .ref (a 50), .ref (a 54)])), (a 41, .inl (t 0, 4, .inl f41)), (a 43, .inl (t 0, 9, .inl f43)), (a 44, .inl (t 0, 9, .inl f44)), (a 54, .inr (9, [.int v54_0, .int v54_1, .int v54_2, .ref (a 55), .ref (a 56), .ref (a 57), .ref (a 58)]))]) (QP (fun _ => True)) 0 0 NoF := by
  refine Met.ofW (cc := cX3_turns) (maxL := 4) (ret := (some .int)) (by decide) rfl ?_
  intro p e s m args below meth c s₁ B hml hv
  obtain ⟨rfl, ⟨hP, hK, hN⟩, hE⟩ := hv
  have hx := B.exec
  have hb := B.bytes
  have hr := B.returns
  have hts : ∀ w ∈ TB, w.before _ s = true := fun w h => atoms_spec (ws := wd yX3_turns cX3_turns 4 (some .int)) B.pre w (List.mem_cons_of_mem _ h)
  have hown : s.vm.findClass RX3 = some m.cls := findClass_of_methodNamed B.named
  have hlocks := B.notSynchronized
  have hF : CallFix p m c cX3_turns 4 s _ TB RX3 := ⟨hx, hb, hml, hown, hts⟩
  have hl := lv_entry ([.ref (a 16), .int p0]) (n := 4) (Nat.le_of_ble_eq_true rfl)
  rw [lg_entry_eq]
  generalize (lg_sl ([.ref (a 16), .int p0]) ++ List.replicate (4 - (lg_sl ([.ref (a 16), .int p0])).length) Slot.unset).toArray = ls at hl ⊢
  have hl : lv_has ls 4 [(0, .ref (a 16)), (1, .int p0)] := hl
  have hS : va_S NoF s.heap s.heap [] := va_S.rf
  have hP : va_P D classes [(a 16, .inr (3, [.ref (a 40), .ref (a 125), .ref (a 126)])), (a 40, .inr (0, [.int v40_0, .int v40_1, .int v40_2, .int v40_3, .int v40_4, .int v40_5, .int v40_6, .int v40_7, .ref (a 41), .ref (a 42), .ref (a 43), .ref (a 44), .ref (a 45), .ref (a 46), .ref (a 47), .ref (a 48), .ref (a 49), .ref (a 50), .ref (a 54)])), (a 41, .inl (t 0, 4, .inl f41)), (a 43, .inl (t 0, 9, .inl f43)), (a 44, .inl (t 0, 9, .inl f44)), (a 54, .inr (9, [.int v54_0, .int v54_1, .int v54_2, .ref (a 55), .ref (a 56), .ref (a 57), .ref (a 58)]))] s.heap := hP
  refine lv_iconst (v := 0) hx hb dX3_turns_0 (by decide) ?_
  refine lv_istore_n (lv' := [(2, .int 0), (0, .ref (a 16)), (1, .int p0)]) hx hb dX3_turns_1 rfl hl (by decide) rfl (fun ls hl => ?_)
  refine lv_iconst (v := 0) hx hb dX3_turns_2 (by decide) ?_
  refine lv_istore_n (lv' := [(3, .int 0), (2, .int 0), (0, .ref (a 16)), (1, .int p0)]) hx hb dX3_turns_3 rfl hl (by decide) rfl (fun ls hl => ?_)
  refine loopW (α := US) (fun n y_1 H locs ls => 16 < (y_1.1 0).toInt + (n : Int) ∧ rg 0 16 (y_1.1 0) ∧ va_P D classes [(a 16, .inr (3, [.ref (a 40), .ref (a 125), .ref (a 126)])), (a 40, .inr (0, [.int v40_0, .int v40_1, .int v40_2, .int v40_3, .int v40_4, .int v40_5, .int v40_6, .int v40_7, .ref (a 41), .ref (a 42), .ref (a 43), .ref (a 44), .ref (a 45), .ref (a 46), .ref (a 47), .ref (a 48), .ref (a 49), .ref (a 50), .ref (a 54)])), (a 41, .inl (t 0, 4, .inl f41)), (a 43, .inl (t 0, 9, .inl f43)), (a 44, .inl (t 0, 9, .inl f44)), (a 54, .inr (9, [.int v54_0, .int v54_1, .int v54_2, .ref (a 55), .ref (a 56), .ref (a 57), .ref (a 58)]))] H ∧ va_S NoF s.heap H locs ∧ lv_has ls 4 [(3, .int (y_1.1 0)), (2, .int (y_1.1 1)), (0, .ref (a 16)), (1, .int p0)]) 4 (fun y_1 => []) (fun _ _ _ _ h9 => m_0 h9.1 h9.2.1) (fun n ih_3 y_1 H locs ls hI => ?_) 17 (fun k => [0, 0].getD k 0, fun k => [].getD k (fun _ => 0), fun k => [].getD k (fun _ => 0), fun k => [].getD k 0) ⟨(m_i (rg_c (x := 0) (k := 0) (by decide)) (by decide)), (rg_w (c := 0) (d := 16) (rg_c (x := 0) (k := 0) (by decide)) (by decide) (by decide)), hP, hS, (lv_sub hl [0, 1, 2, 3] rfl)⟩
  obtain ⟨me_4, h_2, hP, hS, hl⟩ := hI
  refine lv_iload_n hx hb dX3_turns_4 rfl (lv_at hl 0 rfl) ?_
  refine lv_bipush (v := 16) hx hb dX3_turns_5 (by decide) ?_
  refine lv_icmp_ge (tgt := 55) hx hb dX3_turns_7 (by decide) (fun c_5 => ?_) (fun c_5 => ?_)
  · skip
    have zc_6 : (16 : Int32).toInt = 16 := by decide
    have tc_5 := t_le c_5
    have h_7 : rg 16 16 (y_1.1 0) := ⟨Int.le_trans (by decide) (c_leR c_5 (rg_c (x := 16) (k := 16) (by decide))), (h_2).2⟩
    refine lv_iload_n hx hb dX3_turns_55 rfl (lv_at hl 1 rfl) ?_
    exact W.iret (v := (y_1.1 1)) hx hb hr (fun t9 ht hW => ⟨⟨(y_1.1 1), (), rfl, trivial, trivial⟩, hS.F ht⟩) hS.2.2 dX3_turns_56
  · skip
    have zc_8 : (16 : Int32).toInt = 16 := by decide
    have tc_5 := t_nle c_5
    have h_9 : rg 0 15 (y_1.1 0) := ⟨(h_2).1, Int.le_trans (c_nleR c_5 (rg_c (x := 16) (k := 16) (by decide))) (by decide)⟩
    refine lv_iload_n hx hb dX3_turns_10 rfl (lv_at hl 0 rfl) ?_
    refine lv_iload_n hx hb dX3_turns_11 rfl (lv_at hl 3 rfl) ?_
    refine y_pSN hF (s_X11_holdsV l D t a (y_1.1 0) p0) n_1122 m_707 m_1 m_708 hd_X11_holds ⟨Nat.le_of_ble_eq_true rfl, Nat.le_of_ble_eq_true rfl⟩ hK hN hP hS [] rfl hl.1 rfl (Nat.le_of_ble_eq_true rfl) dX3_turns_12 ⟨Nat.zero_le _, Nat.zero_le _⟩ (fun r_10 H locs hr_10 hP hS => ?_)
    have or_10 := hr_10.2
    refine lv_if_ne (tgt := 49) hx hb dX3_turns_15 (by decide) (fun c_11 => ?_) (fun c_11 => ?_)
    · skip
      have zc_12 : (0 : Int32).toInt = 0 := rfl
      have tc_11 : ¬ (r_10 : Int32).toInt = (0 : Int32).toInt := fun z9 => c_11 (Int32.toInt_inj.mp z9)
      have h_13 : rg 1 1 r_10 := rg_w (rg_neL hr_10.1 c_11 (by decide)) (by decide) (by decide)
      obtain ⟨x_14, ex_14⟩ : ∃ y9 : Int32, y9 = (y_1.1 0) + 1 := ⟨_, rfl⟩
      have hx_14 : rg 1 16 x_14 := by rw [ex_14]; exact rg_add h_9 (rg_c (x := 1) (k := 1) (by decide)) (by decide) (by decide) (by decide) (by decide)
      have tx_14 : x_14.toInt = (y_1.1 0).toInt + 1 := by rw [ex_14]; exact inc_tk h_9 (by decide) (by decide) (by decide)
      refine lv_iinc (v := x_14) (lv' := [(3, .int x_14), (2, .int (y_1.1 1)), (0, .ref (a 16)), (1, .int p0)]) hx hb dX3_turns_49 hl (k := 0) rfl (by rw [ex_14]; rfl) (by decide) rfl (fun ls hl => ?_)
      refine lv_goto (tgt := 4) hx hb dX3_turns_52 (by decide) ?_
      exact ih_3 (fun k => [x_14, (y_1.1 1)].getD k 0, fun k => [].getD k (fun _ => 0), fun k => [].getD k (fun _ => 0), fun k => [].getD k 0) _ _ ls ⟨(m_upk me_4 tx_14 (by decide)), (rg_w (c := 0) (d := 16) hx_14 (by decide) (by decide)), hP, hS, (lv_sub hl [0, 1, 2, 3] rfl)⟩
    · skip
      have zc_15 : (0 : Int32).toInt = 0 := rfl
      have tc_11 : (r_10 : Int32).toInt = (0 : Int32).toInt := congrArg Int32.toInt (by first | exact c_11 | exact Classical.not_not.mp c_11)
      have h_16 : rg 0 0 r_10 := rg_eq c_11 (rg_c (x := 0) (k := 0) (by decide))
      refine lv_aload_n hx hb dX3_turns_18 rfl (lv_at hl 2 rfl) ?_
      refine lv_iload_n hx hb dX3_turns_19 rfl (lv_at hl 0 rfl) ?_
      refine y_pV hF (s_X3_rule l D t a v40_0 v40_1 v40_2 v40_3 v40_4 v40_5 v40_6 v40_7 f41 f43 f44 v54_0 v54_1 v54_2 (y_1.1 0) r40_1 r40_5 r40_6 r40_7 q43 q44 r54_0) m_1140 m_1128 m_1129 m_9 m_1130 hd_X3_rule ⟨Nat.le_of_ble_eq_true rfl, Nat.le_of_ble_eq_true rfl⟩ hK hN hP hS [0, 1, 2, 3, 4, 5] rfl 0 (ci := 3) rfl rfl rfl hl.1 rfl (Nat.le_of_ble_eq_true rfl) dX3_turns_20 ⟨Nat.zero_le _, Nat.zero_le _⟩ (fun r_17 H locs hr_17 hP hS => ?_)
      refine lv_if_ne (tgt := 49) hx hb dX3_turns_23 (by decide) (fun c_18 => ?_) (fun c_18 => ?_)
      · skip
        have zc_19 : (0 : Int32).toInt = 0 := rfl
        have tc_18 : ¬ (r_17 : Int32).toInt = (0 : Int32).toInt := fun z9 => c_18 (Int32.toInt_inj.mp z9)
        have h_20 : rg 1 1 r_17 := rg_w (rg_neL hr_17 c_18 (by decide)) (by decide) (by decide)
        obtain ⟨x_21, ex_21⟩ : ∃ y9 : Int32, y9 = (y_1.1 0) + 1 := ⟨_, rfl⟩
        have hx_21 : rg 1 16 x_21 := by rw [ex_21]; exact rg_add h_9 (rg_c (x := 1) (k := 1) (by decide)) (by decide) (by decide) (by decide) (by decide)
        have tx_21 : x_21.toInt = (y_1.1 0).toInt + 1 := by rw [ex_21]; exact inc_tk h_9 (by decide) (by decide) (by decide)
        refine lv_iinc (v := x_21) (lv' := [(3, .int x_21), (2, .int (y_1.1 1)), (0, .ref (a 16)), (1, .int p0)]) hx hb dX3_turns_49 hl (k := 0) rfl (by rw [ex_21]; rfl) (by decide) rfl (fun ls hl => ?_)
        refine lv_goto (tgt := 4) hx hb dX3_turns_52 (by decide) ?_
        exact ih_3 (fun k => [x_21, (y_1.1 1)].getD k 0, fun k => [].getD k (fun _ => 0), fun k => [].getD k (fun _ => 0), fun k => [].getD k 0) _ _ ls ⟨(m_upk me_4 tx_21 (by decide)), (rg_w (c := 0) (d := 16) hx_21 (by decide) (by decide)), hP, hS, (lv_sub hl [0, 1, 2, 3] rfl)⟩
      · skip
        have zc_22 : (0 : Int32).toInt = 0 := rfl
        have tc_18 : (r_17 : Int32).toInt = (0 : Int32).toInt := congrArg Int32.toInt (by first | exact c_18 | exact Classical.not_not.mp c_18)
        have h_23 : rg 0 0 r_17 := rg_eq c_18 (rg_c (x := 0) (k := 0) (by decide))
        refine lv_aload_n hx hb dX3_turns_26 rfl (lv_at hl 2 rfl) ?_
        refine lv_iload_n hx hb dX3_turns_27 rfl (lv_at hl 0 rfl) ?_
        refine lv_iconst (v := 1) hx hb dX3_turns_28 (by decide) ?_
        refine lv_iload_n hx hb dX3_turns_29 rfl (lv_at hl 3 rfl) ?_
        refine lv_ishl hx hb dX3_turns_30 ?_
        refine lv_topi (fun x_24 ex_24 => ?_)
        have hx_24 : rg 1 8 x_24 := by rw [ex_24]; exact rg_shl1 (b := 3) rp0 (by decide) (by decide)
        refine lv_ior hx hb dX3_turns_31 ?_
        refine lv_topi (fun x_25 ex_25 => ?_)
        have hx_25 : rg 0 15 x_25 := by rw [ex_25]; exact rg_or (m := 4) h_9 (rg_w (c := 0) (d := 15) hx_24 (by decide) (by decide)) (by decide) (by decide)
        refine y_pV hF (s_X3_rule l D t a v40_0 v40_1 v40_2 v40_3 v40_4 v40_5 v40_6 v40_7 f41 f43 f44 v54_0 v54_1 v54_2 x_25 r40_1 r40_5 r40_6 r40_7 q43 q44 r54_0) m_1140 m_1128 m_1129 m_9 m_1130 hd_X3_rule ⟨Nat.le_of_ble_eq_true rfl, Nat.le_of_ble_eq_true rfl⟩ hK hN hP hS [0, 1, 2, 3, 4, 5] rfl 0 (ci := 3) rfl rfl rfl hl.1 rfl (Nat.le_of_ble_eq_true rfl) dX3_turns_32 ⟨Nat.zero_le _, Nat.zero_le _⟩ (fun r_26 H locs hr_26 hP hS => ?_)
        refine lv_if_eq (tgt := 49) hx hb dX3_turns_35 (by decide) (fun c_27 => ?_) (fun c_27 => ?_)
        · skip
          have zc_28 : (0 : Int32).toInt = 0 := rfl
          have tc_27 : (r_26 : Int32).toInt = (0 : Int32).toInt := congrArg Int32.toInt (by first | exact c_27 | exact Classical.not_not.mp c_27)
          have h_29 : rg 0 0 r_26 := rg_eq c_27 (rg_c (x := 0) (k := 0) (by decide))
          obtain ⟨x_30, ex_30⟩ : ∃ y9 : Int32, y9 = (y_1.1 0) + 1 := ⟨_, rfl⟩
          have hx_30 : rg 1 16 x_30 := by rw [ex_30]; exact rg_add h_9 (rg_c (x := 1) (k := 1) (by decide)) (by decide) (by decide) (by decide) (by decide)
          have tx_30 : x_30.toInt = (y_1.1 0).toInt + 1 := by rw [ex_30]; exact inc_tk h_9 (by decide) (by decide) (by decide)
          refine lv_iinc (v := x_30) (lv' := [(3, .int x_30), (2, .int (y_1.1 1)), (0, .ref (a 16)), (1, .int p0)]) hx hb dX3_turns_49 hl (k := 0) rfl (by rw [ex_30]; rfl) (by decide) rfl (fun ls hl => ?_)
          refine lv_goto (tgt := 4) hx hb dX3_turns_52 (by decide) ?_
          exact ih_3 (fun k => [x_30, (y_1.1 1)].getD k 0, fun k => [].getD k (fun _ => 0), fun k => [].getD k (fun _ => 0), fun k => [].getD k 0) _ _ ls ⟨(m_upk me_4 tx_30 (by decide)), (rg_w (c := 0) (d := 16) hx_30 (by decide) (by decide)), hP, hS, (lv_sub hl [0, 1, 2, 3] rfl)⟩
        · skip
          have zc_31 : (0 : Int32).toInt = 0 := rfl
          have tc_27 : ¬ (r_26 : Int32).toInt = (0 : Int32).toInt := fun z9 => c_27 (Int32.toInt_inj.mp z9)
          have h_32 : rg 1 1 r_26 := rg_w (rg_neL hr_26 c_27 (by decide)) (by decide) (by decide)
          refine lv_iload_n hx hb dX3_turns_38 rfl (lv_at hl 1 rfl) ?_
          refine va_gets (C := "WordSeats$Parties") (n := "ORDERS_BEHIND") (d := "[I") (v := .ref (aK 46)) (ref := "WordSeats$Parties") hx hb hE.2.2.1 hS hown (hts _ m_1141) (fun _ h9 => h9) dX3_turns_39 ?_
          refine lv_iload_n hx hb dX3_turns_42 rfl (lv_at hl 0 rfl) ?_
          refine y_pS hF (s_J6_bitCountV l D t a (y_1.1 0)) m_1143 m_753 m_21 m_754 hd_J6_bitCount_0f7a4 ⟨Nat.le_of_ble_eq_true rfl, Nat.le_of_ble_eq_true rfl⟩ hK hN hP hS [] rfl hl.1 rfl (Nat.le_of_ble_eq_true rfl) dX3_turns_43 ⟨Nat.zero_le _, Nat.zero_le _⟩ (fun r_33 H locs hr_33 hP hS => ?_)
          have or_33 := hr_33.2
          have h_34 : rg 0 3 r_33 := bcq_3 h_9 rp0 or_10 tc_11 or_33
          refine va_ti (v := .int (OB (r_33).toNatClampNeg)) hx hb hE.2.2.2.1 hS (in_rg h_34 (by decide) (by decide)) rfl dX3_turns_46 ?_
          refine lv_topi (fun x_35 ex_35 => ?_)
          have hx_35 : rg 0 6 x_35 := by rw [ex_35]; exact OB_rg _
          refine lv_iadd hx hb dX3_turns_47 ?_
          refine lv_topi (fun x_36 ex_36 => ?_)
          refine lv_istore_n (lv' := [(2, .int x_36), (3, .int (y_1.1 0)), (0, .ref (a 16)), (1, .int p0)]) hx hb dX3_turns_48 rfl hl (by decide) rfl (fun ls hl => ?_)
          obtain ⟨x_37, ex_37⟩ : ∃ y9 : Int32, y9 = (y_1.1 0) + 1 := ⟨_, rfl⟩
          have hx_37 : rg 1 16 x_37 := by rw [ex_37]; exact rg_add h_9 (rg_c (x := 1) (k := 1) (by decide)) (by decide) (by decide) (by decide) (by decide)
          have tx_37 : x_37.toInt = (y_1.1 0).toInt + 1 := by rw [ex_37]; exact inc_tk h_9 (by decide) (by decide) (by decide)
          refine lv_iinc (v := x_37) (lv' := [(3, .int x_37), (2, .int x_36), (0, .ref (a 16)), (1, .int p0)]) hx hb dX3_turns_49 hl (k := 1) rfl (by rw [ex_37]; rfl) (by decide) rfl (fun ls hl => ?_)
          refine lv_goto (tgt := 4) hx hb dX3_turns_52 (by decide) ?_
          exact ih_3 (fun k => [x_37, x_36].getD k 0, fun k => [].getD k (fun _ => 0), fun k => [].getD k (fun _ => 0), fun k => [].getD k 0) _ _ ls ⟨(m_upk me_4 tx_37 (by decide)), (rg_w (c := 0) (d := 16) hx_37 (by decide) (by decide)), hP, hS, (lv_sub hl [0, 1, 2, 3] rfl)⟩

set_option maxHeartbeats 4000000 in
set_option maxRecDepth 100000 in
theorem s_X3_commonDivisor (l : Launch) (D : va_G) (t : Nat → ClassId) (a : Nat → Nat) (p0 : Int32) : Met l yX3_commonDivisor (wd yX3_commonDivisor cX3_commonDivisor 2 (some .int)) (RM 0 0 0) (PreP D (TY t) [.int p0] []) (QP (fun r => rg 1 24 r)) 0 0 NoF := by
  refine Met.ofW (cc := cX3_commonDivisor) (maxL := 2) (ret := (some .int)) (by decide) rfl ?_
  intro p e s m args below meth c s₁ B hml hv
  obtain ⟨rfl, hP, hK, hN⟩ := hv
  have hx := B.exec
  have hb := B.bytes
  have hr := B.returns
  have hts : ∀ w ∈ TB, w.before _ s = true := fun w h => atoms_spec (ws := wd yX3_commonDivisor cX3_commonDivisor 2 (some .int)) B.pre w (List.mem_cons_of_mem _ h)
  have hown : s.vm.findClass RX3 = some m.cls := findClass_of_methodNamed B.named
  have hlocks := B.notSynchronized
  have hF : CallFix p m c cX3_commonDivisor 2 s _ TB RX3 := ⟨hx, hb, hml, hown, hts⟩
  have hl := lv_entry ([.int p0]) (n := 2) (Nat.le_of_ble_eq_true rfl)
  rw [lg_entry_eq]
  generalize (lg_sl ([.int p0]) ++ List.replicate (2 - (lg_sl ([.int p0])).length) Slot.unset).toArray = ls at hl ⊢
  have hl : lv_has ls 2 [(0, .int p0)] := hl
  have hS : va_S NoF s.heap s.heap [] := va_S.rf
  have hP : va_P D classes [] s.heap := hP
  refine lv_bipush (v := 24) hx hb dX3_commonDivisor_0 (by decide) ?_
  refine lv_istore_n (lv' := [(1, .int 24), (0, .int p0)]) hx hb dX3_commonDivisor_2 rfl hl (by decide) rfl (fun ls hl => ?_)
  refine loopW (α := US) (fun n y_1 H locs ls => (y_1.1 0).toInt < 1 + (n : Int) ∧ rg 1 24 (y_1.1 0) ∧ va_P D classes [] H ∧ va_S NoF s.heap H locs ∧ lv_has ls 2 [(1, .int (y_1.1 0)), (0, .int p0)]) 3 (fun y_1 => []) (fun _ _ _ _ h9 => m_0d h9.1 h9.2.1) (fun n ih_3 y_1 H locs ls hI => ?_) 24 (fun k => [24].getD k 0, fun k => [].getD k (fun _ => 0), fun k => [].getD k (fun _ => 0), fun k => [].getD k 0) ⟨(m_id (rg_c (x := 24) (k := 24) (by decide)) (by decide)), (rg_w (c := 1) (d := 24) (rg_c (x := 24) (k := 24) (by decide)) (by decide) (by decide)), hP, hS, (lv_sub hl [0, 1] rfl)⟩
  obtain ⟨me_4, h_2, hP, hS, hl⟩ := hI
  refine lv_iload_n hx hb dX3_commonDivisor_3 rfl (lv_at hl 0 rfl) ?_
  refine lv_iconst (v := 1) hx hb dX3_commonDivisor_4 (by decide) ?_
  refine lv_icmp_le (tgt := 29) hx hb dX3_commonDivisor_5 (by decide) (fun c_5 => ?_) (fun c_5 => ?_)
  · skip
    have h_6 : rg 1 1 (y_1.1 0) := ⟨(h_2).1, Int.le_trans (c_le c_5 (rg_c (x := 1) (k := 1) (by decide))) (by decide)⟩
    refine lv_iconst (v := 1) hx hb dX3_commonDivisor_29 (by decide) ?_
    exact W.iret (v := 1) hx hb hr (fun t9 ht hW => ⟨⟨1, (), rfl, (rg_w (c := 1) (d := 24) (rg_c (x := 1) (k := 1) (by decide)) (by decide) (by decide)), trivial⟩, hS.F ht⟩) hS.2.2 dX3_commonDivisor_30
  · skip
    have h_7 : rg 2 24 (y_1.1 0) := ⟨Int.le_trans (by decide) (c_nle c_5 (rg_c (x := 1) (k := 1) (by decide))), (h_2).2⟩
    refine lv_iload_n hx hb dX3_commonDivisor_8 rfl (lv_at hl 1 rfl) ?_
    refine lv_iload_n hx hb dX3_commonDivisor_9 rfl (lv_at hl 0 rfl) ?_
    refine lv_irem hx hb dX3_commonDivisor_10 (ne0_rg (rg_w (c := 1) (d := 24) h_7 (by decide) (by decide))) ?_
    refine lv_topi (fun x_8 ex_8 => ?_)
    refine lv_if_ne (tgt := 23) hx hb dX3_commonDivisor_11 (by decide) (fun c_9 => ?_) (fun c_9 => ?_)
    · skip
      obtain ⟨x_10, ex_10⟩ : ∃ y9 : Int32, y9 = (y_1.1 0) + (-1) := ⟨_, rfl⟩
      have hx_10 : rg 1 23 x_10 := by rw [ex_10]; exact rg_add h_7 (rg_c (x := (-1)) (k := (-1)) (by decide)) (by decide) (by decide) (by decide) (by decide)
      have tx_10 : x_10.toInt = (y_1.1 0).toInt + (-1) := by rw [ex_10]; exact inc_tk h_7 (by decide) (by decide) (by decide)
      refine lv_iinc (v := x_10) (lv' := [(1, .int x_10), (0, .int p0)]) hx hb dX3_commonDivisor_23 hl (k := 0) rfl (by rw [ex_10]; rfl) (by decide) rfl (fun ls hl => ?_)
      refine lv_goto (tgt := 3) hx hb dX3_commonDivisor_26 (by decide) ?_
      exact ih_3 (fun k => [x_10].getD k 0, fun k => [].getD k (fun _ => 0), fun k => [].getD k (fun _ => 0), fun k => [].getD k 0) _ _ ls ⟨(m_dnk me_4 tx_10 (by decide)), (rg_w (c := 1) (d := 24) hx_10 (by decide) (by decide)), hP, hS, (lv_sub hl [0, 1] rfl)⟩
    · skip
      have h_11 : rg 0 0 x_8 := rg_eq c_9 (rg_c (x := 0) (k := 0) (by decide))
      refine lv_bipush (v := 24) hx hb dX3_commonDivisor_14 (by decide) ?_
      refine lv_iload_n hx hb dX3_commonDivisor_16 rfl (lv_at hl 0 rfl) ?_
      refine lv_irem hx hb dX3_commonDivisor_17 (ne0_rg (rg_w (c := 1) (d := 24) h_7 (by decide) (by decide))) ?_
      refine lv_topi (fun x_12 ex_12 => ?_)
      have hx_12 : rg 0 23 x_12 := by rw [ex_12]; exact rg_rem (rg_w (c := 0) (d := 24) (rg_c (x := 24) (k := 24) (by decide)) (by decide) (by decide)) (rg_w (c := 1) (d := 24) h_7 (by decide) (by decide)) (by decide)
      refine lv_if_ne (tgt := 23) hx hb dX3_commonDivisor_18 (by decide) (fun c_13 => ?_) (fun c_13 => ?_)
      · skip
        have h_14 : rg 1 23 x_12 := rg_w (rg_neL hx_12 c_13 (by decide)) (by decide) (by decide)
        obtain ⟨x_15, ex_15⟩ : ∃ y9 : Int32, y9 = (y_1.1 0) + (-1) := ⟨_, rfl⟩
        have hx_15 : rg 1 23 x_15 := by rw [ex_15]; exact rg_add h_7 (rg_c (x := (-1)) (k := (-1)) (by decide)) (by decide) (by decide) (by decide) (by decide)
        have tx_15 : x_15.toInt = (y_1.1 0).toInt + (-1) := by rw [ex_15]; exact inc_tk h_7 (by decide) (by decide) (by decide)
        refine lv_iinc (v := x_15) (lv' := [(1, .int x_15), (0, .int p0)]) hx hb dX3_commonDivisor_23 hl (k := 0) rfl (by rw [ex_15]; rfl) (by decide) rfl (fun ls hl => ?_)
        refine lv_goto (tgt := 3) hx hb dX3_commonDivisor_26 (by decide) ?_
        exact ih_3 (fun k => [x_15].getD k 0, fun k => [].getD k (fun _ => 0), fun k => [].getD k (fun _ => 0), fun k => [].getD k 0) _ _ ls ⟨(m_dnk me_4 tx_15 (by decide)), (rg_w (c := 1) (d := 24) hx_15 (by decide) (by decide)), hP, hS, (lv_sub hl [0, 1] rfl)⟩
      · skip
        have h_16 : rg 0 0 x_12 := rg_eq c_13 (rg_c (x := 0) (k := 0) (by decide))
        refine lv_iload_n hx hb dX3_commonDivisor_21 rfl (lv_at hl 0 rfl) ?_
        exact W.iret (v := (y_1.1 0)) hx hb hr (fun t9 ht hW => ⟨⟨(y_1.1 0), (), rfl, (rg_w (c := 1) (d := 24) h_7 (by decide) (by decide)), trivial⟩, hS.F ht⟩) hS.2.2 dX3_commonDivisor_22

set_option maxHeartbeats 4000000 in
set_option maxRecDepth 100000 in
theorem s_X3_smallestRule (l : Launch) (D : va_G) (t : Nat → ClassId) (a : Nat → Nat) (v40_0 : Int32) (v40_1 : Int32) (v40_2 : Int32) (v40_3 : Int32) (v40_4 : Int32) (v40_5 : Int32) (v40_6 : Int32) (v40_7 : Int32) (f41 : Nat → Int32) (f43 : Nat → Int32) (f44 : Nat → Int32) (v54_0 : Int32) (v54_1 : Int32) (v54_2 : Int32) (r40_1 : rg 0 8 v40_1) (r40_5 : rg 0 4 v40_5) (r40_6 : rg 0 9 v40_6) (r40_7 : rg 0 9 v40_7) (q43 : ∀ j, j < 9 → rg 0 3 (f43 j)) (q44 : ∀ j, j < 9 → rg 0 3 (f44 j)) (r54_0 : rg 0 60 v54_0) : Met l yX3_smallestRule (wd yX3_smallestRule cX3_smallestRule 4 (some .int)) (RM 3 0 0) (PreP D (TY t) [.ref (a 16)] [(a 16, .inr (3, [.ref (a 40), .ref (a 125), .ref (a 126)])), (a 40, .inr (0, [.int v40_0, .int v40_1, .int v40_2, .int v40_3, .int v40_4, .int v40_5, .int v40_6, .int v40_7, .ref (a 41), .ref (a 42), .ref (a 43), .ref (a 44), .ref (a 45), .ref (a 46), .ref (a 47), .ref (a 48), .ref (a 49), .ref (a 50), .ref (a 54)])), (a 41, .inl (t 0, 4, .inl f41)), (a 43, .inl (t 0, 9, .inl f43)), (a 44, .inl (t 0, 9, .inl f44)), (a 54, .inr (9, [.int v54_0, .int v54_1, .int v54_2, .ref (a 55), .ref (a 56), .ref (a 57), .ref (a 58)]))]) (QP (fun r => rg (-1) 15 r)) 0 0 NoF := by
  refine Met.ofW (cc := cX3_smallestRule) (maxL := 4) (ret := (some .int)) (by decide) rfl ?_
  intro p e s m args below meth c s₁ B hml hv
  obtain ⟨rfl, hP, hK, hN⟩ := hv
  have hx := B.exec
  have hb := B.bytes
  have hr := B.returns
  have hts : ∀ w ∈ TB, w.before _ s = true := fun w h => atoms_spec (ws := wd yX3_smallestRule cX3_smallestRule 4 (some .int)) B.pre w (List.mem_cons_of_mem _ h)
  have hown : s.vm.findClass RX3 = some m.cls := findClass_of_methodNamed B.named
  have hlocks := B.notSynchronized
  have hF : CallFix p m c cX3_smallestRule 4 s _ TB RX3 := ⟨hx, hb, hml, hown, hts⟩
  have hl := lv_entry ([.ref (a 16)]) (n := 4) (Nat.le_of_ble_eq_true rfl)
  rw [lg_entry_eq]
  generalize (lg_sl ([.ref (a 16)]) ++ List.replicate (4 - (lg_sl ([.ref (a 16)])).length) Slot.unset).toArray = ls at hl ⊢
  have hl : lv_has ls 4 [(0, .ref (a 16))] := hl
  have hS : va_S NoF s.heap s.heap [] := va_S.rf
  have hP : va_P D classes [(a 16, .inr (3, [.ref (a 40), .ref (a 125), .ref (a 126)])), (a 40, .inr (0, [.int v40_0, .int v40_1, .int v40_2, .int v40_3, .int v40_4, .int v40_5, .int v40_6, .int v40_7, .ref (a 41), .ref (a 42), .ref (a 43), .ref (a 44), .ref (a 45), .ref (a 46), .ref (a 47), .ref (a 48), .ref (a 49), .ref (a 50), .ref (a 54)])), (a 41, .inl (t 0, 4, .inl f41)), (a 43, .inl (t 0, 9, .inl f43)), (a 44, .inl (t 0, 9, .inl f44)), (a 54, .inr (9, [.int v54_0, .int v54_1, .int v54_2, .ref (a 55), .ref (a 56), .ref (a 57), .ref (a 58)]))] s.heap := hP
  refine lv_iconst (v := (-1)) hx hb dX3_smallestRule_0 (by decide) ?_
  refine lv_istore_n (lv' := [(1, .int (-1)), (0, .ref (a 16))]) hx hb dX3_smallestRule_1 rfl hl (by decide) rfl (fun ls hl => ?_)
  refine lv_iconst (v := 0) hx hb dX3_smallestRule_2 (by decide) ?_
  refine lv_istore_n (lv' := [(2, .int 0), (1, .int (-1)), (0, .ref (a 16))]) hx hb dX3_smallestRule_3 rfl hl (by decide) rfl (fun ls hl => ?_)
  refine loopW (α := US) (fun n y_1 H locs ls => 16 < (y_1.1 0).toInt + (n : Int) ∧ rg 0 16 (y_1.1 0) ∧ rg (-1) 15 (y_1.1 1) ∧ va_P D classes [(a 16, .inr (3, [.ref (a 40), .ref (a 125), .ref (a 126)])), (a 40, .inr (0, [.int v40_0, .int v40_1, .int v40_2, .int v40_3, .int v40_4, .int v40_5, .int v40_6, .int v40_7, .ref (a 41), .ref (a 42), .ref (a 43), .ref (a 44), .ref (a 45), .ref (a 46), .ref (a 47), .ref (a 48), .ref (a 49), .ref (a 50), .ref (a 54)])), (a 41, .inl (t 0, 4, .inl f41)), (a 43, .inl (t 0, 9, .inl f43)), (a 44, .inl (t 0, 9, .inl f44)), (a 54, .inr (9, [.int v54_0, .int v54_1, .int v54_2, .ref (a 55), .ref (a 56), .ref (a 57), .ref (a 58)]))] H ∧ va_S NoF s.heap H locs ∧ lv_has ls 4 [(2, .int (y_1.1 0)), (1, .int (y_1.1 1)), (0, .ref (a 16))]) 4 (fun y_1 => []) (fun _ _ _ _ h9 => m_0 h9.1 h9.2.1) (fun n ih_4 y_1 H locs ls hI => ?_) 17 (fun k => [0, (-1)].getD k 0, fun k => [].getD k (fun _ => 0), fun k => [].getD k (fun _ => 0), fun k => [].getD k 0) ⟨(m_i (rg_c (x := 0) (k := 0) (by decide)) (by decide)), (rg_w (c := 0) (d := 16) (rg_c (x := 0) (k := 0) (by decide)) (by decide) (by decide)), (rg_w (c := (-1)) (d := 15) (rg_c (x := (-1)) (k := (-1)) (by decide)) (by decide) (by decide)), hP, hS, (lv_sub hl [0, 1, 2] rfl)⟩
  obtain ⟨me_5, h_2, h_3, hP, hS, hl⟩ := hI
  refine lv_iload_n hx hb dX3_smallestRule_4 rfl (lv_at hl 0 rfl) ?_
  refine lv_bipush (v := 16) hx hb dX3_smallestRule_5 (by decide) ?_
  refine lv_icmp_ge (tgt := 52) hx hb dX3_smallestRule_7 (by decide) (fun c_6 => ?_) (fun c_6 => ?_)
  · skip
    have h_7 : rg 16 16 (y_1.1 0) := ⟨Int.le_trans (by decide) (c_leR c_6 (rg_c (x := 16) (k := 16) (by decide))), (h_2).2⟩
    refine lv_iload_n hx hb dX3_smallestRule_52 rfl (lv_at hl 1 rfl) ?_
    exact W.iret (v := (y_1.1 1)) hx hb hr (fun t9 ht hW => ⟨⟨(y_1.1 1), (), rfl, h_3, trivial⟩, hS.F ht⟩) hS.2.2 dX3_smallestRule_53
  · skip
    have h_8 : rg 0 15 (y_1.1 0) := ⟨(h_2).1, Int.le_trans (c_nleR c_6 (rg_c (x := 16) (k := 16) (by decide))) (by decide)⟩
    refine lv_iload_n hx hb dX3_smallestRule_10 rfl (lv_at hl 1 rfl) ?_
    refine lv_iconst (v := (-1)) hx hb dX3_smallestRule_11 (by decide) ?_
    refine lv_icmp_eq (tgt := 26) hx hb dX3_smallestRule_12 (by decide) (fun c_9 => ?_) (fun c_9 => ?_)
    · skip
      have h_10 : rg (-1) (-1) (y_1.1 1) := rg_eq c_9 (rg_c (x := (-1)) (k := (-1)) (by decide))
      refine lv_iconst (v := 1) hx hb dX3_smallestRule_26 (by decide) ?_
      refine lv_goto (tgt := 31) hx hb dX3_smallestRule_27 (by decide) ?_
      refine lv_istore_n (lv' := [(3, .int 1), (2, .int (y_1.1 0)), (1, .int (y_1.1 1)), (0, .ref (a 16))]) hx hb dX3_smallestRule_31 rfl hl (by decide) rfl (fun ls hl => ?_)
      refine lv_iload_n hx hb dX3_smallestRule_32 rfl (lv_at hl 0 rfl) ?_
      refine lv_if_eq (tgt := 46) hx hb dX3_smallestRule_33 (by decide) (fun c_11 => False.elim (by first | exact absurd (by decide) c_11 | exact absurd c_11 (by decide))) (fun c_11 => ?_)
      refine lv_aload_n hx hb dX3_smallestRule_36 rfl (lv_at hl 3 rfl) ?_
      refine lv_iload_n hx hb dX3_smallestRule_37 rfl (lv_at hl 1 rfl) ?_
      refine y_pV hF (s_X3_rule l D t a v40_0 v40_1 v40_2 v40_3 v40_4 v40_5 v40_6 v40_7 f41 f43 f44 v54_0 v54_1 v54_2 (y_1.1 0) r40_1 r40_5 r40_6 r40_7 q43 q44 r54_0) m_1140 m_1128 m_1129 m_9 m_1130 hd_X3_rule ⟨Nat.le_of_ble_eq_true rfl, Nat.le_of_ble_eq_true rfl⟩ hK hN hP hS [0, 1, 2, 3, 4, 5] rfl 0 (ci := 3) rfl rfl rfl hl.1 rfl (Nat.le_of_ble_eq_true rfl) dX3_smallestRule_38 ⟨Nat.zero_le _, Nat.zero_le _⟩ (fun r_12 H locs hr_12 hP hS => ?_)
      refine lv_if_eq (tgt := 46) hx hb dX3_smallestRule_41 (by decide) (fun c_13 => ?_) (fun c_13 => ?_)
      · skip
        have h_14 : rg 0 0 r_12 := rg_eq c_13 (rg_c (x := 0) (k := 0) (by decide))
        obtain ⟨x_15, ex_15⟩ : ∃ y9 : Int32, y9 = (y_1.1 0) + 1 := ⟨_, rfl⟩
        have hx_15 : rg 1 16 x_15 := by rw [ex_15]; exact rg_add h_8 (rg_c (x := 1) (k := 1) (by decide)) (by decide) (by decide) (by decide) (by decide)
        have tx_15 : x_15.toInt = (y_1.1 0).toInt + 1 := by rw [ex_15]; exact inc_tk h_8 (by decide) (by decide) (by decide)
        refine lv_iinc (v := x_15) (lv' := [(2, .int x_15), (3, .int 1), (1, .int (y_1.1 1)), (0, .ref (a 16))]) hx hb dX3_smallestRule_46 hl (k := 1) rfl (by rw [ex_15]; rfl) (by decide) rfl (fun ls hl => ?_)
        refine lv_goto (tgt := 4) hx hb dX3_smallestRule_49 (by decide) ?_
        exact ih_4 (fun k => [x_15, (y_1.1 1)].getD k 0, fun k => [].getD k (fun _ => 0), fun k => [].getD k (fun _ => 0), fun k => [].getD k 0) _ _ ls ⟨(m_upk me_5 tx_15 (by decide)), (rg_w (c := 0) (d := 16) hx_15 (by decide) (by decide)), (rg_w (c := (-1)) (d := 15) h_10 (by decide) (by decide)), hP, hS, (lv_sub hl [0, 2, 3] rfl)⟩
      · skip
        have h_16 : rg 1 1 r_12 := rg_w (rg_neL hr_12 c_13 (by decide)) (by decide) (by decide)
        refine lv_iload_n hx hb dX3_smallestRule_44 rfl (lv_at hl 1 rfl) ?_
        refine lv_istore_n (lv' := [(1, .int (y_1.1 0)), (3, .int 1), (2, .int (y_1.1 0)), (0, .ref (a 16))]) hx hb dX3_smallestRule_45 rfl hl (by decide) rfl (fun ls hl => ?_)
        obtain ⟨x_17, ex_17⟩ : ∃ y9 : Int32, y9 = (y_1.1 0) + 1 := ⟨_, rfl⟩
        have hx_17 : rg 1 16 x_17 := by rw [ex_17]; exact rg_add h_8 (rg_c (x := 1) (k := 1) (by decide)) (by decide) (by decide) (by decide) (by decide)
        have tx_17 : x_17.toInt = (y_1.1 0).toInt + 1 := by rw [ex_17]; exact inc_tk h_8 (by decide) (by decide) (by decide)
        refine lv_iinc (v := x_17) (lv' := [(2, .int x_17), (1, .int (y_1.1 0)), (3, .int 1), (0, .ref (a 16))]) hx hb dX3_smallestRule_46 hl (k := 2) rfl (by rw [ex_17]; rfl) (by decide) rfl (fun ls hl => ?_)
        refine lv_goto (tgt := 4) hx hb dX3_smallestRule_49 (by decide) ?_
        exact ih_4 (fun k => [x_17, (y_1.1 0)].getD k 0, fun k => [].getD k (fun _ => 0), fun k => [].getD k (fun _ => 0), fun k => [].getD k 0) _ _ ls ⟨(m_upk me_5 tx_17 (by decide)), (rg_w (c := 0) (d := 16) hx_17 (by decide) (by decide)), (rg_w (c := (-1)) (d := 15) h_8 (by decide) (by decide)), hP, hS, (lv_sub hl [0, 1, 3] rfl)⟩
    · skip
      have h_18 : rg 0 15 (y_1.1 1) := rg_w (rg_neL h_3 c_9 (by decide)) (by decide) (by decide)
      refine lv_iload_n hx hb dX3_smallestRule_15 rfl (lv_at hl 0 rfl) ?_
      refine y_pS hF (s_J6_bitCount_0f7a4 l D t a (y_1.1 0)) m_1143 m_753 m_21 m_754 hd_J6_bitCount_0f7a4 ⟨Nat.le_of_ble_eq_true rfl, Nat.le_of_ble_eq_true rfl⟩ hK hN hP hS [] rfl hl.1 rfl (Nat.le_of_ble_eq_true rfl) dX3_smallestRule_16 ⟨Nat.zero_le _, Nat.zero_le _⟩ (fun r_19 H locs hr_19 hP hS => ?_)
      refine lv_iload_n hx hb dX3_smallestRule_19 rfl (lv_at hl 1 rfl) ?_
      refine y_pS hF (s_J6_bitCount_0f7a4 l D t a (y_1.1 1)) m_1143 m_753 m_21 m_754 hd_J6_bitCount_0f7a4 ⟨Nat.le_of_ble_eq_true rfl, Nat.le_of_ble_eq_true rfl⟩ hK hN hP hS [] rfl hl.1 rfl (Nat.le_of_ble_eq_true rfl) dX3_smallestRule_20 ⟨Nat.zero_le _, Nat.zero_le _⟩ (fun r_20 H locs hr_20 hP hS => ?_)
      refine lv_icmp_ge (tgt := 30) hx hb dX3_smallestRule_23 (by decide) (fun c_21 => ?_) (fun c_21 => ?_)
      · skip
        refine lv_iconst (v := 0) hx hb dX3_smallestRule_30 (by decide) ?_
        refine lv_istore_n (lv' := [(3, .int 0), (2, .int (y_1.1 0)), (1, .int (y_1.1 1)), (0, .ref (a 16))]) hx hb dX3_smallestRule_31 rfl hl (by decide) rfl (fun ls hl => ?_)
        refine lv_iload_n hx hb dX3_smallestRule_32 rfl (lv_at hl 0 rfl) ?_
        refine lv_if_eq (tgt := 46) hx hb dX3_smallestRule_33 (by decide) (fun c_22 => ?_) (fun c_22 => False.elim (by first | exact absurd (by decide) c_22 | exact absurd c_22 (by decide)))
        obtain ⟨x_23, ex_23⟩ : ∃ y9 : Int32, y9 = (y_1.1 0) + 1 := ⟨_, rfl⟩
        have hx_23 : rg 1 16 x_23 := by rw [ex_23]; exact rg_add h_8 (rg_c (x := 1) (k := 1) (by decide)) (by decide) (by decide) (by decide) (by decide)
        have tx_23 : x_23.toInt = (y_1.1 0).toInt + 1 := by rw [ex_23]; exact inc_tk h_8 (by decide) (by decide) (by decide)
        refine lv_iinc (v := x_23) (lv' := [(2, .int x_23), (3, .int 0), (1, .int (y_1.1 1)), (0, .ref (a 16))]) hx hb dX3_smallestRule_46 hl (k := 1) rfl (by rw [ex_23]; rfl) (by decide) rfl (fun ls hl => ?_)
        refine lv_goto (tgt := 4) hx hb dX3_smallestRule_49 (by decide) ?_
        exact ih_4 (fun k => [x_23, (y_1.1 1)].getD k 0, fun k => [].getD k (fun _ => 0), fun k => [].getD k (fun _ => 0), fun k => [].getD k 0) _ _ ls ⟨(m_upk me_5 tx_23 (by decide)), (rg_w (c := 0) (d := 16) hx_23 (by decide) (by decide)), (rg_w (c := (-1)) (d := 15) h_18 (by decide) (by decide)), hP, hS, (lv_sub hl [0, 2, 3] rfl)⟩
      · skip
        have h_24 : rg 0 62 r_19 := ⟨(hr_19).1, Int.le_trans (c_nleR c_21 hr_20) (by decide)⟩
        have h_25 : rg 1 63 r_20 := ⟨Int.le_trans (by decide) (c_nle c_21 hr_19), (hr_20).2⟩
        refine lv_iconst (v := 1) hx hb dX3_smallestRule_26 (by decide) ?_
        refine lv_goto (tgt := 31) hx hb dX3_smallestRule_27 (by decide) ?_
        refine lv_istore_n (lv' := [(3, .int 1), (2, .int (y_1.1 0)), (1, .int (y_1.1 1)), (0, .ref (a 16))]) hx hb dX3_smallestRule_31 rfl hl (by decide) rfl (fun ls hl => ?_)
        refine lv_iload_n hx hb dX3_smallestRule_32 rfl (lv_at hl 0 rfl) ?_
        refine lv_if_eq (tgt := 46) hx hb dX3_smallestRule_33 (by decide) (fun c_26 => False.elim (by first | exact absurd (by decide) c_26 | exact absurd c_26 (by decide))) (fun c_26 => ?_)
        refine lv_aload_n hx hb dX3_smallestRule_36 rfl (lv_at hl 3 rfl) ?_
        refine lv_iload_n hx hb dX3_smallestRule_37 rfl (lv_at hl 1 rfl) ?_
        refine y_pV hF (s_X3_rule l D t a v40_0 v40_1 v40_2 v40_3 v40_4 v40_5 v40_6 v40_7 f41 f43 f44 v54_0 v54_1 v54_2 (y_1.1 0) r40_1 r40_5 r40_6 r40_7 q43 q44 r54_0) m_1140 m_1128 m_1129 m_9 m_1130 hd_X3_rule ⟨Nat.le_of_ble_eq_true rfl, Nat.le_of_ble_eq_true rfl⟩ hK hN hP hS [0, 1, 2, 3, 4, 5] rfl 0 (ci := 3) rfl rfl rfl hl.1 rfl (Nat.le_of_ble_eq_true rfl) dX3_smallestRule_38 ⟨Nat.zero_le _, Nat.zero_le _⟩ (fun r_27 H locs hr_27 hP hS => ?_)
        refine lv_if_eq (tgt := 46) hx hb dX3_smallestRule_41 (by decide) (fun c_28 => ?_) (fun c_28 => ?_)
        · skip
          have h_29 : rg 0 0 r_27 := rg_eq c_28 (rg_c (x := 0) (k := 0) (by decide))
          obtain ⟨x_30, ex_30⟩ : ∃ y9 : Int32, y9 = (y_1.1 0) + 1 := ⟨_, rfl⟩
          have hx_30 : rg 1 16 x_30 := by rw [ex_30]; exact rg_add h_8 (rg_c (x := 1) (k := 1) (by decide)) (by decide) (by decide) (by decide) (by decide)
          have tx_30 : x_30.toInt = (y_1.1 0).toInt + 1 := by rw [ex_30]; exact inc_tk h_8 (by decide) (by decide) (by decide)
          refine lv_iinc (v := x_30) (lv' := [(2, .int x_30), (3, .int 1), (1, .int (y_1.1 1)), (0, .ref (a 16))]) hx hb dX3_smallestRule_46 hl (k := 1) rfl (by rw [ex_30]; rfl) (by decide) rfl (fun ls hl => ?_)
          refine lv_goto (tgt := 4) hx hb dX3_smallestRule_49 (by decide) ?_
          exact ih_4 (fun k => [x_30, (y_1.1 1)].getD k 0, fun k => [].getD k (fun _ => 0), fun k => [].getD k (fun _ => 0), fun k => [].getD k 0) _ _ ls ⟨(m_upk me_5 tx_30 (by decide)), (rg_w (c := 0) (d := 16) hx_30 (by decide) (by decide)), (rg_w (c := (-1)) (d := 15) h_18 (by decide) (by decide)), hP, hS, (lv_sub hl [0, 2, 3] rfl)⟩
        · skip
          have h_31 : rg 1 1 r_27 := rg_w (rg_neL hr_27 c_28 (by decide)) (by decide) (by decide)
          refine lv_iload_n hx hb dX3_smallestRule_44 rfl (lv_at hl 1 rfl) ?_
          refine lv_istore_n (lv' := [(1, .int (y_1.1 0)), (3, .int 1), (2, .int (y_1.1 0)), (0, .ref (a 16))]) hx hb dX3_smallestRule_45 rfl hl (by decide) rfl (fun ls hl => ?_)
          obtain ⟨x_32, ex_32⟩ : ∃ y9 : Int32, y9 = (y_1.1 0) + 1 := ⟨_, rfl⟩
          have hx_32 : rg 1 16 x_32 := by rw [ex_32]; exact rg_add h_8 (rg_c (x := 1) (k := 1) (by decide)) (by decide) (by decide) (by decide) (by decide)
          have tx_32 : x_32.toInt = (y_1.1 0).toInt + 1 := by rw [ex_32]; exact inc_tk h_8 (by decide) (by decide) (by decide)
          refine lv_iinc (v := x_32) (lv' := [(2, .int x_32), (1, .int (y_1.1 0)), (3, .int 1), (0, .ref (a 16))]) hx hb dX3_smallestRule_46 hl (k := 2) rfl (by rw [ex_32]; rfl) (by decide) rfl (fun ls hl => ?_)
          refine lv_goto (tgt := 4) hx hb dX3_smallestRule_49 (by decide) ?_
          exact ih_4 (fun k => [x_32, (y_1.1 0)].getD k 0, fun k => [].getD k (fun _ => 0), fun k => [].getD k (fun _ => 0), fun k => [].getD k 0) _ _ ls ⟨(m_upk me_5 tx_32 (by decide)), (rg_w (c := 0) (d := 16) hx_32 (by decide) (by decide)), (rg_w (c := (-1)) (d := 15) h_8 (by decide) (by decide)), hP, hS, (lv_sub hl [0, 1, 3] rfl)⟩

set_option maxHeartbeats 4000000 in
set_option maxRecDepth 100000 in
theorem s_X3_needed (l : Launch) (D : va_G) (t : Nat → ClassId) (a : Nat → Nat) (v40_0 : Int32) (v40_1 : Int32) (v40_2 : Int32) (v40_3 : Int32) (v40_4 : Int32) (v40_5 : Int32) (v40_6 : Int32) (v40_7 : Int32) (f41 : Nat → Int32) (f43 : Nat → Int32) (f44 : Nat → Int32) (v54_0 : Int32) (v54_1 : Int32) (v54_2 : Int32) (p0 : Int32) (r40_1 : rg 0 8 v40_1) (r40_5 : rg 0 4 v40_5) (r40_6 : rg 0 9 v40_6) (r40_7 : rg 0 9 v40_7) (q43 : ∀ j, j < 9 → rg 0 3 (f43 j)) (q44 : ∀ j, j < 9 → rg 0 3 (f44 j)) (r54_0 : rg 0 60 v54_0) : Met l yX3_needed (wd yX3_needed cX3_needed 4 (some .int)) (RM 3 0 0) (PreP D (TY t) [.ref (a 16), .int p0] [(a 16, .inr (3, [.ref (a 40), .ref (a 125), .ref (a 126)])), (a 40, .inr (0, [.int v40_0, .int v40_1, .int v40_2, .int v40_3, .int v40_4, .int v40_5, .int v40_6, .int v40_7, .ref (a 41), .ref (a 42), .ref (a 43), .ref (a 44), .ref (a 45), .ref (a 46), .ref (a 47), .ref (a 48), .ref (a 49), .ref (a 50), .ref (a 54)])), (a 41, .inl (t 0, 4, .inl f41)), (a 43, .inl (t 0, 9, .inl f43)), (a 44, .inl (t 0, 9, .inl f44)), (a 54, .inr (9, [.int v54_0, .int v54_1, .int v54_2, .ref (a 55), .ref (a 56), .ref (a 57), .ref (a 58)]))]) (QP (fun r => rg 0 15 r)) 0 0 NoF := by
  refine Met.ofW (cc := cX3_needed) (maxL := 4) (ret := (some .int)) (by decide) rfl ?_
  intro p e s m args below meth c s₁ B hml hv
  obtain ⟨rfl, hP, hK, hN⟩ := hv
  have hx := B.exec
  have hb := B.bytes
  have hr := B.returns
  have hts : ∀ w ∈ TB, w.before _ s = true := fun w h => atoms_spec (ws := wd yX3_needed cX3_needed 4 (some .int)) B.pre w (List.mem_cons_of_mem _ h)
  have hown : s.vm.findClass RX3 = some m.cls := findClass_of_methodNamed B.named
  have hlocks := B.notSynchronized
  have hF : CallFix p m c cX3_needed 4 s _ TB RX3 := ⟨hx, hb, hml, hown, hts⟩
  have hl := lv_entry ([.ref (a 16), .int p0]) (n := 4) (Nat.le_of_ble_eq_true rfl)
  rw [lg_entry_eq]
  generalize (lg_sl ([.ref (a 16), .int p0]) ++ List.replicate (4 - (lg_sl ([.ref (a 16), .int p0])).length) Slot.unset).toArray = ls at hl ⊢
  have hl : lv_has ls 4 [(0, .ref (a 16)), (1, .int p0)] := hl
  have hS : va_S NoF s.heap s.heap [] := va_S.rf
  have hP : va_P D classes [(a 16, .inr (3, [.ref (a 40), .ref (a 125), .ref (a 126)])), (a 40, .inr (0, [.int v40_0, .int v40_1, .int v40_2, .int v40_3, .int v40_4, .int v40_5, .int v40_6, .int v40_7, .ref (a 41), .ref (a 42), .ref (a 43), .ref (a 44), .ref (a 45), .ref (a 46), .ref (a 47), .ref (a 48), .ref (a 49), .ref (a 50), .ref (a 54)])), (a 41, .inl (t 0, 4, .inl f41)), (a 43, .inl (t 0, 9, .inl f43)), (a 44, .inl (t 0, 9, .inl f44)), (a 54, .inr (9, [.int v54_0, .int v54_1, .int v54_2, .ref (a 55), .ref (a 56), .ref (a 57), .ref (a 58)]))] s.heap := hP
  refine lv_iconst (v := 0) hx hb dX3_needed_0 (by decide) ?_
  refine lv_istore_n (lv' := [(2, .int 0), (0, .ref (a 16)), (1, .int p0)]) hx hb dX3_needed_1 rfl hl (by decide) rfl (fun ls hl => ?_)
  refine lv_iconst (v := 0) hx hb dX3_needed_2 (by decide) ?_
  refine lv_istore_n (lv' := [(3, .int 0), (2, .int 0), (0, .ref (a 16)), (1, .int p0)]) hx hb dX3_needed_3 rfl hl (by decide) rfl (fun ls hl => ?_)
  refine loopW (α := US) (fun n y_1 H locs ls => 4 < (y_1.1 0).toInt + (n : Int) ∧ rg 0 4 (y_1.1 0) ∧ rg 0 15 (y_1.1 1) ∧ va_P D classes [(a 16, .inr (3, [.ref (a 40), .ref (a 125), .ref (a 126)])), (a 40, .inr (0, [.int v40_0, .int v40_1, .int v40_2, .int v40_3, .int v40_4, .int v40_5, .int v40_6, .int v40_7, .ref (a 41), .ref (a 42), .ref (a 43), .ref (a 44), .ref (a 45), .ref (a 46), .ref (a 47), .ref (a 48), .ref (a 49), .ref (a 50), .ref (a 54)])), (a 41, .inl (t 0, 4, .inl f41)), (a 43, .inl (t 0, 9, .inl f43)), (a 44, .inl (t 0, 9, .inl f44)), (a 54, .inr (9, [.int v54_0, .int v54_1, .int v54_2, .ref (a 55), .ref (a 56), .ref (a 57), .ref (a 58)]))] H ∧ va_S NoF s.heap H locs ∧ lv_has ls 4 [(3, .int (y_1.1 0)), (2, .int (y_1.1 1)), (0, .ref (a 16)), (1, .int p0)]) 4 (fun y_1 => []) (fun _ _ _ _ h9 => m_0 h9.1 h9.2.1) (fun n ih_4 y_1 H locs ls hI => ?_) 5 (fun k => [0, 0].getD k 0, fun k => [].getD k (fun _ => 0), fun k => [].getD k (fun _ => 0), fun k => [].getD k 0) ⟨(m_i (rg_c (x := 0) (k := 0) (by decide)) (by decide)), (rg_w (c := 0) (d := 4) (rg_c (x := 0) (k := 0) (by decide)) (by decide) (by decide)), (rg_w (c := 0) (d := 15) (rg_c (x := 0) (k := 0) (by decide)) (by decide) (by decide)), hP, hS, (lv_sub hl [0, 1, 2, 3] rfl)⟩
  obtain ⟨me_5, h_2, h_3, hP, hS, hl⟩ := hI
  refine lv_iload_n hx hb dX3_needed_4 rfl (lv_at hl 0 rfl) ?_
  refine lv_iconst (v := 4) hx hb dX3_needed_5 (by decide) ?_
  refine lv_icmp_ge (tgt := 51) hx hb dX3_needed_6 (by decide) (fun c_6 => ?_) (fun c_6 => ?_)
  · skip
    have h_7 : rg 4 4 (y_1.1 0) := ⟨Int.le_trans (by decide) (c_leR c_6 (rg_c (x := 4) (k := 4) (by decide))), (h_2).2⟩
    refine lv_iload_n hx hb dX3_needed_51 rfl (lv_at hl 1 rfl) ?_
    exact W.iret (v := (y_1.1 1)) hx hb hr (fun t9 ht hW => ⟨⟨(y_1.1 1), (), rfl, h_3, trivial⟩, hS.F ht⟩) hS.2.2 dX3_needed_52
  · skip
    have h_8 : rg 0 3 (y_1.1 0) := ⟨(h_2).1, Int.le_trans (c_nleR c_6 (rg_c (x := 4) (k := 4) (by decide))) (by decide)⟩
    refine lv_iload_n hx hb dX3_needed_9 rfl (lv_at hl 3 rfl) ?_
    refine lv_iload_n hx hb dX3_needed_10 rfl (lv_at hl 0 rfl) ?_
    refine y_pSN hF (s_X11_holds l D t a p0 (y_1.1 0)) n_1122 m_707 m_1 m_708 hd_X11_holds ⟨Nat.le_of_ble_eq_true rfl, Nat.le_of_ble_eq_true rfl⟩ hK hN hP hS [] rfl hl.1 rfl (Nat.le_of_ble_eq_true rfl) dX3_needed_11 ⟨Nat.zero_le _, Nat.zero_le _⟩ (fun r_9 H locs hr_9 hP hS => ?_)
    refine lv_if_eq (tgt := 45) hx hb dX3_needed_14 (by decide) (fun c_10 => ?_) (fun c_10 => ?_)
    · skip
      have h_11 : rg 0 0 r_9 := rg_eq c_10 (rg_c (x := 0) (k := 0) (by decide))
      obtain ⟨x_12, ex_12⟩ : ∃ y9 : Int32, y9 = (y_1.1 0) + 1 := ⟨_, rfl⟩
      have hx_12 : rg 1 4 x_12 := by rw [ex_12]; exact rg_add h_8 (rg_c (x := 1) (k := 1) (by decide)) (by decide) (by decide) (by decide) (by decide)
      have tx_12 : x_12.toInt = (y_1.1 0).toInt + 1 := by rw [ex_12]; exact inc_tk h_8 (by decide) (by decide) (by decide)
      refine lv_iinc (v := x_12) (lv' := [(3, .int x_12), (2, .int (y_1.1 1)), (0, .ref (a 16)), (1, .int p0)]) hx hb dX3_needed_45 hl (k := 0) rfl (by rw [ex_12]; rfl) (by decide) rfl (fun ls hl => ?_)
      refine lv_goto (tgt := 4) hx hb dX3_needed_48 (by decide) ?_
      exact ih_4 (fun k => [x_12, (y_1.1 1)].getD k 0, fun k => [].getD k (fun _ => 0), fun k => [].getD k (fun _ => 0), fun k => [].getD k 0) _ _ ls ⟨(m_upk me_5 tx_12 (by decide)), (rg_w (c := 0) (d := 4) hx_12 (by decide) (by decide)), h_3, hP, hS, (lv_sub hl [0, 1, 2, 3] rfl)⟩
    · skip
      have h_13 : rg 1 1 r_9 := rg_w (rg_neL hr_9 c_10 (by decide)) (by decide) (by decide)
      refine lv_aload_n hx hb dX3_needed_17 rfl (lv_at hl 2 rfl) ?_
      refine lv_iload_n hx hb dX3_needed_18 rfl (lv_at hl 3 rfl) ?_
      refine y_pV hF (s_X3_rule l D t a v40_0 v40_1 v40_2 v40_3 v40_4 v40_5 v40_6 v40_7 f41 f43 f44 v54_0 v54_1 v54_2 p0 r40_1 r40_5 r40_6 r40_7 q43 q44 r54_0) m_1140 m_1128 m_1129 m_9 m_1130 hd_X3_rule ⟨Nat.le_of_ble_eq_true rfl, Nat.le_of_ble_eq_true rfl⟩ hK hN hP hS [0, 1, 2, 3, 4, 5] rfl 0 (ci := 3) rfl rfl rfl hl.1 rfl (Nat.le_of_ble_eq_true rfl) dX3_needed_19 ⟨Nat.zero_le _, Nat.zero_le _⟩ (fun r_14 H locs hr_14 hP hS => ?_)
      refine lv_if_eq (tgt := 45) hx hb dX3_needed_22 (by decide) (fun c_15 => ?_) (fun c_15 => ?_)
      · skip
        have h_16 : rg 0 0 r_14 := rg_eq c_15 (rg_c (x := 0) (k := 0) (by decide))
        obtain ⟨x_17, ex_17⟩ : ∃ y9 : Int32, y9 = (y_1.1 0) + 1 := ⟨_, rfl⟩
        have hx_17 : rg 1 4 x_17 := by rw [ex_17]; exact rg_add h_8 (rg_c (x := 1) (k := 1) (by decide)) (by decide) (by decide) (by decide) (by decide)
        have tx_17 : x_17.toInt = (y_1.1 0).toInt + 1 := by rw [ex_17]; exact inc_tk h_8 (by decide) (by decide) (by decide)
        refine lv_iinc (v := x_17) (lv' := [(3, .int x_17), (2, .int (y_1.1 1)), (0, .ref (a 16)), (1, .int p0)]) hx hb dX3_needed_45 hl (k := 0) rfl (by rw [ex_17]; rfl) (by decide) rfl (fun ls hl => ?_)
        refine lv_goto (tgt := 4) hx hb dX3_needed_48 (by decide) ?_
        exact ih_4 (fun k => [x_17, (y_1.1 1)].getD k 0, fun k => [].getD k (fun _ => 0), fun k => [].getD k (fun _ => 0), fun k => [].getD k 0) _ _ ls ⟨(m_upk me_5 tx_17 (by decide)), (rg_w (c := 0) (d := 4) hx_17 (by decide) (by decide)), h_3, hP, hS, (lv_sub hl [0, 1, 2, 3] rfl)⟩
      · skip
        have h_18 : rg 1 1 r_14 := rg_w (rg_neL hr_14 c_15 (by decide)) (by decide) (by decide)
        refine lv_aload_n hx hb dX3_needed_25 rfl (lv_at hl 2 rfl) ?_
        refine lv_iload_n hx hb dX3_needed_26 rfl (lv_at hl 3 rfl) ?_
        refine lv_iconst (v := 1) hx hb dX3_needed_27 (by decide) ?_
        refine lv_iload_n hx hb dX3_needed_28 rfl (lv_at hl 0 rfl) ?_
        refine lv_ishl hx hb dX3_needed_29 ?_
        refine lv_topi (fun x_19 ex_19 => ?_)
        have hx_19 : rg 1 8 x_19 := by rw [ex_19]; exact rg_shl1 (b := 3) h_8 (by decide) (by decide)
        refine lv_iconst (v := (-1)) hx hb dX3_needed_30 (by decide) ?_
        refine lv_ixor hx hb dX3_needed_31 ?_
        refine lv_topi (fun x_20 ex_20 => ?_)
        refine lv_iand hx hb dX3_needed_32 ?_
        refine lv_topi (fun x_21 ex_21 => ?_)
        refine y_pV hF (s_X3_rule l D t a v40_0 v40_1 v40_2 v40_3 v40_4 v40_5 v40_6 v40_7 f41 f43 f44 v54_0 v54_1 v54_2 x_21 r40_1 r40_5 r40_6 r40_7 q43 q44 r54_0) m_1140 m_1128 m_1129 m_9 m_1130 hd_X3_rule ⟨Nat.le_of_ble_eq_true rfl, Nat.le_of_ble_eq_true rfl⟩ hK hN hP hS [0, 1, 2, 3, 4, 5] rfl 0 (ci := 3) rfl rfl rfl hl.1 rfl (Nat.le_of_ble_eq_true rfl) dX3_needed_33 ⟨Nat.zero_le _, Nat.zero_le _⟩ (fun r_22 H locs hr_22 hP hS => ?_)
        refine lv_if_ne (tgt := 45) hx hb dX3_needed_36 (by decide) (fun c_23 => ?_) (fun c_23 => ?_)
        · skip
          have h_24 : rg 1 1 r_22 := rg_w (rg_neL hr_22 c_23 (by decide)) (by decide) (by decide)
          obtain ⟨x_25, ex_25⟩ : ∃ y9 : Int32, y9 = (y_1.1 0) + 1 := ⟨_, rfl⟩
          have hx_25 : rg 1 4 x_25 := by rw [ex_25]; exact rg_add h_8 (rg_c (x := 1) (k := 1) (by decide)) (by decide) (by decide) (by decide) (by decide)
          have tx_25 : x_25.toInt = (y_1.1 0).toInt + 1 := by rw [ex_25]; exact inc_tk h_8 (by decide) (by decide) (by decide)
          refine lv_iinc (v := x_25) (lv' := [(3, .int x_25), (2, .int (y_1.1 1)), (0, .ref (a 16)), (1, .int p0)]) hx hb dX3_needed_45 hl (k := 0) rfl (by rw [ex_25]; rfl) (by decide) rfl (fun ls hl => ?_)
          refine lv_goto (tgt := 4) hx hb dX3_needed_48 (by decide) ?_
          exact ih_4 (fun k => [x_25, (y_1.1 1)].getD k 0, fun k => [].getD k (fun _ => 0), fun k => [].getD k (fun _ => 0), fun k => [].getD k 0) _ _ ls ⟨(m_upk me_5 tx_25 (by decide)), (rg_w (c := 0) (d := 4) hx_25 (by decide) (by decide)), h_3, hP, hS, (lv_sub hl [0, 1, 2, 3] rfl)⟩
        · skip
          have h_26 : rg 0 0 r_22 := rg_eq c_23 (rg_c (x := 0) (k := 0) (by decide))
          refine lv_iload_n hx hb dX3_needed_39 rfl (lv_at hl 1 rfl) ?_
          refine lv_iconst (v := 1) hx hb dX3_needed_40 (by decide) ?_
          refine lv_iload_n hx hb dX3_needed_41 rfl (lv_at hl 0 rfl) ?_
          refine lv_ishl hx hb dX3_needed_42 ?_
          refine lv_topi (fun x_27 ex_27 => ?_)
          have hx_27 : rg 1 8 x_27 := by rw [ex_27]; exact rg_shl1 (b := 3) h_8 (by decide) (by decide)
          refine lv_ior hx hb dX3_needed_43 ?_
          refine lv_topi (fun x_28 ex_28 => ?_)
          have hx_28 : rg 0 15 x_28 := by rw [ex_28]; exact rg_or (m := 4) h_3 (rg_w (c := 0) (d := 15) hx_27 (by decide) (by decide)) (by decide) (by decide)
          refine lv_istore_n (lv' := [(2, .int x_28), (3, .int (y_1.1 0)), (0, .ref (a 16)), (1, .int p0)]) hx hb dX3_needed_44 rfl hl (by decide) rfl (fun ls hl => ?_)
          obtain ⟨x_29, ex_29⟩ : ∃ y9 : Int32, y9 = (y_1.1 0) + 1 := ⟨_, rfl⟩
          have hx_29 : rg 1 4 x_29 := by rw [ex_29]; exact rg_add h_8 (rg_c (x := 1) (k := 1) (by decide)) (by decide) (by decide) (by decide) (by decide)
          have tx_29 : x_29.toInt = (y_1.1 0).toInt + 1 := by rw [ex_29]; exact inc_tk h_8 (by decide) (by decide) (by decide)
          refine lv_iinc (v := x_29) (lv' := [(3, .int x_29), (2, .int x_28), (0, .ref (a 16)), (1, .int p0)]) hx hb dX3_needed_45 hl (k := 1) rfl (by rw [ex_29]; rfl) (by decide) rfl (fun ls hl => ?_)
          refine lv_goto (tgt := 4) hx hb dX3_needed_48 (by decide) ?_
          exact ih_4 (fun k => [x_29, x_28].getD k 0, fun k => [].getD k (fun _ => 0), fun k => [].getD k (fun _ => 0), fun k => [].getD k 0) _ _ ls ⟨(m_upk me_5 tx_29 (by decide)), (rg_w (c := 0) (d := 4) hx_29 (by decide) (by decide)), hx_28, hP, hS, (lv_sub hl [0, 1, 2, 3] rfl)⟩

set_option maxHeartbeats 4000000 in
set_option maxRecDepth 100000 in
theorem s_X3_gather (l : Launch) (D : va_G) (t : Nat → ClassId) (a : Nat → Nat) (v14_1 : Int32) (v14_2 : Int32) (v14_3 : Int32) (v14_6 : Int32) (v14_8 : Int32) (v14_9 : Int32) (v14_10 : Int32) (v14_11 : Int32) (v14_12 : Int32) (v40_0 : Int32) (v40_1 : Int32) (v40_2 : Int32) (v40_3 : Int32) (v40_4 : Int32) (v40_5 : Int32) (v40_6 : Int32) (v40_7 : Int32) (f42 : Nat → Int32) (f43 : Nat → Int32) (f44 : Nat → Int32) (f45 : Nat → Int32) (f46 : Nat → Int32) (f47 : Nat → Int32) (f49 : Nat → Int32) (v54_0 : Int32) (v54_1 : Int32) (v54_2 : Int32) (f120 : Nat → Int32) (f121 : Nat → Int32) (f125 : Nat → Int32) (r14_8 : rg 0 9 v14_8) (r14_9 : rg (-1) 8 v14_9) (r40_1 : rg 0 8 v40_1) (r40_5 : rg 0 4 v40_5) (r40_6 : rg 0 9 v40_6) (r40_7 : rg 0 9 v40_7) (q43 : ∀ j, j < 9 → rg 0 3 (f43 j)) (q44 : ∀ j, j < 9 → rg 0 3 (f44 j)) (r54_0 : rg 0 60 v54_0) (sz : Nat) : Met l yX3_gather (wd yX3_gather cX3_gather 4 none) (RM 4 0 0) (PreW D (TY t) [.ref (a 16), .ref (a 14)] [(a 14, .inr (2, [.ref (a 40), .int v14_1, .int v14_2, .int v14_3, .ref (a 120), .ref (a 121), .int v14_6, .ref (a 122), .int v14_8, .int v14_9, .int v14_10, .int v14_11, .int v14_12])), (a 16, .inr (3, [.ref (a 40), .ref (a 125), .ref (a 126)])), (a 40, .inr (0, [.int v40_0, .int v40_1, .int v40_2, .int v40_3, .int v40_4, .int v40_5, .int v40_6, .int v40_7, .ref (a 41), .ref (a 42), .ref (a 43), .ref (a 44), .ref (a 45), .ref (a 46), .ref (a 47), .ref (a 48), .ref (a 49), .ref (a 50), .ref (a 54)])), (a 42, .inl (t 0, 9, .inl f42)), (a 43, .inl (t 0, 9, .inl f43)), (a 44, .inl (t 0, 9, .inl f44)), (a 45, .inl (t 0, 9, .inl f45)), (a 46, .inl (t 0, 9, .inl f46)), (a 47, .inl (t 0, 9, .inl f47)), (a 49, .inl (t 0, 9, .inl f49)), (a 54, .inr (9, [.int v54_0, .int v54_1, .int v54_2, .ref (a 55), .ref (a 56), .ref (a 57), .ref (a 58)])), (a 120, .inl (t 0, 81, .inl f120)), (a 121, .inl (t 0, 9, .inl f121)), (a 125, .inl (t 0, 4, .inl f125))] sz) (va_Qv (fun (_ : US) => True) (fun (u : US) t9 => va_P D classes ((fun u : US => [(a 14, .inr (2, [.ref (a 40), .int (u.1 0), .int (u.1 1), .int (u.1 2), .ref (a 120), .ref (a 121), .int (u.1 3), .ref (a 122), .int v14_8, .int v14_9, .int v14_10, .int v14_11, .int v14_12])), (a 16, .inr (3, [.ref (a 40), .ref (a 125), .ref (a 126)])), (a 40, .inr (0, [.int v40_0, .int v40_1, .int v40_2, .int v40_3, .int v40_4, .int v40_5, .int v40_6, .int v40_7, .ref (a 41), .ref (a 42), .ref (a 43), .ref (a 44), .ref (a 45), .ref (a 46), .ref (a 47), .ref (a 48), .ref (a 49), .ref (a 50), .ref (a 54)])), (a 42, .inl (t 0, 9, .inl f42)), (a 43, .inl (t 0, 9, .inl f43)), (a 44, .inl (t 0, 9, .inl f44)), (a 45, .inl (t 0, 9, .inl f45)), (a 46, .inl (t 0, 9, .inl f46)), (a 47, .inl (t 0, 9, .inl f47)), (a 49, .inl (t 0, 9, .inl f49)), (a 54, .inr (9, [.int v54_0, .int v54_1, .int v54_2, .ref (a 55), .ref (a 56), .ref (a 57), .ref (a 58)])), (a 120, .inl (t 0, 81, .inl (u.2.1 0))), (a 121, .inl (t 0, 9, .inl (u.2.1 1))), (a 125, .inl (t 0, 4, .inl (u.2.1 2)))]) u) t9.heap ∧ va_D (va_A [(a 14, .inr (2, [.ref (a 40), .int v14_1, .int v14_2, .int v14_3, .ref (a 120), .ref (a 121), .int v14_6, .ref (a 122), .int v14_8, .int v14_9, .int v14_10, .int v14_11, .int v14_12])), (a 16, .inr (3, [.ref (a 40), .ref (a 125), .ref (a 126)])), (a 40, .inr (0, [.int v40_0, .int v40_1, .int v40_2, .int v40_3, .int v40_4, .int v40_5, .int v40_6, .int v40_7, .ref (a 41), .ref (a 42), .ref (a 43), .ref (a 44), .ref (a 45), .ref (a 46), .ref (a 47), .ref (a 48), .ref (a 49), .ref (a 50), .ref (a 54)])), (a 42, .inl (t 0, 9, .inl f42)), (a 43, .inl (t 0, 9, .inl f43)), (a 44, .inl (t 0, 9, .inl f44)), (a 45, .inl (t 0, 9, .inl f45)), (a 46, .inl (t 0, 9, .inl f46)), (a 47, .inl (t 0, 9, .inl f47)), (a 49, .inl (t 0, 9, .inl f49)), (a 54, .inr (9, [.int v54_0, .int v54_1, .int v54_2, .ref (a 55), .ref (a 56), .ref (a 57), .ref (a 58)])), (a 120, .inl (t 0, 81, .inl f120)), (a 121, .inl (t 0, 9, .inl f121)), (a 125, .inl (t 0, 4, .inl f125))] sz) ((fun u : US => [(a 14, .inr (2, [.ref (a 40), .int (u.1 0), .int (u.1 1), .int (u.1 2), .ref (a 120), .ref (a 121), .int (u.1 3), .ref (a 122), .int v14_8, .int v14_9, .int v14_10, .int v14_11, .int v14_12])), (a 16, .inr (3, [.ref (a 40), .ref (a 125), .ref (a 126)])), (a 40, .inr (0, [.int v40_0, .int v40_1, .int v40_2, .int v40_3, .int v40_4, .int v40_5, .int v40_6, .int v40_7, .ref (a 41), .ref (a 42), .ref (a 43), .ref (a 44), .ref (a 45), .ref (a 46), .ref (a 47), .ref (a 48), .ref (a 49), .ref (a 50), .ref (a 54)])), (a 42, .inl (t 0, 9, .inl f42)), (a 43, .inl (t 0, 9, .inl f43)), (a 44, .inl (t 0, 9, .inl f44)), (a 45, .inl (t 0, 9, .inl f45)), (a 46, .inl (t 0, 9, .inl f46)), (a 47, .inl (t 0, 9, .inl f47)), (a 49, .inl (t 0, 9, .inl f49)), (a 54, .inr (9, [.int v54_0, .int v54_1, .int v54_2, .ref (a 55), .ref (a 56), .ref (a 57), .ref (a 58)])), (a 120, .inl (t 0, 81, .inl (u.2.1 0))), (a 121, .inl (t 0, 9, .inl (u.2.1 1))), (a 125, .inl (t 0, 4, .inl (u.2.1 2)))]) u)) (va_A [(a 14, .inr (2, [.ref (a 40), .int v14_1, .int v14_2, .int v14_3, .ref (a 120), .ref (a 121), .int v14_6, .ref (a 122), .int v14_8, .int v14_9, .int v14_10, .int v14_11, .int v14_12])), (a 16, .inr (3, [.ref (a 40), .ref (a 125), .ref (a 126)])), (a 40, .inr (0, [.int v40_0, .int v40_1, .int v40_2, .int v40_3, .int v40_4, .int v40_5, .int v40_6, .int v40_7, .ref (a 41), .ref (a 42), .ref (a 43), .ref (a 44), .ref (a 45), .ref (a 46), .ref (a 47), .ref (a 48), .ref (a 49), .ref (a 50), .ref (a 54)])), (a 42, .inl (t 0, 9, .inl f42)), (a 43, .inl (t 0, 9, .inl f43)), (a 44, .inl (t 0, 9, .inl f44)), (a 45, .inl (t 0, 9, .inl f45)), (a 46, .inl (t 0, 9, .inl f46)), (a 47, .inl (t 0, 9, .inl f47)), (a 49, .inl (t 0, 9, .inl f49)), (a 54, .inr (9, [.int v54_0, .int v54_1, .int v54_2, .ref (a 55), .ref (a 56), .ref (a 57), .ref (a 58)])), (a 120, .inl (t 0, 81, .inl f120)), (a 121, .inl (t 0, 9, .inl f121)), (a 125, .inl (t 0, 4, .inl f125))] sz)) 0 0 (va_A [(a 14, .inr (2, [.ref (a 40), .int v14_1, .int v14_2, .int v14_3, .ref (a 120), .ref (a 121), .int v14_6, .ref (a 122), .int v14_8, .int v14_9, .int v14_10, .int v14_11, .int v14_12])), (a 16, .inr (3, [.ref (a 40), .ref (a 125), .ref (a 126)])), (a 40, .inr (0, [.int v40_0, .int v40_1, .int v40_2, .int v40_3, .int v40_4, .int v40_5, .int v40_6, .int v40_7, .ref (a 41), .ref (a 42), .ref (a 43), .ref (a 44), .ref (a 45), .ref (a 46), .ref (a 47), .ref (a 48), .ref (a 49), .ref (a 50), .ref (a 54)])), (a 42, .inl (t 0, 9, .inl f42)), (a 43, .inl (t 0, 9, .inl f43)), (a 44, .inl (t 0, 9, .inl f44)), (a 45, .inl (t 0, 9, .inl f45)), (a 46, .inl (t 0, 9, .inl f46)), (a 47, .inl (t 0, 9, .inl f47)), (a 49, .inl (t 0, 9, .inl f49)), (a 54, .inr (9, [.int v54_0, .int v54_1, .int v54_2, .ref (a 55), .ref (a 56), .ref (a 57), .ref (a 58)])), (a 120, .inl (t 0, 81, .inl f120)), (a 121, .inl (t 0, 9, .inl f121)), (a 125, .inl (t 0, 4, .inl f125))] sz) := by
  refine Met.ofW (cc := cX3_gather) (maxL := 4) (ret := none) (by decide) rfl ?_
  intro p e s m args below meth c s₁ B hml hv
  obtain ⟨rfl, hsz, hP, hK, hD0, hN⟩ := hv
  have hx := B.exec
  have hb := B.bytes
  have hr := B.returns
  have hts : ∀ w ∈ TB, w.before _ s = true := fun w h => atoms_spec (ws := wd yX3_gather cX3_gather 4 none) B.pre w (List.mem_cons_of_mem _ h)
  have hown : s.vm.findClass RX3 = some m.cls := findClass_of_methodNamed B.named
  have hlocks := B.notSynchronized
  have hF : CallFix p m c cX3_gather 4 s _ TB RX3 := ⟨hx, hb, hml, hown, hts⟩
  have hl := lv_entry ([.ref (a 16), .ref (a 14)]) (n := 4) (Nat.le_of_ble_eq_true rfl)
  rw [lg_entry_eq]
  generalize (lg_sl ([.ref (a 16), .ref (a 14)]) ++ List.replicate (4 - (lg_sl ([.ref (a 16), .ref (a 14)])).length) Slot.unset).toArray = ls at hl ⊢
  have hl : lv_has ls 4 [(0, .ref (a 16)), (1, .ref (a 14))] := hl
  subst hsz
  have hD := hD0.self (sz := s.heap.size)
  generalize hAe : va_A [(a 14, .inr (2, [.ref (a 40), .int v14_1, .int v14_2, .int v14_3, .ref (a 120), .ref (a 121), .int v14_6, .ref (a 122), .int v14_8, .int v14_9, .int v14_10, .int v14_11, .int v14_12])), (a 16, .inr (3, [.ref (a 40), .ref (a 125), .ref (a 126)])), (a 40, .inr (0, [.int v40_0, .int v40_1, .int v40_2, .int v40_3, .int v40_4, .int v40_5, .int v40_6, .int v40_7, .ref (a 41), .ref (a 42), .ref (a 43), .ref (a 44), .ref (a 45), .ref (a 46), .ref (a 47), .ref (a 48), .ref (a 49), .ref (a 50), .ref (a 54)])), (a 42, .inl (t 0, 9, .inl f42)), (a 43, .inl (t 0, 9, .inl f43)), (a 44, .inl (t 0, 9, .inl f44)), (a 45, .inl (t 0, 9, .inl f45)), (a 46, .inl (t 0, 9, .inl f46)), (a 47, .inl (t 0, 9, .inl f47)), (a 49, .inl (t 0, 9, .inl f49)), (a 54, .inr (9, [.int v54_0, .int v54_1, .int v54_2, .ref (a 55), .ref (a 56), .ref (a 57), .ref (a 58)])), (a 120, .inl (t 0, 81, .inl f120)), (a 121, .inl (t 0, 9, .inl f121)), (a 125, .inl (t 0, 4, .inl f125))] s.heap.size = A at hD ⊢
  have hA : ∀ q : Nat, s.heap.size ≤ q → A q := fun q h => by rw [← hAe]; exact Or.inr h
  have hS : va_S A s.heap s.heap [] := va_S.rf
  have hP : va_P D classes [(a 14, .inr (2, [.ref (a 40), .int v14_1, .int v14_2, .int v14_3, .ref (a 120), .ref (a 121), .int v14_6, .ref (a 122), .int v14_8, .int v14_9, .int v14_10, .int v14_11, .int v14_12])), (a 16, .inr (3, [.ref (a 40), .ref (a 125), .ref (a 126)])), (a 40, .inr (0, [.int v40_0, .int v40_1, .int v40_2, .int v40_3, .int v40_4, .int v40_5, .int v40_6, .int v40_7, .ref (a 41), .ref (a 42), .ref (a 43), .ref (a 44), .ref (a 45), .ref (a 46), .ref (a 47), .ref (a 48), .ref (a 49), .ref (a 50), .ref (a 54)])), (a 42, .inl (t 0, 9, .inl f42)), (a 43, .inl (t 0, 9, .inl f43)), (a 44, .inl (t 0, 9, .inl f44)), (a 45, .inl (t 0, 9, .inl f45)), (a 46, .inl (t 0, 9, .inl f46)), (a 47, .inl (t 0, 9, .inl f47)), (a 49, .inl (t 0, 9, .inl f49)), (a 54, .inr (9, [.int v54_0, .int v54_1, .int v54_2, .ref (a 55), .ref (a 56), .ref (a 57), .ref (a 58)])), (a 120, .inl (t 0, 81, .inl f120)), (a 121, .inl (t 0, 9, .inl f121)), (a 125, .inl (t 0, 4, .inl f125))] s.heap := hP
  refine lv_aload_n hx hb dX3_gather_0 rfl (lv_at hl 0 rfl) ?_
  refine va_get (D := D) (ci := 3) (v := .ref (a 125)) (C := RX3) (T := TX3) (N := 3) hx hb hts iX3 hown hK hP 1 rfl rfl 1 (by decide) (hts _ m_350) (fun _ h9 => h9) rfl dX3_gather_1 ?_
  refine lv_iconst (v := 0) hx hb dX3_gather_4 (by decide) ?_
  refine y_wS (wr := [(a 14, .inr (2, [.ref (a 40), .int v14_1, .int v14_2, .int v14_3, .ref (a 120), .ref (a 121), .int v14_6, .ref (a 122), .int v14_8, .int v14_9, .int v14_10, .int v14_11, .int v14_12])), (a 16, .inr (3, [.ref (a 40), .ref (a 125), .ref (a 126)])), (a 40, .inr (0, [.int v40_0, .int v40_1, .int v40_2, .int v40_3, .int v40_4, .int v40_5, .int v40_6, .int v40_7, .ref (a 41), .ref (a 42), .ref (a 43), .ref (a 44), .ref (a 45), .ref (a 46), .ref (a 47), .ref (a 48), .ref (a 49), .ref (a 50), .ref (a 54)])), (a 42, .inl (t 0, 9, .inl f42)), (a 43, .inl (t 0, 9, .inl f43)), (a 44, .inl (t 0, 9, .inl f44)), (a 45, .inl (t 0, 9, .inl f45)), (a 46, .inl (t 0, 9, .inl f46)), (a 47, .inl (t 0, 9, .inl f47)), (a 49, .inl (t 0, 9, .inl f49)), (a 54, .inr (9, [.int v54_0, .int v54_1, .int v54_2, .ref (a 55), .ref (a 56), .ref (a 57), .ref (a 58)])), (a 120, .inl (t 0, 81, .inl f120)), (a 121, .inl (t 0, 9, .inl f121))]) hF (s_fill_125 l D t a f125 0 s.heap.size) m_1171 m_507 m_14 m_508 hd_J7_fill_53178 ⟨Nat.le_of_ble_eq_true rfl, Nat.le_of_ble_eq_true rfl⟩ hK hN hP hD hS hA [13] [0, 1, 2, 3, 4, 5, 6, 7, 8, 9, 10, 11, 12] rfl rfl (by decide) (by decide) (by decide) hl.1 rfl (Nat.le_of_ble_eq_true rfl) dX3_gather_5 ⟨Nat.zero_le _, Nat.zero_le _⟩ (fun u_1 H locs hu_1 hP hD hS => ?_)
  have hP : va_P D classes [(a 14, .inr (2, [.ref (a 40), .int v14_1, .int v14_2, .int v14_3, .ref (a 120), .ref (a 121), .int v14_6, .ref (a 122), .int v14_8, .int v14_9, .int v14_10, .int v14_11, .int v14_12])), (a 16, .inr (3, [.ref (a 40), .ref (a 125), .ref (a 126)])), (a 40, .inr (0, [.int v40_0, .int v40_1, .int v40_2, .int v40_3, .int v40_4, .int v40_5, .int v40_6, .int v40_7, .ref (a 41), .ref (a 42), .ref (a 43), .ref (a 44), .ref (a 45), .ref (a 46), .ref (a 47), .ref (a 48), .ref (a 49), .ref (a 50), .ref (a 54)])), (a 42, .inl (t 0, 9, .inl f42)), (a 43, .inl (t 0, 9, .inl f43)), (a 44, .inl (t 0, 9, .inl f44)), (a 45, .inl (t 0, 9, .inl f45)), (a 46, .inl (t 0, 9, .inl f46)), (a 47, .inl (t 0, 9, .inl f47)), (a 49, .inl (t 0, 9, .inl f49)), (a 54, .inr (9, [.int v54_0, .int v54_1, .int v54_2, .ref (a 55), .ref (a 56), .ref (a 57), .ref (a 58)])), (a 120, .inl (t 0, 81, .inl f120)), (a 121, .inl (t 0, 9, .inl f121)), (a 125, .inl (t 0, 4, .inl (u_1.2.1 0)))] H := hP
  have hD : va_D A [(a 14, .inr (2, [.ref (a 40), .int v14_1, .int v14_2, .int v14_3, .ref (a 120), .ref (a 121), .int v14_6, .ref (a 122), .int v14_8, .int v14_9, .int v14_10, .int v14_11, .int v14_12])), (a 16, .inr (3, [.ref (a 40), .ref (a 125), .ref (a 126)])), (a 40, .inr (0, [.int v40_0, .int v40_1, .int v40_2, .int v40_3, .int v40_4, .int v40_5, .int v40_6, .int v40_7, .ref (a 41), .ref (a 42), .ref (a 43), .ref (a 44), .ref (a 45), .ref (a 46), .ref (a 47), .ref (a 48), .ref (a 49), .ref (a 50), .ref (a 54)])), (a 42, .inl (t 0, 9, .inl f42)), (a 43, .inl (t 0, 9, .inl f43)), (a 44, .inl (t 0, 9, .inl f44)), (a 45, .inl (t 0, 9, .inl f45)), (a 46, .inl (t 0, 9, .inl f46)), (a 47, .inl (t 0, 9, .inl f47)), (a 49, .inl (t 0, 9, .inl f49)), (a 54, .inr (9, [.int v54_0, .int v54_1, .int v54_2, .ref (a 55), .ref (a 56), .ref (a 57), .ref (a 58)])), (a 120, .inl (t 0, 81, .inl f120)), (a 121, .inl (t 0, 9, .inl f121)), (a 125, .inl (t 0, 4, .inl (u_1.2.1 0)))] := hD
  refine lv_iconst (v := 0) hx hb dX3_gather_8 (by decide) ?_
  refine lv_istore_n (lv' := [(2, .int 0), (0, .ref (a 16)), (1, .ref (a 14))]) hx hb dX3_gather_9 rfl hl (by decide) rfl (fun ls hl => ?_)
  refine loopW (α := US) (fun n y_3 H locs ls => 4 < (y_3.1 0).toInt + (n : Int) ∧ rg 0 4 (y_3.1 0) ∧ va_P D classes [(a 14, .inr (2, [.ref (a 40), .int (y_3.1 1), .int (y_3.1 2), .int (y_3.1 3), .ref (a 120), .ref (a 121), .int (y_3.1 4), .ref (a 122), .int v14_8, .int v14_9, .int v14_10, .int v14_11, .int v14_12])), (a 16, .inr (3, [.ref (a 40), .ref (a 125), .ref (a 126)])), (a 40, .inr (0, [.int v40_0, .int v40_1, .int v40_2, .int v40_3, .int v40_4, .int v40_5, .int v40_6, .int v40_7, .ref (a 41), .ref (a 42), .ref (a 43), .ref (a 44), .ref (a 45), .ref (a 46), .ref (a 47), .ref (a 48), .ref (a 49), .ref (a 50), .ref (a 54)])), (a 42, .inl (t 0, 9, .inl f42)), (a 43, .inl (t 0, 9, .inl f43)), (a 44, .inl (t 0, 9, .inl f44)), (a 45, .inl (t 0, 9, .inl f45)), (a 46, .inl (t 0, 9, .inl f46)), (a 47, .inl (t 0, 9, .inl f47)), (a 49, .inl (t 0, 9, .inl f49)), (a 54, .inr (9, [.int v54_0, .int v54_1, .int v54_2, .ref (a 55), .ref (a 56), .ref (a 57), .ref (a 58)])), (a 120, .inl (t 0, 81, .inl (y_3.2.1 0))), (a 121, .inl (t 0, 9, .inl (y_3.2.1 1))), (a 125, .inl (t 0, 4, .inl (y_3.2.1 2)))] H ∧ va_D A [(a 14, .inr (2, [.ref (a 40), .int (y_3.1 1), .int (y_3.1 2), .int (y_3.1 3), .ref (a 120), .ref (a 121), .int (y_3.1 4), .ref (a 122), .int v14_8, .int v14_9, .int v14_10, .int v14_11, .int v14_12])), (a 16, .inr (3, [.ref (a 40), .ref (a 125), .ref (a 126)])), (a 40, .inr (0, [.int v40_0, .int v40_1, .int v40_2, .int v40_3, .int v40_4, .int v40_5, .int v40_6, .int v40_7, .ref (a 41), .ref (a 42), .ref (a 43), .ref (a 44), .ref (a 45), .ref (a 46), .ref (a 47), .ref (a 48), .ref (a 49), .ref (a 50), .ref (a 54)])), (a 42, .inl (t 0, 9, .inl f42)), (a 43, .inl (t 0, 9, .inl f43)), (a 44, .inl (t 0, 9, .inl f44)), (a 45, .inl (t 0, 9, .inl f45)), (a 46, .inl (t 0, 9, .inl f46)), (a 47, .inl (t 0, 9, .inl f47)), (a 49, .inl (t 0, 9, .inl f49)), (a 54, .inr (9, [.int v54_0, .int v54_1, .int v54_2, .ref (a 55), .ref (a 56), .ref (a 57), .ref (a 58)])), (a 120, .inl (t 0, 81, .inl (y_3.2.1 0))), (a 121, .inl (t 0, 9, .inl (y_3.2.1 1))), (a 125, .inl (t 0, 4, .inl (y_3.2.1 2)))] ∧ va_S A s.heap H locs ∧ lv_has ls 4 [(2, .int (y_3.1 0)), (0, .ref (a 16)), (1, .ref (a 14))]) 10 (fun y_3 => []) (fun _ _ _ _ h9 => m_0 h9.1 h9.2.1) (fun n ih_5 y_3 H locs ls hI => ?_) 5 (fun k => [0, v14_1, v14_2, v14_3, v14_6].getD k 0, fun k => [f120, f121, (u_1.2.1 0)].getD k (fun _ => 0), fun k => [].getD k (fun _ => 0), fun k => [].getD k 0) ⟨(m_i (rg_c (x := 0) (k := 0) (by decide)) (by decide)), (rg_w (c := 0) (d := 4) (rg_c (x := 0) (k := 0) (by decide)) (by decide) (by decide)), hP, hD, hS, (lv_sub hl [0, 1, 2] rfl)⟩
  obtain ⟨me_6, h_4, hP, hD, hS, hl⟩ := hI
  refine lv_iload_n hx hb dX3_gather_10 rfl (lv_at hl 0 rfl) ?_
  refine lv_aload_n hx hb dX3_gather_11 rfl (lv_at hl 1 rfl) ?_
  refine va_get (D := D) (ci := 3) (v := .ref (a 40)) (C := RX3) (T := TX3) (N := 3) hx hb hts iX3 hown hK hP 1 rfl rfl 0 (by decide) (hts _ m_349) (fun _ h9 => h9) rfl dX3_gather_12 ?_
  refine va_getN (D := D) (ci := 0) (v := .int v40_5) (C := RX0) (T := TX0) (N := 19) (host := "WordSeats") hx hb hts iX0 hown hK hP 2 rfl rfl 5 (by decide) (va_Nw.use rfl (hN _ n_136)) (fun _ h9 => h9) rfl dX3_gather_15 ?_
  refine lv_icmp_ge (tgt := 82) hx hb dX3_gather_18 (by decide) (fun c_7 => ?_) (fun c_7 => ?_)
  · skip
    have hP9 := hP.sub (ws' := [(a 14, .inr (2, [.ref (a 40), .int (y_3.1 1), .int (y_3.1 2), .int (y_3.1 3), .ref (a 120), .ref (a 121), .int (y_3.1 4), .ref (a 122), .int v14_8, .int v14_9, .int v14_10, .int v14_11, .int v14_12])), (a 16, .inr (3, [.ref (a 40), .ref (a 125), .ref (a 126)])), (a 40, .inr (0, [.int v40_0, .int v40_1, .int v40_2, .int v40_3, .int v40_4, .int v40_5, .int v40_6, .int v40_7, .ref (a 41), .ref (a 42), .ref (a 43), .ref (a 44), .ref (a 45), .ref (a 46), .ref (a 47), .ref (a 48), .ref (a 49), .ref (a 50), .ref (a 54)])), (a 42, .inl (t 0, 9, .inl f42)), (a 43, .inl (t 0, 9, .inl f43)), (a 44, .inl (t 0, 9, .inl f44)), (a 45, .inl (t 0, 9, .inl f45)), (a 46, .inl (t 0, 9, .inl f46)), (a 47, .inl (t 0, 9, .inl f47)), (a 49, .inl (t 0, 9, .inl f49)), (a 54, .inr (9, [.int v54_0, .int v54_1, .int v54_2, .ref (a 55), .ref (a 56), .ref (a 57), .ref (a 58)])), (a 120, .inl (t 0, 81, .inl (y_3.2.1 0))), (a 121, .inl (t 0, 9, .inl (y_3.2.1 1))), (a 125, .inl (t 0, 4, .inl (y_3.2.1 2)))]) [0, 1, 2, 3, 4, 5, 6, 7, 8, 9, 10, 11, 12, 13] rfl
    have hD9 := hD.sub (ws' := [(a 14, .inr (2, [.ref (a 40), .int (y_3.1 1), .int (y_3.1 2), .int (y_3.1 3), .ref (a 120), .ref (a 121), .int (y_3.1 4), .ref (a 122), .int v14_8, .int v14_9, .int v14_10, .int v14_11, .int v14_12])), (a 16, .inr (3, [.ref (a 40), .ref (a 125), .ref (a 126)])), (a 40, .inr (0, [.int v40_0, .int v40_1, .int v40_2, .int v40_3, .int v40_4, .int v40_5, .int v40_6, .int v40_7, .ref (a 41), .ref (a 42), .ref (a 43), .ref (a 44), .ref (a 45), .ref (a 46), .ref (a 47), .ref (a 48), .ref (a 49), .ref (a 50), .ref (a 54)])), (a 42, .inl (t 0, 9, .inl f42)), (a 43, .inl (t 0, 9, .inl f43)), (a 44, .inl (t 0, 9, .inl f44)), (a 45, .inl (t 0, 9, .inl f45)), (a 46, .inl (t 0, 9, .inl f46)), (a 47, .inl (t 0, 9, .inl f47)), (a 49, .inl (t 0, 9, .inl f49)), (a 54, .inr (9, [.int v54_0, .int v54_1, .int v54_2, .ref (a 55), .ref (a 56), .ref (a 57), .ref (a 58)])), (a 120, .inl (t 0, 81, .inl (y_3.2.1 0))), (a 121, .inl (t 0, 9, .inl (y_3.2.1 1))), (a 125, .inl (t 0, 4, .inl (y_3.2.1 2)))]) [0, 1, 2, 3, 4, 5, 6, 7, 8, 9, 10, 11, 12, 13] (by decide) rfl
    exact W.vret hx hb hr (fun t9 ht hW => ⟨⟨(fun k => [(y_3.1 1), (y_3.1 2), (y_3.1 3), (y_3.1 4)].getD k 0, fun k => [(y_3.2.1 0), (y_3.2.1 1), (y_3.2.1 2)].getD k (fun _ => 0), fun k => [].getD k (fun _ => 0), fun _ => 0), rfl, trivial, by rw [ht]; exact hP9, hD9⟩, hS.F ht⟩) hS.2.2 dX3_gather_82
  · skip
    have h_8 : rg 0 3 (y_3.1 0) := ⟨(h_4).1, Int.le_trans (c_nleR c_7 r40_5) (by decide)⟩
    have h_9 : rg 1 4 v40_5 := ⟨Int.le_trans (by decide) (c_nle c_7 h_4), (r40_5).2⟩
    refine lv_aload_n hx hb dX3_gather_21 rfl (lv_at hl 2 rfl) ?_
    refine lv_iload_n hx hb dX3_gather_22 rfl (lv_at hl 0 rfl) ?_
    refine y_wV (wr := [(a 16, .inr (3, [.ref (a 40), .ref (a 125), .ref (a 126)])), (a 44, .inl (t 0, 9, .inl f44)), (a 121, .inl (t 0, 9, .inl (y_3.2.1 1))), (a 125, .inl (t 0, 4, .inl (y_3.2.1 2)))]) hF (s_X2_open l D t a (y_3.1 1) (y_3.1 2) (y_3.1 3) (y_3.1 4) v14_8 v14_9 v14_10 v14_11 v14_12 v40_0 v40_1 v40_2 v40_3 v40_4 v40_5 v40_6 v40_7 f42 f43 f45 f46 f47 f49 v54_0 v54_1 v54_2 (y_3.2.1 0) (y_3.1 0) r14_8 r14_9 r40_1 (rg_w (c := 0) (d := 4) h_9 (by decide) (by decide)) r40_6 r40_7 q43 r54_0 H.size) m_1172 m_763 m_764 m_7 m_765 hd_X2_open ⟨Nat.le_of_ble_eq_true rfl, Nat.le_of_ble_eq_true rfl⟩ hK hN hP hD hS hA 0 (ci := 2) rfl rfl rfl [0, 2, 3, 4, 6, 7, 8, 9, 10, 11] [1, 5, 12, 13] rfl rfl (by decide) (by decide) (by decide) hl.1 rfl (Nat.le_of_ble_eq_true rfl) dX3_gather_23 ⟨Nat.zero_le _, Nat.zero_le _⟩ (fun u_10 H locs hu_10 hP hD hS => ?_)
    have ou_10 := hu_10
    have hP : va_P D classes [(a 16, .inr (3, [.ref (a 40), .ref (a 125), .ref (a 126)])), (a 44, .inl (t 0, 9, .inl f44)), (a 121, .inl (t 0, 9, .inl (y_3.2.1 1))), (a 125, .inl (t 0, 4, .inl (y_3.2.1 2))), (a 14, .inr (2, [.ref (a 40), .int (u_10.1 0), .int (u_10.1 1), .int (u_10.1 2), .ref (a 120), .ref (a 121), .int (y_3.1 4), .ref (a 122), .int v14_8, .int v14_9, .int v14_10, .int v14_11, .int v14_12])), (a 40, .inr (0, [.int v40_0, .int v40_1, .int v40_2, .int v40_3, .int v40_4, .int v40_5, .int v40_6, .int v40_7, .ref (a 41), .ref (a 42), .ref (a 43), .ref (a 44), .ref (a 45), .ref (a 46), .ref (a 47), .ref (a 48), .ref (a 49), .ref (a 50), .ref (a 54)])), (a 42, .inl (t 0, 9, .inl f42)), (a 43, .inl (t 0, 9, .inl f43)), (a 45, .inl (t 0, 9, .inl f45)), (a 46, .inl (t 0, 9, .inl f46)), (a 47, .inl (t 0, 9, .inl f47)), (a 49, .inl (t 0, 9, .inl f49)), (a 54, .inr (9, [.int v54_0, .int v54_1, .int v54_2, .ref (a 55), .ref (a 56), .ref (a 57), .ref (a 58)])), (a 120, .inl (t 0, 81, .inl (u_10.2.1 0)))] H := hP
    have hD : va_D A [(a 16, .inr (3, [.ref (a 40), .ref (a 125), .ref (a 126)])), (a 44, .inl (t 0, 9, .inl f44)), (a 121, .inl (t 0, 9, .inl (y_3.2.1 1))), (a 125, .inl (t 0, 4, .inl (y_3.2.1 2))), (a 14, .inr (2, [.ref (a 40), .int (u_10.1 0), .int (u_10.1 1), .int (u_10.1 2), .ref (a 120), .ref (a 121), .int (y_3.1 4), .ref (a 122), .int v14_8, .int v14_9, .int v14_10, .int v14_11, .int v14_12])), (a 40, .inr (0, [.int v40_0, .int v40_1, .int v40_2, .int v40_3, .int v40_4, .int v40_5, .int v40_6, .int v40_7, .ref (a 41), .ref (a 42), .ref (a 43), .ref (a 44), .ref (a 45), .ref (a 46), .ref (a 47), .ref (a 48), .ref (a 49), .ref (a 50), .ref (a 54)])), (a 42, .inl (t 0, 9, .inl f42)), (a 43, .inl (t 0, 9, .inl f43)), (a 45, .inl (t 0, 9, .inl f45)), (a 46, .inl (t 0, 9, .inl f46)), (a 47, .inl (t 0, 9, .inl f47)), (a 49, .inl (t 0, 9, .inl f49)), (a 54, .inr (9, [.int v54_0, .int v54_1, .int v54_2, .ref (a 55), .ref (a 56), .ref (a 57), .ref (a 58)])), (a 120, .inl (t 0, 81, .inl (u_10.2.1 0)))] := hD
    refine lv_aload_n hx hb dX3_gather_26 rfl (lv_at hl 2 rfl) ?_
    refine lv_aload_n hx hb dX3_gather_27 rfl (lv_at hl 2 rfl) ?_
    refine va_getN (D := D) (ci := 2) (v := .int (u_10.1 0)) (C := RX2) (T := TX2) (N := 13) (host := "WordSeats") hx hb hts iX2 hown hK hP 4 rfl rfl 1 (by decide) (va_Nw.use rfl (hN _ n_277)) (fun _ h9 => h9) rfl dX3_gather_28 ?_
    refine y_wV (wr := [(a 16, .inr (3, [.ref (a 40), .ref (a 125), .ref (a 126)])), (a 44, .inl (t 0, 9, .inl f44)), (a 125, .inl (t 0, 4, .inl (y_3.2.1 2))), (a 42, .inl (t 0, 9, .inl f42)), (a 43, .inl (t 0, 9, .inl f43)), (a 45, .inl (t 0, 9, .inl f45)), (a 46, .inl (t 0, 9, .inl f46)), (a 49, .inl (t 0, 9, .inl f49)), (a 54, .inr (9, [.int v54_0, .int v54_1, .int v54_2, .ref (a 55), .ref (a 56), .ref (a 57), .ref (a 58)]))]) hF (s_X2_tallyFirst l D t a (u_10.1 0) (u_10.1 1) (u_10.1 2) (y_3.1 4) v14_8 v14_9 v14_10 v14_11 v14_12 v40_0 v40_1 v40_2 v40_3 v40_4 v40_5 v40_6 v40_7 f47 (u_10.2.1 0) (y_3.2.1 1) (u_10.1 0) r14_8 r14_9 r40_1 (rg_w (c := 0) (d := 4) h_9 (by decide) (by decide)) r40_6 r40_7 H.size) m_1173 m_796 m_797 m_7 m_798 hd_X2_tallyFirst ⟨Nat.le_of_ble_eq_true rfl, Nat.le_of_ble_eq_true rfl⟩ hK hN hP hD hS hA 0 (ci := 2) rfl rfl rfl [4, 5, 10, 13, 2] [0, 1, 3, 6, 7, 8, 9, 11, 12] rfl rfl (by decide) (by decide) (by decide) hl.1 rfl (Nat.le_of_ble_eq_true rfl) dX3_gather_31 ⟨Nat.zero_le _, Nat.zero_le _⟩ (fun u_12 H locs hu_12 hP hD hS => ?_)
    have hP : va_P D classes [(a 16, .inr (3, [.ref (a 40), .ref (a 125), .ref (a 126)])), (a 44, .inl (t 0, 9, .inl f44)), (a 125, .inl (t 0, 4, .inl (y_3.2.1 2))), (a 42, .inl (t 0, 9, .inl f42)), (a 43, .inl (t 0, 9, .inl f43)), (a 45, .inl (t 0, 9, .inl f45)), (a 46, .inl (t 0, 9, .inl f46)), (a 49, .inl (t 0, 9, .inl f49)), (a 54, .inr (9, [.int v54_0, .int v54_1, .int v54_2, .ref (a 55), .ref (a 56), .ref (a 57), .ref (a 58)])), (a 14, .inr (2, [.ref (a 40), .int (u_10.1 0), .int (u_10.1 1), .int (u_10.1 2), .ref (a 120), .ref (a 121), .int (u_12.1 0), .ref (a 122), .int v14_8, .int v14_9, .int v14_10, .int v14_11, .int v14_12])), (a 40, .inr (0, [.int v40_0, .int v40_1, .int v40_2, .int v40_3, .int v40_4, .int v40_5, .int v40_6, .int v40_7, .ref (a 41), .ref (a 42), .ref (a 43), .ref (a 44), .ref (a 45), .ref (a 46), .ref (a 47), .ref (a 48), .ref (a 49), .ref (a 50), .ref (a 54)])), (a 47, .inl (t 0, 9, .inl f47)), (a 120, .inl (t 0, 81, .inl (u_10.2.1 0))), (a 121, .inl (t 0, 9, .inl (u_12.2.1 0)))] H := hP
    have hD : va_D A [(a 16, .inr (3, [.ref (a 40), .ref (a 125), .ref (a 126)])), (a 44, .inl (t 0, 9, .inl f44)), (a 125, .inl (t 0, 4, .inl (y_3.2.1 2))), (a 42, .inl (t 0, 9, .inl f42)), (a 43, .inl (t 0, 9, .inl f43)), (a 45, .inl (t 0, 9, .inl f45)), (a 46, .inl (t 0, 9, .inl f46)), (a 49, .inl (t 0, 9, .inl f49)), (a 54, .inr (9, [.int v54_0, .int v54_1, .int v54_2, .ref (a 55), .ref (a 56), .ref (a 57), .ref (a 58)])), (a 14, .inr (2, [.ref (a 40), .int (u_10.1 0), .int (u_10.1 1), .int (u_10.1 2), .ref (a 120), .ref (a 121), .int (u_12.1 0), .ref (a 122), .int v14_8, .int v14_9, .int v14_10, .int v14_11, .int v14_12])), (a 40, .inr (0, [.int v40_0, .int v40_1, .int v40_2, .int v40_3, .int v40_4, .int v40_5, .int v40_6, .int v40_7, .ref (a 41), .ref (a 42), .ref (a 43), .ref (a 44), .ref (a 45), .ref (a 46), .ref (a 47), .ref (a 48), .ref (a 49), .ref (a 50), .ref (a 54)])), (a 47, .inl (t 0, 9, .inl f47)), (a 120, .inl (t 0, 81, .inl (u_10.2.1 0))), (a 121, .inl (t 0, 9, .inl (u_12.2.1 0)))] := hD
    refine lv_iconst (v := 0) hx hb dX3_gather_34 (by decide) ?_
    refine lv_istore_n (lv' := [(3, .int 0), (2, .int (y_3.1 0)), (0, .ref (a 16)), (1, .ref (a 14))]) hx hb dX3_gather_35 rfl hl (by decide) rfl (fun ls hl => ?_)
    refine loopW (α := US) (fun n y_14 H locs ls => 9 < (y_14.1 0).toInt + (n : Int) ∧ rg 0 9 (y_14.1 0) ∧ va_P D classes [(a 16, .inr (3, [.ref (a 40), .ref (a 125), .ref (a 126)])), (a 44, .inl (t 0, 9, .inl f44)), (a 125, .inl (t 0, 4, .inl (y_14.2.1 0))), (a 42, .inl (t 0, 9, .inl f42)), (a 43, .inl (t 0, 9, .inl f43)), (a 45, .inl (t 0, 9, .inl f45)), (a 46, .inl (t 0, 9, .inl f46)), (a 49, .inl (t 0, 9, .inl f49)), (a 54, .inr (9, [.int v54_0, .int v54_1, .int v54_2, .ref (a 55), .ref (a 56), .ref (a 57), .ref (a 58)])), (a 14, .inr (2, [.ref (a 40), .int (u_10.1 0), .int (u_10.1 1), .int (u_10.1 2), .ref (a 120), .ref (a 121), .int (u_12.1 0), .ref (a 122), .int v14_8, .int v14_9, .int v14_10, .int v14_11, .int v14_12])), (a 40, .inr (0, [.int v40_0, .int v40_1, .int v40_2, .int v40_3, .int v40_4, .int v40_5, .int v40_6, .int v40_7, .ref (a 41), .ref (a 42), .ref (a 43), .ref (a 44), .ref (a 45), .ref (a 46), .ref (a 47), .ref (a 48), .ref (a 49), .ref (a 50), .ref (a 54)])), (a 47, .inl (t 0, 9, .inl f47)), (a 120, .inl (t 0, 81, .inl (u_10.2.1 0))), (a 121, .inl (t 0, 9, .inl (u_12.2.1 0)))] H ∧ va_D A [(a 16, .inr (3, [.ref (a 40), .ref (a 125), .ref (a 126)])), (a 44, .inl (t 0, 9, .inl f44)), (a 125, .inl (t 0, 4, .inl (y_14.2.1 0))), (a 42, .inl (t 0, 9, .inl f42)), (a 43, .inl (t 0, 9, .inl f43)), (a 45, .inl (t 0, 9, .inl f45)), (a 46, .inl (t 0, 9, .inl f46)), (a 49, .inl (t 0, 9, .inl f49)), (a 54, .inr (9, [.int v54_0, .int v54_1, .int v54_2, .ref (a 55), .ref (a 56), .ref (a 57), .ref (a 58)])), (a 14, .inr (2, [.ref (a 40), .int (u_10.1 0), .int (u_10.1 1), .int (u_10.1 2), .ref (a 120), .ref (a 121), .int (u_12.1 0), .ref (a 122), .int v14_8, .int v14_9, .int v14_10, .int v14_11, .int v14_12])), (a 40, .inr (0, [.int v40_0, .int v40_1, .int v40_2, .int v40_3, .int v40_4, .int v40_5, .int v40_6, .int v40_7, .ref (a 41), .ref (a 42), .ref (a 43), .ref (a 44), .ref (a 45), .ref (a 46), .ref (a 47), .ref (a 48), .ref (a 49), .ref (a 50), .ref (a 54)])), (a 47, .inl (t 0, 9, .inl f47)), (a 120, .inl (t 0, 81, .inl (u_10.2.1 0))), (a 121, .inl (t 0, 9, .inl (u_12.2.1 0)))] ∧ va_S A s.heap H locs ∧ lv_has ls 4 [(3, .int (y_14.1 0)), (2, .int (y_3.1 0)), (0, .ref (a 16)), (1, .ref (a 14))]) 36 (fun y_14 => []) (fun _ _ _ _ h9 => m_0 h9.1 h9.2.1) (fun n ih_16 y_14 H locs ls hI => ?_) 10 (fun k => [0].getD k 0, fun k => [(y_3.2.1 2)].getD k (fun _ => 0), fun k => [].getD k (fun _ => 0), fun k => [].getD k 0) ⟨(m_i (rg_c (x := 0) (k := 0) (by decide)) (by decide)), (rg_w (c := 0) (d := 9) (rg_c (x := 0) (k := 0) (by decide)) (by decide) (by decide)), hP, hD, hS, (lv_sub hl [0, 1, 2, 3] rfl)⟩
    obtain ⟨me_17, h_15, hP, hD, hS, hl⟩ := hI
    refine lv_iload_n hx hb dX3_gather_36 rfl (lv_at hl 0 rfl) ?_
    refine lv_aload_n hx hb dX3_gather_37 rfl (lv_at hl 2 rfl) ?_
    refine va_get (D := D) (ci := 3) (v := .ref (a 40)) (C := RX3) (T := TX3) (N := 3) hx hb hts iX3 hown hK hP 0 rfl rfl 0 (by decide) (hts _ m_349) (fun _ h9 => h9) rfl dX3_gather_38 ?_
    refine va_getN (D := D) (ci := 0) (v := .int v40_6) (C := RX0) (T := TX0) (N := 19) (host := "WordSeats") hx hb hts iX0 hown hK hP 10 rfl rfl 6 (by decide) (va_Nw.use rfl (hN _ n_140)) (fun _ h9 => h9) rfl dX3_gather_41 ?_
    refine lv_icmp_ge (tgt := 76) hx hb dX3_gather_44 (by decide) (fun c_18 => ?_) (fun c_18 => ?_)
    · skip
      obtain ⟨x_19, ex_19⟩ : ∃ y9 : Int32, y9 = (y_3.1 0) + 1 := ⟨_, rfl⟩
      have hx_19 : rg 1 4 x_19 := by rw [ex_19]; exact rg_add h_8 (rg_c (x := 1) (k := 1) (by decide)) (by decide) (by decide) (by decide) (by decide)
      have tx_19 : x_19.toInt = (y_3.1 0).toInt + 1 := by rw [ex_19]; exact inc_tk h_8 (by decide) (by decide) (by decide)
      refine lv_iinc (v := x_19) (lv' := [(2, .int x_19), (3, .int (y_14.1 0)), (0, .ref (a 16)), (1, .ref (a 14))]) hx hb dX3_gather_76 hl (k := 1) rfl (by rw [ex_19]; rfl) (by decide) rfl (fun ls hl => ?_)
      refine lv_goto (tgt := 10) hx hb dX3_gather_79 (by decide) ?_
      exact ih_5 (fun k => [x_19, (u_10.1 0), (u_10.1 1), (u_10.1 2), (u_12.1 0)].getD k 0, fun k => [(u_10.2.1 0), (u_12.2.1 0), (y_14.2.1 0)].getD k (fun _ => 0), fun k => [].getD k (fun _ => 0), fun k => [].getD k 0) _ _ ls ⟨(m_upk me_6 tx_19 (by decide)), (rg_w (c := 0) (d := 4) hx_19 (by decide) (by decide)), (hP.sub [9, 0, 10, 3, 4, 1, 5, 6, 11, 7, 8, 12, 13, 2] rfl), (hD.sub [9, 0, 10, 3, 4, 1, 5, 6, 11, 7, 8, 12, 13, 2] (by decide) rfl), hS, (lv_sub hl [0, 2, 3] rfl)⟩
    · skip
      have h_20 : rg 0 8 (y_14.1 0) := ⟨(h_15).1, Int.le_trans (c_nleR c_18 r40_6) (by decide)⟩
      have h_21 : rg 1 9 v40_6 := ⟨Int.le_trans (by decide) (c_nle c_18 h_15), (r40_6).2⟩
      refine lv_aload_n hx hb dX3_gather_47 rfl (lv_at hl 2 rfl) ?_
      refine va_get (D := D) (ci := 3) (v := .ref (a 125)) (C := RX3) (T := TX3) (N := 3) hx hb hts iX3 hown hK hP 0 rfl rfl 1 (by decide) (hts _ m_350) (fun _ h9 => h9) rfl dX3_gather_48 ?_
      refine lv_aload_n hx hb dX3_gather_51 rfl (lv_at hl 2 rfl) ?_
      refine va_get (D := D) (ci := 3) (v := .ref (a 40)) (C := RX3) (T := TX3) (N := 3) hx hb hts iX3 hown hK hP 0 rfl rfl 0 (by decide) (hts _ m_349) (fun _ h9 => h9) rfl dX3_gather_52 ?_
      refine va_getN (D := D) (ci := 0) (v := .ref (a 44)) (C := RX0) (T := TX0) (N := 19) (host := "WordSeats") hx hb hts iX0 hown hK hP 10 rfl rfl 11 (by decide) (va_Nw.use rfl (hN _ n_165)) (fun _ h9 => h9) rfl dX3_gather_55 ?_
      refine lv_iload_n hx hb dX3_gather_58 rfl (lv_at hl 0 rfl) ?_
      refine va_iald hx hb hK hP 1 0 rfl rfl (in_rg h_20 (by decide) (by decide)) dX3_gather_59 ?_
      refine lv_topi (fun x_22 ex_22 => ?_)
      have hx_22 : rg 0 3 x_22 := by rw [ex_22]; exact q44 _ (cl_rg h_20 (by decide) (by decide))
      refine lv_dup2_11 hx hb dX3_gather_60 rfl rfl ?_
      refine va_iald hx hb hK hP 2 0 rfl rfl (in_rg hx_22 (by decide) (by decide)) dX3_gather_61 ?_
      refine lv_topi (fun x_23 ex_23 => ?_)
      refine lv_aload_n hx hb dX3_gather_62 rfl (lv_at hl 3 rfl) ?_
      refine va_getN (D := D) (ci := 2) (v := .ref (a 121)) (C := RX2) (T := TX2) (N := 13) (host := "WordSeats") hx hb hts iX2 hown hK hP 9 rfl rfl 5 (by decide) (va_Nw.use rfl (hN _ n_284)) (fun _ h9 => h9) rfl dX3_gather_63 ?_
      refine lv_iload_n hx hb dX3_gather_66 rfl (lv_at hl 0 rfl) ?_
      refine va_iald hx hb hK hP 13 0 rfl rfl (in_rg h_20 (by decide) (by decide)) dX3_gather_67 ?_
      refine lv_topi (fun x_24 ex_24 => ?_)
      refine lv_iadd hx hb dX3_gather_68 ?_
      refine lv_topi (fun x_25 ex_25 => ?_)
      refine x_iast hx hb hK hP hD hS 2 0 rfl rfl (in_rg hx_22 (by decide) (by decide)) dX3_gather_69 (fun g_26 H locs hP hD hS => ?_)
      have hP : va_P D classes [(a 16, .inr (3, [.ref (a 40), .ref (a 125), .ref (a 126)])), (a 44, .inl (t 0, 9, .inl f44)), (a 125, .inl (t 0, 4, .inl g_26)), (a 42, .inl (t 0, 9, .inl f42)), (a 43, .inl (t 0, 9, .inl f43)), (a 45, .inl (t 0, 9, .inl f45)), (a 46, .inl (t 0, 9, .inl f46)), (a 49, .inl (t 0, 9, .inl f49)), (a 54, .inr (9, [.int v54_0, .int v54_1, .int v54_2, .ref (a 55), .ref (a 56), .ref (a 57), .ref (a 58)])), (a 14, .inr (2, [.ref (a 40), .int (u_10.1 0), .int (u_10.1 1), .int (u_10.1 2), .ref (a 120), .ref (a 121), .int (u_12.1 0), .ref (a 122), .int v14_8, .int v14_9, .int v14_10, .int v14_11, .int v14_12])), (a 40, .inr (0, [.int v40_0, .int v40_1, .int v40_2, .int v40_3, .int v40_4, .int v40_5, .int v40_6, .int v40_7, .ref (a 41), .ref (a 42), .ref (a 43), .ref (a 44), .ref (a 45), .ref (a 46), .ref (a 47), .ref (a 48), .ref (a 49), .ref (a 50), .ref (a 54)])), (a 47, .inl (t 0, 9, .inl f47)), (a 120, .inl (t 0, 81, .inl (u_10.2.1 0))), (a 121, .inl (t 0, 9, .inl (u_12.2.1 0)))] H := hP
      have hD : va_D A [(a 16, .inr (3, [.ref (a 40), .ref (a 125), .ref (a 126)])), (a 44, .inl (t 0, 9, .inl f44)), (a 125, .inl (t 0, 4, .inl g_26)), (a 42, .inl (t 0, 9, .inl f42)), (a 43, .inl (t 0, 9, .inl f43)), (a 45, .inl (t 0, 9, .inl f45)), (a 46, .inl (t 0, 9, .inl f46)), (a 49, .inl (t 0, 9, .inl f49)), (a 54, .inr (9, [.int v54_0, .int v54_1, .int v54_2, .ref (a 55), .ref (a 56), .ref (a 57), .ref (a 58)])), (a 14, .inr (2, [.ref (a 40), .int (u_10.1 0), .int (u_10.1 1), .int (u_10.1 2), .ref (a 120), .ref (a 121), .int (u_12.1 0), .ref (a 122), .int v14_8, .int v14_9, .int v14_10, .int v14_11, .int v14_12])), (a 40, .inr (0, [.int v40_0, .int v40_1, .int v40_2, .int v40_3, .int v40_4, .int v40_5, .int v40_6, .int v40_7, .ref (a 41), .ref (a 42), .ref (a 43), .ref (a 44), .ref (a 45), .ref (a 46), .ref (a 47), .ref (a 48), .ref (a 49), .ref (a 50), .ref (a 54)])), (a 47, .inl (t 0, 9, .inl f47)), (a 120, .inl (t 0, 81, .inl (u_10.2.1 0))), (a 121, .inl (t 0, 9, .inl (u_12.2.1 0)))] := hD
      obtain ⟨x_27, ex_27⟩ : ∃ y9 : Int32, y9 = (y_14.1 0) + 1 := ⟨_, rfl⟩
      have hx_27 : rg 1 9 x_27 := by rw [ex_27]; exact rg_add h_20 (rg_c (x := 1) (k := 1) (by decide)) (by decide) (by decide) (by decide) (by decide)
      have tx_27 : x_27.toInt = (y_14.1 0).toInt + 1 := by rw [ex_27]; exact inc_tk h_20 (by decide) (by decide) (by decide)
      refine lv_iinc (v := x_27) (lv' := [(3, .int x_27), (2, .int (y_3.1 0)), (0, .ref (a 16)), (1, .ref (a 14))]) hx hb dX3_gather_70 hl (k := 0) rfl (by rw [ex_27]; rfl) (by decide) rfl (fun ls hl => ?_)
      refine lv_goto (tgt := 36) hx hb dX3_gather_73 (by decide) ?_
      exact ih_16 (fun k => [x_27].getD k 0, fun k => [g_26].getD k (fun _ => 0), fun k => [].getD k (fun _ => 0), fun k => [].getD k 0) _ _ ls ⟨(m_upk me_17 tx_27 (by decide)), (rg_w (c := 0) (d := 9) hx_27 (by decide) (by decide)), hP, hD, hS, (lv_sub hl [0, 1, 2, 3] rfl)⟩

set_option maxHeartbeats 4000000 in
set_option maxRecDepth 100000 in
theorem s_X3_allot (l : Launch) (D : va_G) (t : Nat → ClassId) (a : Nat → Nat) (f125 : Nat → Int32) (f126 : Nat → Int32) (p0 : Int32) (rp0 : rg 0 20 p0) (sz : Nat) : Met l yX3_allot (wd yX3_allot cX3_allot 5 none) (RM 1 0 0) (PreW D (TY t) [.ref (a 16), .int p0] [(a 16, .inr (3, [.ref (a 40), .ref (a 125), .ref (a 126)])), (a 125, .inl (t 0, 4, .inl f125)), (a 126, .inl (t 0, 4, .inl f126))] sz) (va_Qv (fun (_ : US) => True) (fun (u : US) t9 => va_P D classes ((fun u : US => [(a 16, .inr (3, [.ref (a 40), .ref (a 125), .ref (a 126)])), (a 125, .inl (t 0, 4, .inl f125)), (a 126, .inl (t 0, 4, .inl (u.2.1 0)))]) u) t9.heap ∧ va_D (va_A [(a 16, .inr (3, [.ref (a 40), .ref (a 125), .ref (a 126)])), (a 125, .inl (t 0, 4, .inl f125)), (a 126, .inl (t 0, 4, .inl f126))] sz) ((fun u : US => [(a 16, .inr (3, [.ref (a 40), .ref (a 125), .ref (a 126)])), (a 125, .inl (t 0, 4, .inl f125)), (a 126, .inl (t 0, 4, .inl (u.2.1 0)))]) u)) (va_A [(a 16, .inr (3, [.ref (a 40), .ref (a 125), .ref (a 126)])), (a 125, .inl (t 0, 4, .inl f125)), (a 126, .inl (t 0, 4, .inl f126))] sz)) 0 0 (va_A [(a 16, .inr (3, [.ref (a 40), .ref (a 125), .ref (a 126)])), (a 125, .inl (t 0, 4, .inl f125)), (a 126, .inl (t 0, 4, .inl f126))] sz) := by
  refine Met.ofW (cc := cX3_allot) (maxL := 5) (ret := none) (by decide) rfl ?_
  intro p e s m args below meth c s₁ B hml hv
  obtain ⟨rfl, hsz, hP, hK, hD0, hN⟩ := hv
  have hx := B.exec
  have hb := B.bytes
  have hr := B.returns
  have hts : ∀ w ∈ TB, w.before _ s = true := fun w h => atoms_spec (ws := wd yX3_allot cX3_allot 5 none) B.pre w (List.mem_cons_of_mem _ h)
  have hown : s.vm.findClass RX3 = some m.cls := findClass_of_methodNamed B.named
  have hlocks := B.notSynchronized
  have hF : CallFix p m c cX3_allot 5 s _ TB RX3 := ⟨hx, hb, hml, hown, hts⟩
  have hl := lv_entry ([.ref (a 16), .int p0]) (n := 5) (Nat.le_of_ble_eq_true rfl)
  rw [lg_entry_eq]
  generalize (lg_sl ([.ref (a 16), .int p0]) ++ List.replicate (5 - (lg_sl ([.ref (a 16), .int p0])).length) Slot.unset).toArray = ls at hl ⊢
  have hl : lv_has ls 5 [(0, .ref (a 16)), (1, .int p0)] := hl
  subst hsz
  have hD := hD0.self (sz := s.heap.size)
  generalize hAe : va_A [(a 16, .inr (3, [.ref (a 40), .ref (a 125), .ref (a 126)])), (a 125, .inl (t 0, 4, .inl f125)), (a 126, .inl (t 0, 4, .inl f126))] s.heap.size = A at hD ⊢
  have hA : ∀ q : Nat, s.heap.size ≤ q → A q := fun q h => by rw [← hAe]; exact Or.inr h
  have hS : va_S A s.heap s.heap [] := va_S.rf
  have hP : va_P D classes [(a 16, .inr (3, [.ref (a 40), .ref (a 125), .ref (a 126)])), (a 125, .inl (t 0, 4, .inl f125)), (a 126, .inl (t 0, 4, .inl f126))] s.heap := hP
  refine lv_aload_n hx hb dX3_allot_0 rfl (lv_at hl 0 rfl) ?_
  refine va_get (D := D) (ci := 3) (v := .ref (a 126)) (C := RX3) (T := TX3) (N := 3) hx hb hts iX3 hown hK hP 0 rfl rfl 2 (by decide) (hts _ m_351) (fun _ h9 => h9) rfl dX3_allot_1 ?_
  refine lv_iconst (v := 0) hx hb dX3_allot_4 (by decide) ?_
  refine y_wS (wr := [(a 16, .inr (3, [.ref (a 40), .ref (a 125), .ref (a 126)])), (a 125, .inl (t 0, 4, .inl f125))]) hF (s_fill_126 l D t a f126 0 s.heap.size) m_1171 m_507 m_14 m_508 hd_J7_fill_53178 ⟨Nat.le_of_ble_eq_true rfl, Nat.le_of_ble_eq_true rfl⟩ hK hN hP hD hS hA [2] [0, 1] rfl rfl (by decide) (by decide) (by decide) hl.1 rfl (Nat.le_of_ble_eq_true rfl) dX3_allot_5 ⟨Nat.zero_le _, Nat.zero_le _⟩ (fun u_1 H locs hu_1 hP hD hS => ?_)
  have hP : va_P D classes [(a 16, .inr (3, [.ref (a 40), .ref (a 125), .ref (a 126)])), (a 125, .inl (t 0, 4, .inl f125)), (a 126, .inl (t 0, 4, .inl (u_1.2.1 0)))] H := hP
  have hD : va_D A [(a 16, .inr (3, [.ref (a 40), .ref (a 125), .ref (a 126)])), (a 125, .inl (t 0, 4, .inl f125)), (a 126, .inl (t 0, 4, .inl (u_1.2.1 0)))] := hD
  refine lv_iconst (v := 0) hx hb dX3_allot_8 (by decide) ?_
  refine lv_istore_n (lv' := [(2, .int 0), (0, .ref (a 16)), (1, .int p0)]) hx hb dX3_allot_9 rfl hl (by decide) rfl (fun ls hl => ?_)
  refine loopW (α := US) (fun n y_3 H locs ls => 24 < (y_3.1 0).toInt + (n : Int) ∧ rg 0 24 (y_3.1 0) ∧ va_P D classes [(a 16, .inr (3, [.ref (a 40), .ref (a 125), .ref (a 126)])), (a 125, .inl (t 0, 4, .inl f125)), (a 126, .inl (t 0, 4, .inl (y_3.2.1 0)))] H ∧ va_D A [(a 16, .inr (3, [.ref (a 40), .ref (a 125), .ref (a 126)])), (a 125, .inl (t 0, 4, .inl f125)), (a 126, .inl (t 0, 4, .inl (y_3.2.1 0)))] ∧ va_S A s.heap H locs ∧ lv_has ls 5 [(2, .int (y_3.1 0)), (0, .ref (a 16)), (1, .int p0)]) 10 (fun y_3 => []) (fun _ _ _ _ h9 => m_0 h9.1 h9.2.1) (fun n ih_5 y_3 H locs ls hI => ?_) 25 (fun k => [0].getD k 0, fun k => [(u_1.2.1 0)].getD k (fun _ => 0), fun k => [].getD k (fun _ => 0), fun k => [].getD k 0) ⟨(m_i (rg_c (x := 0) (k := 0) (by decide)) (by decide)), (rg_w (c := 0) (d := 24) (rg_c (x := 0) (k := 0) (by decide)) (by decide) (by decide)), hP, hD, hS, (lv_sub hl [0, 1, 2] rfl)⟩
  obtain ⟨me_6, h_4, hP, hD, hS, hl⟩ := hI
  refine lv_iload_n hx hb dX3_allot_10 rfl (lv_at hl 0 rfl) ?_
  refine lv_iload_n hx hb dX3_allot_11 rfl (lv_at hl 2 rfl) ?_
  refine lv_icmp_ge (tgt := 95) hx hb dX3_allot_12 (by decide) (fun c_7 => ?_) (fun c_7 => ?_)
  · skip
    have hP9 := hP.sub (ws' := [(a 16, .inr (3, [.ref (a 40), .ref (a 125), .ref (a 126)])), (a 125, .inl (t 0, 4, .inl f125)), (a 126, .inl (t 0, 4, .inl (y_3.2.1 0)))]) [0, 1, 2] rfl
    have hD9 := hD.sub (ws' := [(a 16, .inr (3, [.ref (a 40), .ref (a 125), .ref (a 126)])), (a 125, .inl (t 0, 4, .inl f125)), (a 126, .inl (t 0, 4, .inl (y_3.2.1 0)))]) [0, 1, 2] (by decide) rfl
    exact W.vret hx hb hr (fun t9 ht hW => ⟨⟨(fun k => [].getD k 0, fun k => [(y_3.2.1 0)].getD k (fun _ => 0), fun k => [].getD k (fun _ => 0), fun _ => 0), rfl, trivial, by rw [ht]; exact hP9, hD9⟩, hS.F ht⟩) hS.2.2 dX3_allot_95
  · skip
    have h_8 : rg 0 19 (y_3.1 0) := ⟨(h_4).1, Int.le_trans (c_nleR c_7 rp0) (by decide)⟩
    have h_9 : rg 1 20 p0 := ⟨Int.le_trans (by decide) (c_nle c_7 h_4), (rp0).2⟩
    refine lv_iconst (v := 0) hx hb dX3_allot_15 (by decide) ?_
    refine lv_istore_n (lv' := [(3, .int 0), (2, .int (y_3.1 0)), (0, .ref (a 16)), (1, .int p0)]) hx hb dX3_allot_16 rfl hl (by decide) rfl (fun ls hl => ?_)
    refine lv_iconst (v := 1) hx hb dX3_allot_17 (by decide) ?_
    refine lv_istore (lv' := [(4, .int 1), (3, .int 0), (2, .int (y_3.1 0)), (0, .ref (a 16)), (1, .int p0)]) hx hb dX3_allot_18 hl (by decide) rfl (fun ls hl => ?_)
    refine loopW (α := US) (fun n y_10 H locs ls => 4 < (y_10.1 0).toInt + (n : Int) ∧ rg 1 4 (y_10.1 0) ∧ rg 0 3 (y_10.1 1) ∧ va_P D classes [(a 16, .inr (3, [.ref (a 40), .ref (a 125), .ref (a 126)])), (a 125, .inl (t 0, 4, .inl f125)), (a 126, .inl (t 0, 4, .inl (y_3.2.1 0)))] H ∧ va_D A [(a 16, .inr (3, [.ref (a 40), .ref (a 125), .ref (a 126)])), (a 125, .inl (t 0, 4, .inl f125)), (a 126, .inl (t 0, 4, .inl (y_3.2.1 0)))] ∧ va_S A s.heap H locs ∧ lv_has ls 5 [(4, .int (y_10.1 0)), (3, .int (y_10.1 1)), (2, .int (y_3.1 0)), (0, .ref (a 16)), (1, .int p0)]) 20 (fun y_10 => []) (fun _ _ _ _ h9 => m_0 h9.1 h9.2.1) (fun n ih_13 y_10 H locs ls hI => ?_) 4 (fun k => [1, 0].getD k 0, fun k => [].getD k (fun _ => 0), fun k => [].getD k (fun _ => 0), fun k => [].getD k 0) ⟨(m_i (rg_c (x := 1) (k := 1) (by decide)) (by decide)), (rg_w (c := 1) (d := 4) (rg_c (x := 1) (k := 1) (by decide)) (by decide) (by decide)), (rg_w (c := 0) (d := 3) (rg_c (x := 0) (k := 0) (by decide)) (by decide) (by decide)), hP, hD, hS, (lv_sub hl [0, 1, 2, 3, 4] rfl)⟩
    obtain ⟨me_14, h_11, h_12, hP, hD, hS, hl⟩ := hI
    refine lv_iload hx hb dX3_allot_20 (lv_at hl 0 rfl) ?_
    refine lv_iconst (v := 4) hx hb dX3_allot_22 (by decide) ?_
    refine lv_icmp_ge (tgt := 70) hx hb dX3_allot_23 (by decide) (fun c_15 => ?_) (fun c_15 => ?_)
    · skip
      have h_16 : rg 4 4 (y_10.1 0) := ⟨Int.le_trans (by decide) (c_leR c_15 (rg_c (x := 4) (k := 4) (by decide))), (h_11).2⟩
      refine lv_aload_n hx hb dX3_allot_70 rfl (lv_at hl 3 rfl) ?_
      refine va_get (D := D) (ci := 3) (v := .ref (a 125)) (C := RX3) (T := TX3) (N := 3) hx hb hts iX3 hown hK hP 0 rfl rfl 1 (by decide) (hts _ m_350) (fun _ h9 => h9) rfl dX3_allot_71 ?_
      refine lv_iload_n hx hb dX3_allot_74 rfl (lv_at hl 1 rfl) ?_
      refine va_iald hx hb hK hP 1 0 rfl rfl (in_rg h_12 (by decide) (by decide)) dX3_allot_75 ?_
      refine lv_topi (fun x_17 ex_17 => ?_)
      refine lv_if_le (tgt := 89) hx hb dX3_allot_76 (by decide) (fun c_18 => ?_) (fun c_18 => ?_)
      · skip
        have h_19 : rg (-2147483648) 0 x_17 := ⟨((rg_any x_17)).1, Int.le_trans (c_le c_18 (rg_c (x := 0) (k := 0) (by decide))) (by decide)⟩
        obtain ⟨x_20, ex_20⟩ : ∃ y9 : Int32, y9 = (y_3.1 0) + 1 := ⟨_, rfl⟩
        have hx_20 : rg 1 20 x_20 := by rw [ex_20]; exact rg_add h_8 (rg_c (x := 1) (k := 1) (by decide)) (by decide) (by decide) (by decide) (by decide)
        have tx_20 : x_20.toInt = (y_3.1 0).toInt + 1 := by rw [ex_20]; exact inc_tk h_8 (by decide) (by decide) (by decide)
        refine lv_iinc (v := x_20) (lv' := [(2, .int x_20), (4, .int (y_10.1 0)), (3, .int (y_10.1 1)), (0, .ref (a 16)), (1, .int p0)]) hx hb dX3_allot_89 hl (k := 2) rfl (by rw [ex_20]; rfl) (by decide) rfl (fun ls hl => ?_)
        refine lv_goto (tgt := 10) hx hb dX3_allot_92 (by decide) ?_
        exact ih_5 (fun k => [x_20].getD k 0, fun k => [(y_3.2.1 0)].getD k (fun _ => 0), fun k => [].getD k (fun _ => 0), fun k => [].getD k 0) _ _ ls ⟨(m_upk me_6 tx_20 (by decide)), (rg_w (c := 0) (d := 24) hx_20 (by decide) (by decide)), hP, hD, hS, (lv_sub hl [0, 3, 4] rfl)⟩
      · skip
        have h_21 : rg 1 2147483647 x_17 := ⟨Int.le_trans (by decide) (c_nle c_18 (rg_c (x := 0) (k := 0) (by decide))), ((rg_any x_17)).2⟩
        refine lv_aload_n hx hb dX3_allot_79 rfl (lv_at hl 3 rfl) ?_
        refine va_get (D := D) (ci := 3) (v := .ref (a 126)) (C := RX3) (T := TX3) (N := 3) hx hb hts iX3 hown hK hP 0 rfl rfl 2 (by decide) (hts _ m_351) (fun _ h9 => h9) rfl dX3_allot_80 ?_
        refine lv_iload_n hx hb dX3_allot_83 rfl (lv_at hl 1 rfl) ?_
        refine lv_dup2_11 hx hb dX3_allot_84 rfl rfl ?_
        refine va_iald hx hb hK hP 2 0 rfl rfl (in_rg h_12 (by decide) (by decide)) dX3_allot_85 ?_
        refine lv_topi (fun x_22 ex_22 => ?_)
        refine lv_iconst (v := 1) hx hb dX3_allot_86 (by decide) ?_
        refine lv_iadd hx hb dX3_allot_87 ?_
        refine lv_topi (fun x_23 ex_23 => ?_)
        refine x_iast hx hb hK hP hD hS 2 0 rfl rfl (in_rg h_12 (by decide) (by decide)) dX3_allot_88 (fun g_24 H locs hP hD hS => ?_)
        have hP : va_P D classes [(a 16, .inr (3, [.ref (a 40), .ref (a 125), .ref (a 126)])), (a 125, .inl (t 0, 4, .inl f125)), (a 126, .inl (t 0, 4, .inl g_24))] H := hP
        have hD : va_D A [(a 16, .inr (3, [.ref (a 40), .ref (a 125), .ref (a 126)])), (a 125, .inl (t 0, 4, .inl f125)), (a 126, .inl (t 0, 4, .inl g_24))] := hD
        obtain ⟨x_25, ex_25⟩ : ∃ y9 : Int32, y9 = (y_3.1 0) + 1 := ⟨_, rfl⟩
        have hx_25 : rg 1 20 x_25 := by rw [ex_25]; exact rg_add h_8 (rg_c (x := 1) (k := 1) (by decide)) (by decide) (by decide) (by decide) (by decide)
        have tx_25 : x_25.toInt = (y_3.1 0).toInt + 1 := by rw [ex_25]; exact inc_tk h_8 (by decide) (by decide) (by decide)
        refine lv_iinc (v := x_25) (lv' := [(2, .int x_25), (4, .int (y_10.1 0)), (3, .int (y_10.1 1)), (0, .ref (a 16)), (1, .int p0)]) hx hb dX3_allot_89 hl (k := 2) rfl (by rw [ex_25]; rfl) (by decide) rfl (fun ls hl => ?_)
        refine lv_goto (tgt := 10) hx hb dX3_allot_92 (by decide) ?_
        exact ih_5 (fun k => [x_25].getD k 0, fun k => [g_24].getD k (fun _ => 0), fun k => [].getD k (fun _ => 0), fun k => [].getD k 0) _ _ ls ⟨(m_upk me_6 tx_25 (by decide)), (rg_w (c := 0) (d := 24) hx_25 (by decide) (by decide)), hP, hD, hS, (lv_sub hl [0, 3, 4] rfl)⟩
    · skip
      have h_26 : rg 1 3 (y_10.1 0) := ⟨(h_11).1, Int.le_trans (c_nleR c_15 (rg_c (x := 4) (k := 4) (by decide))) (by decide)⟩
      refine lv_aload_n hx hb dX3_allot_26 rfl (lv_at hl 3 rfl) ?_
      refine va_get (D := D) (ci := 3) (v := .ref (a 125)) (C := RX3) (T := TX3) (N := 3) hx hb hts iX3 hown hK hP 0 rfl rfl 1 (by decide) (hts _ m_350) (fun _ h9 => h9) rfl dX3_allot_27 ?_
      refine lv_iload hx hb dX3_allot_30 (lv_at hl 0 rfl) ?_
      refine va_iald hx hb hK hP 1 0 rfl rfl (in_rg h_26 (by decide) (by decide)) dX3_allot_32 ?_
      refine lv_topi (fun x_27 ex_27 => ?_)
      refine lv_aload_n hx hb dX3_allot_33 rfl (lv_at hl 3 rfl) ?_
      refine va_get (D := D) (ci := 3) (v := .ref (a 126)) (C := RX3) (T := TX3) (N := 3) hx hb hts iX3 hown hK hP 0 rfl rfl 2 (by decide) (hts _ m_351) (fun _ h9 => h9) rfl dX3_allot_34 ?_
      refine lv_iload_n hx hb dX3_allot_37 rfl (lv_at hl 1 rfl) ?_
      refine va_iald hx hb hK hP 2 0 rfl rfl (in_rg h_12 (by decide) (by decide)) dX3_allot_38 ?_
      refine lv_topi (fun x_28 ex_28 => ?_)
      refine lv_iconst (v := 1) hx hb dX3_allot_39 (by decide) ?_
      refine lv_iadd hx hb dX3_allot_40 ?_
      refine lv_topi (fun x_29 ex_29 => ?_)
      refine lv_imul hx hb dX3_allot_41 ?_
      refine lv_topi (fun x_30 ex_30 => ?_)
      refine lv_aload_n hx hb dX3_allot_42 rfl (lv_at hl 3 rfl) ?_
      refine va_get (D := D) (ci := 3) (v := .ref (a 125)) (C := RX3) (T := TX3) (N := 3) hx hb hts iX3 hown hK hP 0 rfl rfl 1 (by decide) (hts _ m_350) (fun _ h9 => h9) rfl dX3_allot_43 ?_
      refine lv_iload_n hx hb dX3_allot_46 rfl (lv_at hl 1 rfl) ?_
      refine va_iald hx hb hK hP 1 0 rfl rfl (in_rg h_12 (by decide) (by decide)) dX3_allot_47 ?_
      refine lv_topi (fun x_31 ex_31 => ?_)
      refine lv_aload_n hx hb dX3_allot_48 rfl (lv_at hl 3 rfl) ?_
      refine va_get (D := D) (ci := 3) (v := .ref (a 126)) (C := RX3) (T := TX3) (N := 3) hx hb hts iX3 hown hK hP 0 rfl rfl 2 (by decide) (hts _ m_351) (fun _ h9 => h9) rfl dX3_allot_49 ?_
      refine lv_iload hx hb dX3_allot_52 (lv_at hl 0 rfl) ?_
      refine va_iald hx hb hK hP 2 0 rfl rfl (in_rg h_26 (by decide) (by decide)) dX3_allot_54 ?_
      refine lv_topi (fun x_32 ex_32 => ?_)
      refine lv_iconst (v := 1) hx hb dX3_allot_55 (by decide) ?_
      refine lv_iadd hx hb dX3_allot_56 ?_
      refine lv_topi (fun x_33 ex_33 => ?_)
      refine lv_imul hx hb dX3_allot_57 ?_
      refine lv_topi (fun x_34 ex_34 => ?_)
      refine lv_icmp_le (tgt := 64) hx hb dX3_allot_58 (by decide) (fun c_35 => ?_) (fun c_35 => ?_)
      · skip
        obtain ⟨x_36, ex_36⟩ : ∃ y9 : Int32, y9 = (y_10.1 0) + 1 := ⟨_, rfl⟩
        have hx_36 : rg 2 4 x_36 := by rw [ex_36]; exact rg_add h_26 (rg_c (x := 1) (k := 1) (by decide)) (by decide) (by decide) (by decide) (by decide)
        have tx_36 : x_36.toInt = (y_10.1 0).toInt + 1 := by rw [ex_36]; exact inc_tk h_26 (by decide) (by decide) (by decide)
        refine lv_iinc (v := x_36) (lv' := [(4, .int x_36), (3, .int (y_10.1 1)), (2, .int (y_3.1 0)), (0, .ref (a 16)), (1, .int p0)]) hx hb dX3_allot_64 hl (k := 0) rfl (by rw [ex_36]; rfl) (by decide) rfl (fun ls hl => ?_)
        refine lv_goto (tgt := 20) hx hb dX3_allot_67 (by decide) ?_
        exact ih_13 (fun k => [x_36, (y_10.1 1)].getD k 0, fun k => [].getD k (fun _ => 0), fun k => [].getD k (fun _ => 0), fun k => [].getD k 0) _ _ ls ⟨(m_upk me_14 tx_36 (by decide)), (rg_w (c := 1) (d := 4) hx_36 (by decide) (by decide)), h_12, hP, hD, hS, (lv_sub hl [0, 1, 2, 3, 4] rfl)⟩
      · skip
        have h_37 : rg (-2147483647) 2147483647 x_30 := ⟨Int.le_trans (by decide) (c_nle c_35 (rg_any x_34)), ((rg_any x_30)).2⟩
        have h_38 : rg (-2147483648) 2147483646 x_34 := ⟨((rg_any x_34)).1, Int.le_trans (c_nleR c_35 (rg_any x_30)) (by decide)⟩
        refine lv_iload hx hb dX3_allot_61 (lv_at hl 0 rfl) ?_
        refine lv_istore_n (lv' := [(3, .int (y_10.1 0)), (4, .int (y_10.1 0)), (2, .int (y_3.1 0)), (0, .ref (a 16)), (1, .int p0)]) hx hb dX3_allot_63 rfl hl (by decide) rfl (fun ls hl => ?_)
        obtain ⟨x_39, ex_39⟩ : ∃ y9 : Int32, y9 = (y_10.1 0) + 1 := ⟨_, rfl⟩
        have hx_39 : rg 2 4 x_39 := by rw [ex_39]; exact rg_add h_26 (rg_c (x := 1) (k := 1) (by decide)) (by decide) (by decide) (by decide) (by decide)
        have tx_39 : x_39.toInt = (y_10.1 0).toInt + 1 := by rw [ex_39]; exact inc_tk h_26 (by decide) (by decide) (by decide)
        refine lv_iinc (v := x_39) (lv' := [(4, .int x_39), (3, .int (y_10.1 0)), (2, .int (y_3.1 0)), (0, .ref (a 16)), (1, .int p0)]) hx hb dX3_allot_64 hl (k := 1) rfl (by rw [ex_39]; rfl) (by decide) rfl (fun ls hl => ?_)
        refine lv_goto (tgt := 20) hx hb dX3_allot_67 (by decide) ?_
        exact ih_13 (fun k => [x_39, (y_10.1 0)].getD k 0, fun k => [].getD k (fun _ => 0), fun k => [].getD k (fun _ => 0), fun k => [].getD k 0) _ _ ls ⟨(m_upk me_14 tx_39 (by decide)), (rg_w (c := 1) (d := 4) hx_39 (by decide) (by decide)), (rg_w (c := 0) (d := 3) h_26 (by decide) (by decide)), hP, hD, hS, (lv_sub hl [0, 1, 2, 3, 4] rfl)⟩

set_option maxHeartbeats 4000000 in
set_option maxRecDepth 100000 in
theorem s_X1_canDraw (l : Launch) (D : va_G) (t : Nat → ClassId) (a : Nat → Nat) (v17_4 : Int32) (v17_5 : Int32) (v40_0 : Int32) (v40_1 : Int32) (v40_2 : Int32) (v40_3 : Int32) (v40_4 : Int32) (v40_5 : Int32) (v40_6 : Int32) (v40_7 : Int32) (r17_5 : rg 0 2147483647 v17_5) (r40_1 : rg 0 8 v40_1) (r40_5 : rg 0 4 v40_5) (r40_6 : rg 0 9 v40_6) (r40_7 : rg 0 9 v40_7) : Met l yX1_canDraw (wd yX1_canDraw cX1_canDraw 1 (some .boolean)) (RM 0 0 0) (PreP D (TY t) [.ref (a 17)] [(a 17, .inr (1, [.ref (a 40), .ref (a 14), .ref (a 127), .ref (a 128), .int v17_4, .int v17_5])), (a 40, .inr (0, [.int v40_0, .int v40_1, .int v40_2, .int v40_3, .int v40_4, .int v40_5, .int v40_6, .int v40_7, .ref (a 41), .ref (a 42), .ref (a 43), .ref (a 44), .ref (a 45), .ref (a 46), .ref (a 47), .ref (a 48), .ref (a 49), .ref (a 50), .ref (a 54)]))]) (QP (fun r => rg 0 1 r ∧ (r = 0 ∨ (rg 1 4 v40_5 ∧ rg 0 6 v40_7)))) 0 0 NoF := by
  refine Met.ofW (cc := cX1_canDraw) (maxL := 1) (ret := (some .boolean)) (by decide) rfl ?_
  intro p e s m args below meth c s₁ B hml hv
  obtain ⟨rfl, hP, hK, hN⟩ := hv
  have hx := B.exec
  have hb := B.bytes
  have hr := B.returns
  have hts : ∀ w ∈ TB, w.before _ s = true := fun w h => atoms_spec (ws := wd yX1_canDraw cX1_canDraw 1 (some .boolean)) B.pre w (List.mem_cons_of_mem _ h)
  have hown : s.vm.findClass RX1 = some m.cls := findClass_of_methodNamed B.named
  have hlocks := B.notSynchronized
  have hF : CallFix p m c cX1_canDraw 1 s _ TB RX1 := ⟨hx, hb, hml, hown, hts⟩
  have hl := lv_entry ([.ref (a 17)]) (n := 1) (Nat.le_of_ble_eq_true rfl)
  rw [lg_entry_eq]
  generalize (lg_sl ([.ref (a 17)]) ++ List.replicate (1 - (lg_sl ([.ref (a 17)])).length) Slot.unset).toArray = ls at hl ⊢
  have hl : lv_has ls 1 [(0, .ref (a 17))] := hl
  have hS : va_S NoF s.heap s.heap [] := va_S.rf
  have hP : va_P D classes [(a 17, .inr (1, [.ref (a 40), .ref (a 14), .ref (a 127), .ref (a 128), .int v17_4, .int v17_5])), (a 40, .inr (0, [.int v40_0, .int v40_1, .int v40_2, .int v40_3, .int v40_4, .int v40_5, .int v40_6, .int v40_7, .ref (a 41), .ref (a 42), .ref (a 43), .ref (a 44), .ref (a 45), .ref (a 46), .ref (a 47), .ref (a 48), .ref (a 49), .ref (a 50), .ref (a 54)]))] s.heap := hP
  refine lv_aload_n hx hb dX1_canDraw_0 rfl (lv_at hl 0 rfl) ?_
  refine va_get (D := D) (ci := 1) (v := .ref (a 40)) (C := RX1) (T := TX1) (N := 6) hx hb hts iX1 hown hK hP 0 rfl rfl 0 (by decide) (hts _ m_366) (fun _ h9 => h9) rfl dX1_canDraw_1 ?_
  refine va_getN (D := D) (ci := 0) (v := .int v40_5) (C := RX0) (T := TX0) (N := 19) (host := "WordSeats") hx hb hts iX0 hown hK hP 1 rfl rfl 5 (by decide) (va_Nw.use rfl (hN _ n_134)) (fun _ h9 => h9) rfl dX1_canDraw_4 ?_
  refine lv_if_le (tgt := 43) hx hb dX1_canDraw_7 (by decide) (fun c_1 => ?_) (fun c_1 => ?_)
  · skip
    have h_2 : rg 0 0 v40_5 := ⟨(r40_5).1, Int.le_trans (c_le c_1 (rg_c (x := 0) (k := 0) (by decide))) (by decide)⟩
    refine lv_iconst (v := 0) hx hb dX1_canDraw_43 (by decide) ?_
    exact W.zret (v := 0) hx hb hr rfl (fun t9 ht hW => ⟨⟨0, (), rfl, ⟨⟨by decide, by decide⟩, Or.inl rfl⟩, trivial⟩, hS.F ht⟩) hS.2.2 dX1_canDraw_44
  · skip
    have h_3 : rg 1 4 v40_5 := ⟨Int.le_trans (by decide) (c_nle c_1 (rg_c (x := 0) (k := 0) (by decide))), (r40_5).2⟩
    refine lv_aload_n hx hb dX1_canDraw_10 rfl (lv_at hl 0 rfl) ?_
    refine va_get (D := D) (ci := 1) (v := .ref (a 40)) (C := RX1) (T := TX1) (N := 6) hx hb hts iX1 hown hK hP 0 rfl rfl 0 (by decide) (hts _ m_366) (fun _ h9 => h9) rfl dX1_canDraw_11 ?_
    refine va_getN (D := D) (ci := 0) (v := .int v40_7) (C := RX0) (T := TX0) (N := 19) (host := "WordSeats") hx hb hts iX0 hown hK hP 1 rfl rfl 7 (by decide) (va_Nw.use rfl (hN _ n_147)) (fun _ h9 => h9) rfl dX1_canDraw_14 ?_
    refine lv_aload_n hx hb dX1_canDraw_17 rfl (lv_at hl 0 rfl) ?_
    refine va_get (D := D) (ci := 1) (v := .ref (a 40)) (C := RX1) (T := TX1) (N := 6) hx hb hts iX1 hown hK hP 0 rfl rfl 0 (by decide) (hts _ m_366) (fun _ h9 => h9) rfl dX1_canDraw_18 ?_
    refine va_getN (D := D) (ci := 0) (v := .int v40_5) (C := RX0) (T := TX0) (N := 19) (host := "WordSeats") hx hb hts iX0 hown hK hP 1 rfl rfl 5 (by decide) (va_Nw.use rfl (hN _ n_134)) (fun _ h9 => h9) rfl dX1_canDraw_21 ?_
    refine lv_icmp_lt (tgt := 43) hx hb dX1_canDraw_24 (by decide) (fun c_4 => ?_) (fun c_4 => ?_)
    · skip
      have h_5 : rg 0 3 v40_7 := ⟨(r40_7).1, Int.le_trans (c_lt c_4 h_3) (by decide)⟩
      refine lv_iconst (v := 0) hx hb dX1_canDraw_43 (by decide) ?_
      exact W.zret (v := 0) hx hb hr rfl (fun t9 ht hW => ⟨⟨0, (), rfl, ⟨⟨by decide, by decide⟩, Or.inl rfl⟩, trivial⟩, hS.F ht⟩) hS.2.2 dX1_canDraw_44
    · skip
      have h_6 : rg 1 9 v40_7 := ⟨Int.le_trans (by decide) (c_nlt c_4 h_3), (r40_7).2⟩
      refine lv_aload_n hx hb dX1_canDraw_27 rfl (lv_at hl 0 rfl) ?_
      refine va_get (D := D) (ci := 1) (v := .ref (a 40)) (C := RX1) (T := TX1) (N := 6) hx hb hts iX1 hown hK hP 0 rfl rfl 0 (by decide) (hts _ m_366) (fun _ h9 => h9) rfl dX1_canDraw_28 ?_
      refine va_getN (D := D) (ci := 0) (v := .int v40_7) (C := RX0) (T := TX0) (N := 19) (host := "WordSeats") hx hb hts iX0 hown hK hP 1 rfl rfl 7 (by decide) (va_Nw.use rfl (hN _ n_147)) (fun _ h9 => h9) rfl dX1_canDraw_31 ?_
      refine lv_bipush (v := 6) hx hb dX1_canDraw_34 (by decide) ?_
      refine lv_icmp_gt (tgt := 43) hx hb dX1_canDraw_36 (by decide) (fun c_7 => ?_) (fun c_7 => ?_)
      · skip
        have h_8 : rg 7 9 v40_7 := ⟨Int.le_trans (by decide) (c_ltR c_7 (rg_c (x := 6) (k := 6) (by decide))), (h_6).2⟩
        refine lv_iconst (v := 0) hx hb dX1_canDraw_43 (by decide) ?_
        exact W.zret (v := 0) hx hb hr rfl (fun t9 ht hW => ⟨⟨0, (), rfl, ⟨⟨by decide, by decide⟩, Or.inl rfl⟩, trivial⟩, hS.F ht⟩) hS.2.2 dX1_canDraw_44
      · skip
        have h_9 : rg 1 6 v40_7 := ⟨(h_6).1, Int.le_trans (c_nltR c_7 (rg_c (x := 6) (k := 6) (by decide))) (by decide)⟩
        refine lv_iconst (v := 1) hx hb dX1_canDraw_39 (by decide) ?_
        refine lv_goto (tgt := 44) hx hb dX1_canDraw_40 (by decide) ?_
        exact W.zret (v := 1) hx hb hr rfl (fun t9 ht hW => ⟨⟨1, (), rfl, ⟨⟨by decide, by decide⟩, Or.inr ⟨h_3, (rg_w (c := 0) (d := 6) h_9 (by decide) (by decide))⟩⟩, trivial⟩, hS.F ht⟩) hS.2.2 dX1_canDraw_44

set_option maxHeartbeats 4000000 in
set_option maxRecDepth 100000 in
theorem s_X1_tryPeople (l : Launch) (D : va_G) (t : Nat → ClassId) (a : Nat → Nat) (v14_1 : Int32) (v14_2 : Int32) (v14_3 : Int32) (v14_6 : Int32) (v14_8 : Int32) (v14_9 : Int32) (v14_10 : Int32) (v14_11 : Int32) (v14_12 : Int32) (v17_4 : Int32) (v17_5 : Int32) (v40_0 : Int32) (v40_1 : Int32) (v40_2 : Int32) (v40_3 : Int32) (v40_4 : Int32) (v40_5 : Int32) (v40_6 : Int32) (v40_7 : Int32) (f42 : Nat → Int32) (f43 : Nat → Int32) (f44 : Nat → Int32) (f45 : Nat → Int32) (f46 : Nat → Int32) (f47 : Nat → Int32) (f49 : Nat → Int32) (v54_0 : Int32) (v54_1 : Int32) (v54_2 : Int32) (f120 : Nat → Int32) (f121 : Nat → Int32) (f122 : Nat → Int32) (f127 : Nat → Int32) (p0 : Int32) (p1 : Int32) (r14_8 : rg 0 9 v14_8) (r14_9 : rg (-1) 8 v14_9) (r17_5 : rg 0 2147483647 v17_5) (r40_1 : rg 0 8 v40_1) (r40_5 : rg 0 4 v40_5) (r40_6 : rg 0 9 v40_6) (r40_7 : rg 0 6 v40_7) (q43 : ∀ j, j < 9 → rg 0 3 (f43 j)) (q44 : ∀ j, j < 9 → rg 0 3 (f44 j)) (r54_0 : rg 0 60 v54_0) (rp0 : rg 0 3 p0) (rp1 : rg 0 3 p1) (sz : Nat) : Met l yX1_tryPeople (wd yX1_tryPeople cX1_tryPeople 5 none) (RM 5 0 0) (PreW D (TY t) [.ref (a 17), .int p0, .int p1] [(a 14, .inr (2, [.ref (a 40), .int v14_1, .int v14_2, .int v14_3, .ref (a 120), .ref (a 121), .int v14_6, .ref (a 122), .int v14_8, .int v14_9, .int v14_10, .int v14_11, .int v14_12])), (a 17, .inr (1, [.ref (a 40), .ref (a 14), .ref (a 127), .ref (a 128), .int v17_4, .int v17_5])), (a 40, .inr (0, [.int v40_0, .int v40_1, .int v40_2, .int v40_3, .int v40_4, .int v40_5, .int v40_6, .int v40_7, .ref (a 41), .ref (a 42), .ref (a 43), .ref (a 44), .ref (a 45), .ref (a 46), .ref (a 47), .ref (a 48), .ref (a 49), .ref (a 50), .ref (a 54)])), (a 42, .inl (t 0, 9, .inl f42)), (a 43, .inl (t 0, 9, .inl f43)), (a 44, .inl (t 0, 9, .inl f44)), (a 45, .inl (t 0, 9, .inl f45)), (a 46, .inl (t 0, 9, .inl f46)), (a 47, .inl (t 0, 9, .inl f47)), (a 49, .inl (t 0, 9, .inl f49)), (a 54, .inr (9, [.int v54_0, .int v54_1, .int v54_2, .ref (a 55), .ref (a 56), .ref (a 57), .ref (a 58)])), (a 120, .inl (t 0, 81, .inl f120)), (a 121, .inl (t 0, 9, .inl f121)), (a 122, .inl (t 0, 9, .inl f122)), (a 127, .inl (t 3, 256, .inl f127))] sz) (va_Qv (fun (u : US) => rg 0 9 (u.1 4) ∧ rg (-1) 8 (u.1 5)) (fun (u : US) t9 => va_P D classes ((fun u : US => [(a 14, .inr (2, [.ref (a 40), .int (u.1 0), .int (u.1 1), .int (u.1 2), .ref (a 120), .ref (a 121), .int (u.1 3), .ref (a 122), .int (u.1 4), .int (u.1 5), .int (u.1 6), .int v14_11, .int v14_12])), (a 17, .inr (1, [.ref (a 40), .ref (a 14), .ref (a 127), .ref (a 128), .int v17_4, .int v17_5])), (a 40, .inr (0, [.int v40_0, .int v40_1, .int v40_2, .int v40_3, .int v40_4, .int v40_5, .int v40_6, .int v40_7, .ref (a 41), .ref (a 42), .ref (a 43), .ref (a 44), .ref (a 45), .ref (a 46), .ref (a 47), .ref (a 48), .ref (a 49), .ref (a 50), .ref (a 54)])), (a 42, .inl (t 0, 9, .inl f42)), (a 43, .inl (t 0, 9, .inl f43)), (a 44, .inl (t 0, 9, .inl f44)), (a 45, .inl (t 0, 9, .inl f45)), (a 46, .inl (t 0, 9, .inl f46)), (a 47, .inl (t 0, 9, .inl f47)), (a 49, .inl (t 0, 9, .inl f49)), (a 54, .inr (9, [.int v54_0, .int v54_1, .int v54_2, .ref (a 55), .ref (a 56), .ref (a 57), .ref (a 58)])), (a 120, .inl (t 0, 81, .inl (u.2.1 0))), (a 121, .inl (t 0, 9, .inl (u.2.1 1))), (a 122, .inl (t 0, 9, .inl (u.2.1 2))), (a 127, .inl (t 3, 256, .inl (u.2.1 3)))]) u) t9.heap ∧ va_D (va_A [(a 14, .inr (2, [.ref (a 40), .int v14_1, .int v14_2, .int v14_3, .ref (a 120), .ref (a 121), .int v14_6, .ref (a 122), .int v14_8, .int v14_9, .int v14_10, .int v14_11, .int v14_12])), (a 17, .inr (1, [.ref (a 40), .ref (a 14), .ref (a 127), .ref (a 128), .int v17_4, .int v17_5])), (a 40, .inr (0, [.int v40_0, .int v40_1, .int v40_2, .int v40_3, .int v40_4, .int v40_5, .int v40_6, .int v40_7, .ref (a 41), .ref (a 42), .ref (a 43), .ref (a 44), .ref (a 45), .ref (a 46), .ref (a 47), .ref (a 48), .ref (a 49), .ref (a 50), .ref (a 54)])), (a 42, .inl (t 0, 9, .inl f42)), (a 43, .inl (t 0, 9, .inl f43)), (a 44, .inl (t 0, 9, .inl f44)), (a 45, .inl (t 0, 9, .inl f45)), (a 46, .inl (t 0, 9, .inl f46)), (a 47, .inl (t 0, 9, .inl f47)), (a 49, .inl (t 0, 9, .inl f49)), (a 54, .inr (9, [.int v54_0, .int v54_1, .int v54_2, .ref (a 55), .ref (a 56), .ref (a 57), .ref (a 58)])), (a 120, .inl (t 0, 81, .inl f120)), (a 121, .inl (t 0, 9, .inl f121)), (a 122, .inl (t 0, 9, .inl f122)), (a 127, .inl (t 3, 256, .inl f127))] sz) ((fun u : US => [(a 14, .inr (2, [.ref (a 40), .int (u.1 0), .int (u.1 1), .int (u.1 2), .ref (a 120), .ref (a 121), .int (u.1 3), .ref (a 122), .int (u.1 4), .int (u.1 5), .int (u.1 6), .int v14_11, .int v14_12])), (a 17, .inr (1, [.ref (a 40), .ref (a 14), .ref (a 127), .ref (a 128), .int v17_4, .int v17_5])), (a 40, .inr (0, [.int v40_0, .int v40_1, .int v40_2, .int v40_3, .int v40_4, .int v40_5, .int v40_6, .int v40_7, .ref (a 41), .ref (a 42), .ref (a 43), .ref (a 44), .ref (a 45), .ref (a 46), .ref (a 47), .ref (a 48), .ref (a 49), .ref (a 50), .ref (a 54)])), (a 42, .inl (t 0, 9, .inl f42)), (a 43, .inl (t 0, 9, .inl f43)), (a 44, .inl (t 0, 9, .inl f44)), (a 45, .inl (t 0, 9, .inl f45)), (a 46, .inl (t 0, 9, .inl f46)), (a 47, .inl (t 0, 9, .inl f47)), (a 49, .inl (t 0, 9, .inl f49)), (a 54, .inr (9, [.int v54_0, .int v54_1, .int v54_2, .ref (a 55), .ref (a 56), .ref (a 57), .ref (a 58)])), (a 120, .inl (t 0, 81, .inl (u.2.1 0))), (a 121, .inl (t 0, 9, .inl (u.2.1 1))), (a 122, .inl (t 0, 9, .inl (u.2.1 2))), (a 127, .inl (t 3, 256, .inl (u.2.1 3)))]) u)) (va_A [(a 14, .inr (2, [.ref (a 40), .int v14_1, .int v14_2, .int v14_3, .ref (a 120), .ref (a 121), .int v14_6, .ref (a 122), .int v14_8, .int v14_9, .int v14_10, .int v14_11, .int v14_12])), (a 17, .inr (1, [.ref (a 40), .ref (a 14), .ref (a 127), .ref (a 128), .int v17_4, .int v17_5])), (a 40, .inr (0, [.int v40_0, .int v40_1, .int v40_2, .int v40_3, .int v40_4, .int v40_5, .int v40_6, .int v40_7, .ref (a 41), .ref (a 42), .ref (a 43), .ref (a 44), .ref (a 45), .ref (a 46), .ref (a 47), .ref (a 48), .ref (a 49), .ref (a 50), .ref (a 54)])), (a 42, .inl (t 0, 9, .inl f42)), (a 43, .inl (t 0, 9, .inl f43)), (a 44, .inl (t 0, 9, .inl f44)), (a 45, .inl (t 0, 9, .inl f45)), (a 46, .inl (t 0, 9, .inl f46)), (a 47, .inl (t 0, 9, .inl f47)), (a 49, .inl (t 0, 9, .inl f49)), (a 54, .inr (9, [.int v54_0, .int v54_1, .int v54_2, .ref (a 55), .ref (a 56), .ref (a 57), .ref (a 58)])), (a 120, .inl (t 0, 81, .inl f120)), (a 121, .inl (t 0, 9, .inl f121)), (a 122, .inl (t 0, 9, .inl f122)), (a 127, .inl (t 3, 256, .inl f127))] sz)) 0 0 (va_A [(a 14, .inr (2, [.ref (a 40), .int v14_1, .int v14_2, .int v14_3, .ref (a 120), .ref (a 121), .int v14_6, .ref (a 122), .int v14_8, .int v14_9, .int v14_10, .int v14_11, .int v14_12])), (a 17, .inr (1, [.ref (a 40), .ref (a 14), .ref (a 127), .ref (a 128), .int v17_4, .int v17_5])), (a 40, .inr (0, [.int v40_0, .int v40_1, .int v40_2, .int v40_3, .int v40_4, .int v40_5, .int v40_6, .int v40_7, .ref (a 41), .ref (a 42), .ref (a 43), .ref (a 44), .ref (a 45), .ref (a 46), .ref (a 47), .ref (a 48), .ref (a 49), .ref (a 50), .ref (a 54)])), (a 42, .inl (t 0, 9, .inl f42)), (a 43, .inl (t 0, 9, .inl f43)), (a 44, .inl (t 0, 9, .inl f44)), (a 45, .inl (t 0, 9, .inl f45)), (a 46, .inl (t 0, 9, .inl f46)), (a 47, .inl (t 0, 9, .inl f47)), (a 49, .inl (t 0, 9, .inl f49)), (a 54, .inr (9, [.int v54_0, .int v54_1, .int v54_2, .ref (a 55), .ref (a 56), .ref (a 57), .ref (a 58)])), (a 120, .inl (t 0, 81, .inl f120)), (a 121, .inl (t 0, 9, .inl f121)), (a 122, .inl (t 0, 9, .inl f122)), (a 127, .inl (t 3, 256, .inl f127))] sz) := by
  refine Met.ofW (cc := cX1_tryPeople) (maxL := 5) (ret := none) (by decide) rfl ?_
  intro p e s m args below meth c s₁ B hml hv
  obtain ⟨rfl, hsz, hP, hK, hD0, hN⟩ := hv
  have hx := B.exec
  have hb := B.bytes
  have hr := B.returns
  have hts : ∀ w ∈ TB, w.before _ s = true := fun w h => atoms_spec (ws := wd yX1_tryPeople cX1_tryPeople 5 none) B.pre w (List.mem_cons_of_mem _ h)
  have hown : s.vm.findClass RX1 = some m.cls := findClass_of_methodNamed B.named
  have hlocks := B.notSynchronized
  have hF : CallFix p m c cX1_tryPeople 5 s _ TB RX1 := ⟨hx, hb, hml, hown, hts⟩
  have hl := lv_entry ([.ref (a 17), .int p0, .int p1]) (n := 5) (Nat.le_of_ble_eq_true rfl)
  rw [lg_entry_eq]
  generalize (lg_sl ([.ref (a 17), .int p0, .int p1]) ++ List.replicate (5 - (lg_sl ([.ref (a 17), .int p0, .int p1])).length) Slot.unset).toArray = ls at hl ⊢
  have hl : lv_has ls 5 [(0, .ref (a 17)), (1, .int p0), (2, .int p1)] := hl
  subst hsz
  have hD := hD0.self (sz := s.heap.size)
  generalize hAe : va_A [(a 14, .inr (2, [.ref (a 40), .int v14_1, .int v14_2, .int v14_3, .ref (a 120), .ref (a 121), .int v14_6, .ref (a 122), .int v14_8, .int v14_9, .int v14_10, .int v14_11, .int v14_12])), (a 17, .inr (1, [.ref (a 40), .ref (a 14), .ref (a 127), .ref (a 128), .int v17_4, .int v17_5])), (a 40, .inr (0, [.int v40_0, .int v40_1, .int v40_2, .int v40_3, .int v40_4, .int v40_5, .int v40_6, .int v40_7, .ref (a 41), .ref (a 42), .ref (a 43), .ref (a 44), .ref (a 45), .ref (a 46), .ref (a 47), .ref (a 48), .ref (a 49), .ref (a 50), .ref (a 54)])), (a 42, .inl (t 0, 9, .inl f42)), (a 43, .inl (t 0, 9, .inl f43)), (a 44, .inl (t 0, 9, .inl f44)), (a 45, .inl (t 0, 9, .inl f45)), (a 46, .inl (t 0, 9, .inl f46)), (a 47, .inl (t 0, 9, .inl f47)), (a 49, .inl (t 0, 9, .inl f49)), (a 54, .inr (9, [.int v54_0, .int v54_1, .int v54_2, .ref (a 55), .ref (a 56), .ref (a 57), .ref (a 58)])), (a 120, .inl (t 0, 81, .inl f120)), (a 121, .inl (t 0, 9, .inl f121)), (a 122, .inl (t 0, 9, .inl f122)), (a 127, .inl (t 3, 256, .inl f127))] s.heap.size = A at hD ⊢
  have hA : ∀ q : Nat, s.heap.size ≤ q → A q := fun q h => by rw [← hAe]; exact Or.inr h
  have hS : va_S A s.heap s.heap [] := va_S.rf
  have hP : va_P D classes [(a 14, .inr (2, [.ref (a 40), .int v14_1, .int v14_2, .int v14_3, .ref (a 120), .ref (a 121), .int v14_6, .ref (a 122), .int v14_8, .int v14_9, .int v14_10, .int v14_11, .int v14_12])), (a 17, .inr (1, [.ref (a 40), .ref (a 14), .ref (a 127), .ref (a 128), .int v17_4, .int v17_5])), (a 40, .inr (0, [.int v40_0, .int v40_1, .int v40_2, .int v40_3, .int v40_4, .int v40_5, .int v40_6, .int v40_7, .ref (a 41), .ref (a 42), .ref (a 43), .ref (a 44), .ref (a 45), .ref (a 46), .ref (a 47), .ref (a 48), .ref (a 49), .ref (a 50), .ref (a 54)])), (a 42, .inl (t 0, 9, .inl f42)), (a 43, .inl (t 0, 9, .inl f43)), (a 44, .inl (t 0, 9, .inl f44)), (a 45, .inl (t 0, 9, .inl f45)), (a 46, .inl (t 0, 9, .inl f46)), (a 47, .inl (t 0, 9, .inl f47)), (a 49, .inl (t 0, 9, .inl f49)), (a 54, .inr (9, [.int v54_0, .int v54_1, .int v54_2, .ref (a 55), .ref (a 56), .ref (a 57), .ref (a 58)])), (a 120, .inl (t 0, 81, .inl f120)), (a 121, .inl (t 0, 9, .inl f121)), (a 122, .inl (t 0, 9, .inl f122)), (a 127, .inl (t 3, 256, .inl f127))] s.heap := hP
  refine lv_aload_n hx hb dX1_tryPeople_0 rfl (lv_at hl 0 rfl) ?_
  refine va_get (D := D) (ci := 1) (v := .ref (a 14)) (C := RX1) (T := TX1) (N := 6) hx hb hts iX1 hown hK hP 1 rfl rfl 1 (by decide) (hts _ m_367) (fun _ h9 => h9) rfl dX1_tryPeople_1 ?_
  refine lv_iload_n hx hb dX1_tryPeople_4 rfl (lv_at hl 2 rfl) ?_
  refine y_wV (wr := [(a 17, .inr (1, [.ref (a 40), .ref (a 14), .ref (a 127), .ref (a 128), .int v17_4, .int v17_5])), (a 44, .inl (t 0, 9, .inl f44)), (a 121, .inl (t 0, 9, .inl f121)), (a 122, .inl (t 0, 9, .inl f122)), (a 127, .inl (t 3, 256, .inl f127))]) hF (s_X2_open l D t a v14_1 v14_2 v14_3 v14_6 v14_8 v14_9 v14_10 v14_11 v14_12 v40_0 v40_1 v40_2 v40_3 v40_4 v40_5 v40_6 v40_7 f42 f43 f45 f46 f47 f49 v54_0 v54_1 v54_2 f120 p1 r14_8 r14_9 r40_1 r40_5 r40_6 (rg_w (c := 0) (d := 9) r40_7 (by decide) (by decide)) q43 r54_0 s.heap.size) m_1195 m_763 m_764 m_7 m_765 hd_X2_open ⟨Nat.le_of_ble_eq_true rfl, Nat.le_of_ble_eq_true rfl⟩ hK hN hP hD hS hA 0 (ci := 2) rfl rfl rfl [0, 2, 3, 4, 6, 7, 8, 9, 10, 11] [1, 5, 12, 13, 14] rfl rfl (by decide) (by decide) (by decide) hl.1 rfl (Nat.le_of_ble_eq_true rfl) dX1_tryPeople_5 ⟨Nat.zero_le _, Nat.zero_le _⟩ (fun u_1 H locs hu_1 hP hD hS => ?_)
  have ou_1 := hu_1
  have hP : va_P D classes [(a 17, .inr (1, [.ref (a 40), .ref (a 14), .ref (a 127), .ref (a 128), .int v17_4, .int v17_5])), (a 44, .inl (t 0, 9, .inl f44)), (a 121, .inl (t 0, 9, .inl f121)), (a 122, .inl (t 0, 9, .inl f122)), (a 127, .inl (t 3, 256, .inl f127)), (a 14, .inr (2, [.ref (a 40), .int (u_1.1 0), .int (u_1.1 1), .int (u_1.1 2), .ref (a 120), .ref (a 121), .int v14_6, .ref (a 122), .int v14_8, .int v14_9, .int v14_10, .int v14_11, .int v14_12])), (a 40, .inr (0, [.int v40_0, .int v40_1, .int v40_2, .int v40_3, .int v40_4, .int v40_5, .int v40_6, .int v40_7, .ref (a 41), .ref (a 42), .ref (a 43), .ref (a 44), .ref (a 45), .ref (a 46), .ref (a 47), .ref (a 48), .ref (a 49), .ref (a 50), .ref (a 54)])), (a 42, .inl (t 0, 9, .inl f42)), (a 43, .inl (t 0, 9, .inl f43)), (a 45, .inl (t 0, 9, .inl f45)), (a 46, .inl (t 0, 9, .inl f46)), (a 47, .inl (t 0, 9, .inl f47)), (a 49, .inl (t 0, 9, .inl f49)), (a 54, .inr (9, [.int v54_0, .int v54_1, .int v54_2, .ref (a 55), .ref (a 56), .ref (a 57), .ref (a 58)])), (a 120, .inl (t 0, 81, .inl (u_1.2.1 0)))] H := hP
  have hD : va_D A [(a 17, .inr (1, [.ref (a 40), .ref (a 14), .ref (a 127), .ref (a 128), .int v17_4, .int v17_5])), (a 44, .inl (t 0, 9, .inl f44)), (a 121, .inl (t 0, 9, .inl f121)), (a 122, .inl (t 0, 9, .inl f122)), (a 127, .inl (t 3, 256, .inl f127)), (a 14, .inr (2, [.ref (a 40), .int (u_1.1 0), .int (u_1.1 1), .int (u_1.1 2), .ref (a 120), .ref (a 121), .int v14_6, .ref (a 122), .int v14_8, .int v14_9, .int v14_10, .int v14_11, .int v14_12])), (a 40, .inr (0, [.int v40_0, .int v40_1, .int v40_2, .int v40_3, .int v40_4, .int v40_5, .int v40_6, .int v40_7, .ref (a 41), .ref (a 42), .ref (a 43), .ref (a 44), .ref (a 45), .ref (a 46), .ref (a 47), .ref (a 48), .ref (a 49), .ref (a 50), .ref (a 54)])), (a 42, .inl (t 0, 9, .inl f42)), (a 43, .inl (t 0, 9, .inl f43)), (a 45, .inl (t 0, 9, .inl f45)), (a 46, .inl (t 0, 9, .inl f46)), (a 47, .inl (t 0, 9, .inl f47)), (a 49, .inl (t 0, 9, .inl f49)), (a 54, .inr (9, [.int v54_0, .int v54_1, .int v54_2, .ref (a 55), .ref (a 56), .ref (a 57), .ref (a 58)])), (a 120, .inl (t 0, 81, .inl (u_1.2.1 0)))] := hD
  refine lv_iconst (v := 1) hx hb dX1_tryPeople_8 (by decide) ?_
  refine lv_istore_n (lv' := [(3, .int 1), (0, .ref (a 17)), (1, .int p0), (2, .int p1)]) hx hb dX1_tryPeople_9 rfl hl (by decide) rfl (fun ls hl => ?_)
  refine loopW (α := US) (fun n y_3 H locs ls => 64 < (y_3.1 0).toInt + (n : Int) ∧ rg 1 64 (y_3.1 0) ∧ rg 0 9 (y_3.1 4) ∧ rg (-1) 8 (y_3.1 5) ∧ va_P D classes [(a 17, .inr (1, [.ref (a 40), .ref (a 14), .ref (a 127), .ref (a 128), .int v17_4, .int v17_5])), (a 44, .inl (t 0, 9, .inl f44)), (a 121, .inl (t 0, 9, .inl (y_3.2.1 0))), (a 122, .inl (t 0, 9, .inl (y_3.2.1 1))), (a 127, .inl (t 3, 256, .inl (y_3.2.1 2))), (a 14, .inr (2, [.ref (a 40), .int (u_1.1 0), .int (y_3.1 1), .int (y_3.1 2), .ref (a 120), .ref (a 121), .int (y_3.1 3), .ref (a 122), .int (y_3.1 4), .int (y_3.1 5), .int (y_3.1 6), .int v14_11, .int v14_12])), (a 40, .inr (0, [.int v40_0, .int v40_1, .int v40_2, .int v40_3, .int v40_4, .int v40_5, .int v40_6, .int v40_7, .ref (a 41), .ref (a 42), .ref (a 43), .ref (a 44), .ref (a 45), .ref (a 46), .ref (a 47), .ref (a 48), .ref (a 49), .ref (a 50), .ref (a 54)])), (a 42, .inl (t 0, 9, .inl f42)), (a 43, .inl (t 0, 9, .inl f43)), (a 45, .inl (t 0, 9, .inl f45)), (a 46, .inl (t 0, 9, .inl f46)), (a 47, .inl (t 0, 9, .inl f47)), (a 49, .inl (t 0, 9, .inl f49)), (a 54, .inr (9, [.int v54_0, .int v54_1, .int v54_2, .ref (a 55), .ref (a 56), .ref (a 57), .ref (a 58)])), (a 120, .inl (t 0, 81, .inl (u_1.2.1 0)))] H ∧ va_D A [(a 17, .inr (1, [.ref (a 40), .ref (a 14), .ref (a 127), .ref (a 128), .int v17_4, .int v17_5])), (a 44, .inl (t 0, 9, .inl f44)), (a 121, .inl (t 0, 9, .inl (y_3.2.1 0))), (a 122, .inl (t 0, 9, .inl (y_3.2.1 1))), (a 127, .inl (t 3, 256, .inl (y_3.2.1 2))), (a 14, .inr (2, [.ref (a 40), .int (u_1.1 0), .int (y_3.1 1), .int (y_3.1 2), .ref (a 120), .ref (a 121), .int (y_3.1 3), .ref (a 122), .int (y_3.1 4), .int (y_3.1 5), .int (y_3.1 6), .int v14_11, .int v14_12])), (a 40, .inr (0, [.int v40_0, .int v40_1, .int v40_2, .int v40_3, .int v40_4, .int v40_5, .int v40_6, .int v40_7, .ref (a 41), .ref (a 42), .ref (a 43), .ref (a 44), .ref (a 45), .ref (a 46), .ref (a 47), .ref (a 48), .ref (a 49), .ref (a 50), .ref (a 54)])), (a 42, .inl (t 0, 9, .inl f42)), (a 43, .inl (t 0, 9, .inl f43)), (a 45, .inl (t 0, 9, .inl f45)), (a 46, .inl (t 0, 9, .inl f46)), (a 47, .inl (t 0, 9, .inl f47)), (a 49, .inl (t 0, 9, .inl f49)), (a 54, .inr (9, [.int v54_0, .int v54_1, .int v54_2, .ref (a 55), .ref (a 56), .ref (a 57), .ref (a 58)])), (a 120, .inl (t 0, 81, .inl (u_1.2.1 0)))] ∧ va_S A s.heap H locs ∧ lv_has ls 5 [(3, .int (y_3.1 0)), (0, .ref (a 17)), (1, .int p0), (2, .int p1)]) 10 (fun y_3 => []) (fun _ _ _ _ h9 => m_0 h9.1 h9.2.1) (fun n ih_7 y_3 H locs ls hI => ?_) 64 (fun k => [1, (u_1.1 1), (u_1.1 2), v14_6, v14_8, v14_9, v14_10].getD k 0, fun k => [f121, f122, f127].getD k (fun _ => 0), fun k => [].getD k (fun _ => 0), fun k => [].getD k 0) ⟨(m_i (rg_c (x := 1) (k := 1) (by decide)) (by decide)), (rg_w (c := 1) (d := 64) (rg_c (x := 1) (k := 1) (by decide)) (by decide) (by decide)), r14_8, r14_9, hP, hD, hS, (lv_sub hl [0, 1, 2, 3] rfl)⟩
  obtain ⟨me_8, h_4, h_5, h_6, hP, hD, hS, hl⟩ := hI
  refine lv_iload_n hx hb dX1_tryPeople_10 rfl (lv_at hl 0 rfl) ?_
  refine lv_iconst (v := 1) hx hb dX1_tryPeople_11 (by decide) ?_
  refine lv_aload_n hx hb dX1_tryPeople_12 rfl (lv_at hl 1 rfl) ?_
  refine va_get (D := D) (ci := 1) (v := .ref (a 40)) (C := RX1) (T := TX1) (N := 6) hx hb hts iX1 hown hK hP 0 rfl rfl 0 (by decide) (hts _ m_366) (fun _ h9 => h9) rfl dX1_tryPeople_13 ?_
  refine va_getN (D := D) (ci := 0) (v := .int v40_7) (C := RX0) (T := TX0) (N := 19) (host := "WordSeats") hx hb hts iX0 hown hK hP 6 rfl rfl 7 (by decide) (va_Nw.use rfl (hN _ n_147)) (fun _ h9 => h9) rfl dX1_tryPeople_16 ?_
  refine lv_ishl hx hb dX1_tryPeople_19 ?_
  refine lv_topi (fun x_9 ex_9 => ?_)
  have hx_9 : rg 1 64 x_9 := by rw [ex_9]; exact rg_shl1 (b := 6) r40_7 (by decide) (by decide)
  refine lv_icmp_ge (tgt := 96) hx hb dX1_tryPeople_20 (by decide) (fun c_10 => ?_) (fun c_10 => ?_)
  · skip
    have hP9 := hP.sub (ws' := [(a 14, .inr (2, [.ref (a 40), .int (u_1.1 0), .int (y_3.1 1), .int (y_3.1 2), .ref (a 120), .ref (a 121), .int (y_3.1 3), .ref (a 122), .int (y_3.1 4), .int (y_3.1 5), .int (y_3.1 6), .int v14_11, .int v14_12])), (a 17, .inr (1, [.ref (a 40), .ref (a 14), .ref (a 127), .ref (a 128), .int v17_4, .int v17_5])), (a 40, .inr (0, [.int v40_0, .int v40_1, .int v40_2, .int v40_3, .int v40_4, .int v40_5, .int v40_6, .int v40_7, .ref (a 41), .ref (a 42), .ref (a 43), .ref (a 44), .ref (a 45), .ref (a 46), .ref (a 47), .ref (a 48), .ref (a 49), .ref (a 50), .ref (a 54)])), (a 42, .inl (t 0, 9, .inl f42)), (a 43, .inl (t 0, 9, .inl f43)), (a 44, .inl (t 0, 9, .inl f44)), (a 45, .inl (t 0, 9, .inl f45)), (a 46, .inl (t 0, 9, .inl f46)), (a 47, .inl (t 0, 9, .inl f47)), (a 49, .inl (t 0, 9, .inl f49)), (a 54, .inr (9, [.int v54_0, .int v54_1, .int v54_2, .ref (a 55), .ref (a 56), .ref (a 57), .ref (a 58)])), (a 120, .inl (t 0, 81, .inl (u_1.2.1 0))), (a 121, .inl (t 0, 9, .inl (y_3.2.1 0))), (a 122, .inl (t 0, 9, .inl (y_3.2.1 1))), (a 127, .inl (t 3, 256, .inl (y_3.2.1 2)))]) [5, 0, 6, 7, 8, 1, 9, 10, 11, 12, 13, 14, 2, 3, 4] rfl
    have hD9 := hD.sub (ws' := [(a 14, .inr (2, [.ref (a 40), .int (u_1.1 0), .int (y_3.1 1), .int (y_3.1 2), .ref (a 120), .ref (a 121), .int (y_3.1 3), .ref (a 122), .int (y_3.1 4), .int (y_3.1 5), .int (y_3.1 6), .int v14_11, .int v14_12])), (a 17, .inr (1, [.ref (a 40), .ref (a 14), .ref (a 127), .ref (a 128), .int v17_4, .int v17_5])), (a 40, .inr (0, [.int v40_0, .int v40_1, .int v40_2, .int v40_3, .int v40_4, .int v40_5, .int v40_6, .int v40_7, .ref (a 41), .ref (a 42), .ref (a 43), .ref (a 44), .ref (a 45), .ref (a 46), .ref (a 47), .ref (a 48), .ref (a 49), .ref (a 50), .ref (a 54)])), (a 42, .inl (t 0, 9, .inl f42)), (a 43, .inl (t 0, 9, .inl f43)), (a 44, .inl (t 0, 9, .inl f44)), (a 45, .inl (t 0, 9, .inl f45)), (a 46, .inl (t 0, 9, .inl f46)), (a 47, .inl (t 0, 9, .inl f47)), (a 49, .inl (t 0, 9, .inl f49)), (a 54, .inr (9, [.int v54_0, .int v54_1, .int v54_2, .ref (a 55), .ref (a 56), .ref (a 57), .ref (a 58)])), (a 120, .inl (t 0, 81, .inl (u_1.2.1 0))), (a 121, .inl (t 0, 9, .inl (y_3.2.1 0))), (a 122, .inl (t 0, 9, .inl (y_3.2.1 1))), (a 127, .inl (t 3, 256, .inl (y_3.2.1 2)))]) [5, 0, 6, 7, 8, 1, 9, 10, 11, 12, 13, 14, 2, 3, 4] (by decide) rfl
    exact W.vret hx hb hr (fun t9 ht hW => ⟨⟨(fun k => [(u_1.1 0), (y_3.1 1), (y_3.1 2), (y_3.1 3), (y_3.1 4), (y_3.1 5), (y_3.1 6)].getD k 0, fun k => [(u_1.2.1 0), (y_3.2.1 0), (y_3.2.1 1), (y_3.2.1 2)].getD k (fun _ => 0), fun k => [].getD k (fun _ => 0), fun _ => 0), rfl, ⟨h_5, h_6⟩, by rw [ht]; exact hP9, hD9⟩, hS.F ht⟩) hS.2.2 dX1_tryPeople_96
  · skip
    have h_11 : rg 1 63 (y_3.1 0) := ⟨(h_4).1, Int.le_trans (c_nleR c_10 hx_9) (by decide)⟩
    have h_12 : rg 2 64 x_9 := ⟨Int.le_trans (by decide) (c_nle c_10 h_4), (hx_9).2⟩
    refine lv_aload_n hx hb dX1_tryPeople_23 rfl (lv_at hl 1 rfl) ?_
    refine va_get (D := D) (ci := 1) (v := .ref (a 14)) (C := RX1) (T := TX1) (N := 6) hx hb hts iX1 hown hK hP 0 rfl rfl 1 (by decide) (hts _ m_367) (fun _ h9 => h9) rfl dX1_tryPeople_24 ?_
    refine lv_iload_n hx hb dX1_tryPeople_27 rfl (lv_at hl 0 rfl) ?_
    refine y_wV (wr := [(a 17, .inr (1, [.ref (a 40), .ref (a 14), .ref (a 127), .ref (a 128), .int v17_4, .int v17_5])), (a 44, .inl (t 0, 9, .inl f44)), (a 121, .inl (t 0, 9, .inl (y_3.2.1 0))), (a 122, .inl (t 0, 9, .inl (y_3.2.1 1))), (a 127, .inl (t 3, 256, .inl (y_3.2.1 2))), (a 42, .inl (t 0, 9, .inl f42)), (a 43, .inl (t 0, 9, .inl f43)), (a 45, .inl (t 0, 9, .inl f45)), (a 46, .inl (t 0, 9, .inl f46)), (a 49, .inl (t 0, 9, .inl f49)), (a 54, .inr (9, [.int v54_0, .int v54_1, .int v54_2, .ref (a 55), .ref (a 56), .ref (a 57), .ref (a 58)])), (a 120, .inl (t 0, 81, .inl (u_1.2.1 0)))]) hF (s_X2_enrol l D t a (u_1.1 0) (y_3.1 1) (y_3.1 2) (y_3.1 3) (y_3.1 4) (y_3.1 5) (y_3.1 6) v14_11 v14_12 v40_0 v40_1 v40_2 v40_3 v40_4 v40_5 v40_6 v40_7 f47 (y_3.1 0) h_5 h_6 r40_1 r40_5 r40_6 (rg_w (c := 0) (d := 9) r40_7 (by decide) (by decide)) H.size) m_1196 m_775 m_776 m_7 m_777 hd_X2_enrol ⟨Nat.le_of_ble_eq_true rfl, Nat.le_of_ble_eq_true rfl⟩ hK hN hP hD hS hA 0 (ci := 2) rfl rfl rfl [5, 6, 11] [0, 1, 2, 3, 4, 7, 8, 9, 10, 12, 13, 14] rfl rfl (by decide) (by decide) (by decide) hl.1 rfl (Nat.le_of_ble_eq_true rfl) dX1_tryPeople_28 ⟨Nat.zero_le _, Nat.zero_le _⟩ (fun u_13 H locs hu_13 hP hD hS => ?_)
    have hP : va_P D classes [(a 17, .inr (1, [.ref (a 40), .ref (a 14), .ref (a 127), .ref (a 128), .int v17_4, .int v17_5])), (a 44, .inl (t 0, 9, .inl f44)), (a 121, .inl (t 0, 9, .inl (y_3.2.1 0))), (a 122, .inl (t 0, 9, .inl (y_3.2.1 1))), (a 127, .inl (t 3, 256, .inl (y_3.2.1 2))), (a 42, .inl (t 0, 9, .inl f42)), (a 43, .inl (t 0, 9, .inl f43)), (a 45, .inl (t 0, 9, .inl f45)), (a 46, .inl (t 0, 9, .inl f46)), (a 49, .inl (t 0, 9, .inl f49)), (a 54, .inr (9, [.int v54_0, .int v54_1, .int v54_2, .ref (a 55), .ref (a 56), .ref (a 57), .ref (a 58)])), (a 120, .inl (t 0, 81, .inl (u_1.2.1 0))), (a 14, .inr (2, [.ref (a 40), .int (u_1.1 0), .int (u_13.1 0), .int (u_13.1 1), .ref (a 120), .ref (a 121), .int (y_3.1 3), .ref (a 122), .int (y_3.1 4), .int (y_3.1 5), .int (y_3.1 6), .int v14_11, .int v14_12])), (a 40, .inr (0, [.int v40_0, .int v40_1, .int v40_2, .int v40_3, .int v40_4, .int v40_5, .int v40_6, .int v40_7, .ref (a 41), .ref (a 42), .ref (a 43), .ref (a 44), .ref (a 45), .ref (a 46), .ref (a 47), .ref (a 48), .ref (a 49), .ref (a 50), .ref (a 54)])), (a 47, .inl (t 0, 9, .inl f47))] H := hP
    have hD : va_D A [(a 17, .inr (1, [.ref (a 40), .ref (a 14), .ref (a 127), .ref (a 128), .int v17_4, .int v17_5])), (a 44, .inl (t 0, 9, .inl f44)), (a 121, .inl (t 0, 9, .inl (y_3.2.1 0))), (a 122, .inl (t 0, 9, .inl (y_3.2.1 1))), (a 127, .inl (t 3, 256, .inl (y_3.2.1 2))), (a 42, .inl (t 0, 9, .inl f42)), (a 43, .inl (t 0, 9, .inl f43)), (a 45, .inl (t 0, 9, .inl f45)), (a 46, .inl (t 0, 9, .inl f46)), (a 49, .inl (t 0, 9, .inl f49)), (a 54, .inr (9, [.int v54_0, .int v54_1, .int v54_2, .ref (a 55), .ref (a 56), .ref (a 57), .ref (a 58)])), (a 120, .inl (t 0, 81, .inl (u_1.2.1 0))), (a 14, .inr (2, [.ref (a 40), .int (u_1.1 0), .int (u_13.1 0), .int (u_13.1 1), .ref (a 120), .ref (a 121), .int (y_3.1 3), .ref (a 122), .int (y_3.1 4), .int (y_3.1 5), .int (y_3.1 6), .int v14_11, .int v14_12])), (a 40, .inr (0, [.int v40_0, .int v40_1, .int v40_2, .int v40_3, .int v40_4, .int v40_5, .int v40_6, .int v40_7, .ref (a 41), .ref (a 42), .ref (a 43), .ref (a 44), .ref (a 45), .ref (a 46), .ref (a 47), .ref (a 48), .ref (a 49), .ref (a 50), .ref (a 54)])), (a 47, .inl (t 0, 9, .inl f47))] := hD
    refine lv_aload_n hx hb dX1_tryPeople_31 rfl (lv_at hl 1 rfl) ?_
    refine va_get (D := D) (ci := 1) (v := .ref (a 14)) (C := RX1) (T := TX1) (N := 6) hx hb hts iX1 hown hK hP 0 rfl rfl 1 (by decide) (hts _ m_367) (fun _ h9 => h9) rfl dX1_tryPeople_32 ?_
    refine lv_aload_n hx hb dX1_tryPeople_35 rfl (lv_at hl 1 rfl) ?_
    refine va_get (D := D) (ci := 1) (v := .ref (a 40)) (C := RX1) (T := TX1) (N := 6) hx hb hts iX1 hown hK hP 0 rfl rfl 0 (by decide) (hts _ m_366) (fun _ h9 => h9) rfl dX1_tryPeople_36 ?_
    refine va_getN (D := D) (ci := 0) (v := .int v40_2) (C := RX0) (T := TX0) (N := 19) (host := "WordSeats") hx hb hts iX0 hown hK hP 13 rfl rfl 2 (by decide) (va_Nw.use rfl (hN _ n_126)) (fun _ h9 => h9) rfl dX1_tryPeople_39 ?_
    refine y_wV (wr := [(a 17, .inr (1, [.ref (a 40), .ref (a 14), .ref (a 127), .ref (a 128), .int v17_4, .int v17_5])), (a 44, .inl (t 0, 9, .inl f44)), (a 127, .inl (t 3, 256, .inl (y_3.2.1 2))), (a 43, .inl (t 0, 9, .inl f43)), (a 45, .inl (t 0, 9, .inl f45)), (a 46, .inl (t 0, 9, .inl f46)), (a 49, .inl (t 0, 9, .inl f49)), (a 54, .inr (9, [.int v54_0, .int v54_1, .int v54_2, .ref (a 55), .ref (a 56), .ref (a 57), .ref (a 58)]))]) hF (s_X2_hold l D t a (u_1.1 0) (u_13.1 0) (u_13.1 1) (y_3.1 3) (y_3.1 4) (y_3.1 5) (y_3.1 6) v14_11 v14_12 v40_0 v40_1 v40_2 v40_3 v40_4 v40_5 v40_6 v40_7 f42 f47 (u_1.2.1 0) (y_3.2.1 0) (y_3.2.1 1) v40_2 h_5 h_6 r40_1 r40_5 r40_6 (rg_w (c := 0) (d := 9) r40_7 (by decide) (by decide)) ou_1 H.size) m_1197 m_812 m_813 m_7 m_814 hd_X2_hold ⟨Nat.le_of_ble_eq_true rfl, Nat.le_of_ble_eq_true rfl⟩ hK hN hP hD hS hA 0 (ci := 2) rfl rfl rfl [12, 13, 5, 14, 11, 2, 3] [0, 1, 4, 6, 7, 8, 9, 10] rfl rfl (by decide) (by decide) (by decide) hl.1 rfl (Nat.le_of_ble_eq_true rfl) dX1_tryPeople_42 ⟨Nat.zero_le _, Nat.zero_le _⟩ (fun u_15 H locs hu_15 hP hD hS => ?_)
    obtain ⟨h_17, h_18⟩ := hu_15
    have hP : va_P D classes [(a 17, .inr (1, [.ref (a 40), .ref (a 14), .ref (a 127), .ref (a 128), .int v17_4, .int v17_5])), (a 44, .inl (t 0, 9, .inl f44)), (a 127, .inl (t 3, 256, .inl (y_3.2.1 2))), (a 43, .inl (t 0, 9, .inl f43)), (a 45, .inl (t 0, 9, .inl f45)), (a 46, .inl (t 0, 9, .inl f46)), (a 49, .inl (t 0, 9, .inl f49)), (a 54, .inr (9, [.int v54_0, .int v54_1, .int v54_2, .ref (a 55), .ref (a 56), .ref (a 57), .ref (a 58)])), (a 14, .inr (2, [.ref (a 40), .int (u_1.1 0), .int (u_13.1 0), .int (u_13.1 1), .ref (a 120), .ref (a 121), .int (u_15.1 0), .ref (a 122), .int (u_15.1 1), .int (u_15.1 2), .int (u_15.1 3), .int v14_11, .int v14_12])), (a 40, .inr (0, [.int v40_0, .int v40_1, .int v40_2, .int v40_3, .int v40_4, .int v40_5, .int v40_6, .int v40_7, .ref (a 41), .ref (a 42), .ref (a 43), .ref (a 44), .ref (a 45), .ref (a 46), .ref (a 47), .ref (a 48), .ref (a 49), .ref (a 50), .ref (a 54)])), (a 42, .inl (t 0, 9, .inl f42)), (a 47, .inl (t 0, 9, .inl f47)), (a 120, .inl (t 0, 81, .inl (u_1.2.1 0))), (a 121, .inl (t 0, 9, .inl (u_15.2.1 0))), (a 122, .inl (t 0, 9, .inl (u_15.2.1 1)))] H := hP
    have hD : va_D A [(a 17, .inr (1, [.ref (a 40), .ref (a 14), .ref (a 127), .ref (a 128), .int v17_4, .int v17_5])), (a 44, .inl (t 0, 9, .inl f44)), (a 127, .inl (t 3, 256, .inl (y_3.2.1 2))), (a 43, .inl (t 0, 9, .inl f43)), (a 45, .inl (t 0, 9, .inl f45)), (a 46, .inl (t 0, 9, .inl f46)), (a 49, .inl (t 0, 9, .inl f49)), (a 54, .inr (9, [.int v54_0, .int v54_1, .int v54_2, .ref (a 55), .ref (a 56), .ref (a 57), .ref (a 58)])), (a 14, .inr (2, [.ref (a 40), .int (u_1.1 0), .int (u_13.1 0), .int (u_13.1 1), .ref (a 120), .ref (a 121), .int (u_15.1 0), .ref (a 122), .int (u_15.1 1), .int (u_15.1 2), .int (u_15.1 3), .int v14_11, .int v14_12])), (a 40, .inr (0, [.int v40_0, .int v40_1, .int v40_2, .int v40_3, .int v40_4, .int v40_5, .int v40_6, .int v40_7, .ref (a 41), .ref (a 42), .ref (a 43), .ref (a 44), .ref (a 45), .ref (a 46), .ref (a 47), .ref (a 48), .ref (a 49), .ref (a 50), .ref (a 54)])), (a 42, .inl (t 0, 9, .inl f42)), (a 47, .inl (t 0, 9, .inl f47)), (a 120, .inl (t 0, 81, .inl (u_1.2.1 0))), (a 121, .inl (t 0, 9, .inl (u_15.2.1 0))), (a 122, .inl (t 0, 9, .inl (u_15.2.1 1)))] := hD
    refine lv_aload_n hx hb dX1_tryPeople_45 rfl (lv_at hl 1 rfl) ?_
    refine va_get (D := D) (ci := 1) (v := .ref (a 14)) (C := RX1) (T := TX1) (N := 6) hx hb hts iX1 hown hK hP 0 rfl rfl 1 (by decide) (hts _ m_367) (fun _ h9 => h9) rfl dX1_tryPeople_46 ?_
    refine y_pV hF (s_X2_taker l D t a (u_1.1 0) (u_13.1 0) (u_13.1 1) (u_15.1 0) (u_15.1 1) (u_15.1 2) (u_15.1 3) v14_11 v14_12 v40_0 v40_1 v40_2 v40_3 v40_4 v40_5 v40_6 v40_7 h_17 h_18 r40_1 r40_5 r40_6 (rg_w (c := 0) (d := 9) r40_7 (by decide) (by decide))) m_1198 m_852 m_853 m_7 m_854 hd_X2_taker ⟨Nat.le_of_ble_eq_true rfl, Nat.le_of_ble_eq_true rfl⟩ hK hN hP hS [8, 9] rfl 0 (ci := 2) rfl rfl rfl hl.1 rfl (Nat.le_of_ble_eq_true rfl) dX1_tryPeople_49 ⟨Nat.zero_le _, Nat.zero_le _⟩ (fun r_19 H locs hr_19 hP hS => ?_)
    refine lv_istore (lv' := [(4, .int r_19), (3, .int (y_3.1 0)), (0, .ref (a 17)), (1, .int p0), (2, .int p1)]) hx hb dX1_tryPeople_52 hl (by decide) rfl (fun ls hl => ?_)
    refine lv_aload_n hx hb dX1_tryPeople_54 rfl (lv_at hl 2 rfl) ?_
    refine va_get (D := D) (ci := 1) (v := .ref (a 127)) (C := RX1) (T := TX1) (N := 6) hx hb hts iX1 hown hK hP 0 rfl rfl 2 (by decide) (hts _ m_368) (fun _ h9 => h9) rfl dX1_tryPeople_55 ?_
    refine lv_iload_n hx hb dX1_tryPeople_58 rfl (lv_at hl 4 rfl) ?_
    refine lv_bipush (v := 6) hx hb dX1_tryPeople_59 (by decide) ?_
    refine lv_ishl hx hb dX1_tryPeople_61 ?_
    refine lv_topi (fun x_20 ex_20 => ?_)
    have hx_20 : rg 0 192 x_20 := by rw [ex_20]; exact rg_shlc (k := 6) rp1 (by decide) (by decide) (by decide) (by decide)
    refine lv_iload_n hx hb dX1_tryPeople_62 rfl (lv_at hl 1 rfl) ?_
    refine lv_iadd hx hb dX1_tryPeople_63 ?_
    refine lv_topi (fun x_21 ex_21 => ?_)
    have hx_21 : rg 1 255 x_21 := by rw [ex_21]; exact rg_add hx_20 h_11 (by decide) (by decide) (by decide) (by decide)
    refine lv_iload hx hb dX1_tryPeople_64 (lv_at hl 0 rfl) ?_
    refine lv_iconst (v := (-1)) hx hb dX1_tryPeople_66 (by decide) ?_
    refine lv_icmp_eq (tgt := 88) hx hb dX1_tryPeople_67 (by decide) (fun c_22 => ?_) (fun c_22 => ?_)
    · skip
      have h_23 : rg (-1) (-1) r_19 := rg_eq c_22 (rg_c (x := (-1)) (k := (-1)) (by decide))
      refine lv_iconst (v := 0) hx hb dX1_tryPeople_88 (by decide) ?_
      refine x_zast hx hb hK hP hD hS 2 3 rfl rfl (in_rg hx_21 (by decide) (by decide)) dX1_tryPeople_89 (fun g_24 H locs hP hD hS => ?_)
      have hP : va_P D classes [(a 17, .inr (1, [.ref (a 40), .ref (a 14), .ref (a 127), .ref (a 128), .int v17_4, .int v17_5])), (a 44, .inl (t 0, 9, .inl f44)), (a 127, .inl (t 3, 256, .inl g_24)), (a 43, .inl (t 0, 9, .inl f43)), (a 45, .inl (t 0, 9, .inl f45)), (a 46, .inl (t 0, 9, .inl f46)), (a 49, .inl (t 0, 9, .inl f49)), (a 54, .inr (9, [.int v54_0, .int v54_1, .int v54_2, .ref (a 55), .ref (a 56), .ref (a 57), .ref (a 58)])), (a 14, .inr (2, [.ref (a 40), .int (u_1.1 0), .int (u_13.1 0), .int (u_13.1 1), .ref (a 120), .ref (a 121), .int (u_15.1 0), .ref (a 122), .int (u_15.1 1), .int (u_15.1 2), .int (u_15.1 3), .int v14_11, .int v14_12])), (a 40, .inr (0, [.int v40_0, .int v40_1, .int v40_2, .int v40_3, .int v40_4, .int v40_5, .int v40_6, .int v40_7, .ref (a 41), .ref (a 42), .ref (a 43), .ref (a 44), .ref (a 45), .ref (a 46), .ref (a 47), .ref (a 48), .ref (a 49), .ref (a 50), .ref (a 54)])), (a 42, .inl (t 0, 9, .inl f42)), (a 47, .inl (t 0, 9, .inl f47)), (a 120, .inl (t 0, 81, .inl (u_1.2.1 0))), (a 121, .inl (t 0, 9, .inl (u_15.2.1 0))), (a 122, .inl (t 0, 9, .inl (u_15.2.1 1)))] H := hP
      have hD : va_D A [(a 17, .inr (1, [.ref (a 40), .ref (a 14), .ref (a 127), .ref (a 128), .int v17_4, .int v17_5])), (a 44, .inl (t 0, 9, .inl f44)), (a 127, .inl (t 3, 256, .inl g_24)), (a 43, .inl (t 0, 9, .inl f43)), (a 45, .inl (t 0, 9, .inl f45)), (a 46, .inl (t 0, 9, .inl f46)), (a 49, .inl (t 0, 9, .inl f49)), (a 54, .inr (9, [.int v54_0, .int v54_1, .int v54_2, .ref (a 55), .ref (a 56), .ref (a 57), .ref (a 58)])), (a 14, .inr (2, [.ref (a 40), .int (u_1.1 0), .int (u_13.1 0), .int (u_13.1 1), .ref (a 120), .ref (a 121), .int (u_15.1 0), .ref (a 122), .int (u_15.1 1), .int (u_15.1 2), .int (u_15.1 3), .int v14_11, .int v14_12])), (a 40, .inr (0, [.int v40_0, .int v40_1, .int v40_2, .int v40_3, .int v40_4, .int v40_5, .int v40_6, .int v40_7, .ref (a 41), .ref (a 42), .ref (a 43), .ref (a 44), .ref (a 45), .ref (a 46), .ref (a 47), .ref (a 48), .ref (a 49), .ref (a 50), .ref (a 54)])), (a 42, .inl (t 0, 9, .inl f42)), (a 47, .inl (t 0, 9, .inl f47)), (a 120, .inl (t 0, 81, .inl (u_1.2.1 0))), (a 121, .inl (t 0, 9, .inl (u_15.2.1 0))), (a 122, .inl (t 0, 9, .inl (u_15.2.1 1)))] := hD
      obtain ⟨x_25, ex_25⟩ : ∃ y9 : Int32, y9 = (y_3.1 0) + 1 := ⟨_, rfl⟩
      have hx_25 : rg 2 64 x_25 := by rw [ex_25]; exact rg_add h_11 (rg_c (x := 1) (k := 1) (by decide)) (by decide) (by decide) (by decide) (by decide)
      have tx_25 : x_25.toInt = (y_3.1 0).toInt + 1 := by rw [ex_25]; exact inc_tk h_11 (by decide) (by decide) (by decide)
      refine lv_iinc (v := x_25) (lv' := [(3, .int x_25), (4, .int r_19), (0, .ref (a 17)), (1, .int p0), (2, .int p1)]) hx hb dX1_tryPeople_90 hl (k := 1) rfl (by rw [ex_25]; rfl) (by decide) rfl (fun ls hl => ?_)
      refine lv_goto (tgt := 10) hx hb dX1_tryPeople_93 (by decide) ?_
      exact ih_7 (fun k => [x_25, (u_13.1 0), (u_13.1 1), (u_15.1 0), (u_15.1 1), (u_15.1 2), (u_15.1 3)].getD k 0, fun k => [(u_15.2.1 0), (u_15.2.1 1), g_24].getD k (fun _ => 0), fun k => [].getD k (fun _ => 0), fun k => [].getD k 0) _ _ ls ⟨(m_upk me_8 tx_25 (by decide)), (rg_w (c := 1) (d := 64) hx_25 (by decide) (by decide)), h_17, h_18, (hP.sub [0, 1, 13, 14, 2, 8, 9, 10, 3, 4, 5, 11, 6, 7, 12] rfl), (hD.sub [0, 1, 13, 14, 2, 8, 9, 10, 3, 4, 5, 11, 6, 7, 12] (by decide) rfl), hS, (lv_sub hl [0, 2, 3, 4] rfl)⟩
    · skip
      have h_26 : rg 0 8 r_19 := rg_w (rg_neL hr_19 c_22 (by decide)) (by decide) (by decide)
      refine lv_aload_n hx hb dX1_tryPeople_70 rfl (lv_at hl 2 rfl) ?_
      refine va_get (D := D) (ci := 1) (v := .ref (a 40)) (C := RX1) (T := TX1) (N := 6) hx hb hts iX1 hown hK hP 0 rfl rfl 0 (by decide) (hts _ m_366) (fun _ h9 => h9) rfl dX1_tryPeople_71 ?_
      refine va_getN (D := D) (ci := 0) (v := .ref (a 44)) (C := RX0) (T := TX0) (N := 19) (host := "WordSeats") hx hb hts iX0 hown hK hP 9 rfl rfl 11 (by decide) (va_Nw.use rfl (hN _ n_166)) (fun _ h9 => h9) rfl dX1_tryPeople_74 ?_
      refine lv_iload hx hb dX1_tryPeople_77 (lv_at hl 0 rfl) ?_
      refine va_iald hx hb hK hP 1 0 rfl rfl (in_rg h_26 (by decide) (by decide)) dX1_tryPeople_79 ?_
      refine lv_topi (fun x_27 ex_27 => ?_)
      have hx_27 : rg 0 3 x_27 := by rw [ex_27]; exact q44 _ (cl_rg h_26 (by decide) (by decide))
      refine lv_iload_n hx hb dX1_tryPeople_80 rfl (lv_at hl 3 rfl) ?_
      refine lv_icmp_ne (tgt := 88) hx hb dX1_tryPeople_81 (by decide) (fun c_28 => ?_) (fun c_28 => ?_)
      · skip
        refine lv_iconst (v := 0) hx hb dX1_tryPeople_88 (by decide) ?_
        refine x_zast hx hb hK hP hD hS 2 3 rfl rfl (in_rg hx_21 (by decide) (by decide)) dX1_tryPeople_89 (fun g_29 H locs hP hD hS => ?_)
        have hP : va_P D classes [(a 17, .inr (1, [.ref (a 40), .ref (a 14), .ref (a 127), .ref (a 128), .int v17_4, .int v17_5])), (a 44, .inl (t 0, 9, .inl f44)), (a 127, .inl (t 3, 256, .inl g_29)), (a 43, .inl (t 0, 9, .inl f43)), (a 45, .inl (t 0, 9, .inl f45)), (a 46, .inl (t 0, 9, .inl f46)), (a 49, .inl (t 0, 9, .inl f49)), (a 54, .inr (9, [.int v54_0, .int v54_1, .int v54_2, .ref (a 55), .ref (a 56), .ref (a 57), .ref (a 58)])), (a 14, .inr (2, [.ref (a 40), .int (u_1.1 0), .int (u_13.1 0), .int (u_13.1 1), .ref (a 120), .ref (a 121), .int (u_15.1 0), .ref (a 122), .int (u_15.1 1), .int (u_15.1 2), .int (u_15.1 3), .int v14_11, .int v14_12])), (a 40, .inr (0, [.int v40_0, .int v40_1, .int v40_2, .int v40_3, .int v40_4, .int v40_5, .int v40_6, .int v40_7, .ref (a 41), .ref (a 42), .ref (a 43), .ref (a 44), .ref (a 45), .ref (a 46), .ref (a 47), .ref (a 48), .ref (a 49), .ref (a 50), .ref (a 54)])), (a 42, .inl (t 0, 9, .inl f42)), (a 47, .inl (t 0, 9, .inl f47)), (a 120, .inl (t 0, 81, .inl (u_1.2.1 0))), (a 121, .inl (t 0, 9, .inl (u_15.2.1 0))), (a 122, .inl (t 0, 9, .inl (u_15.2.1 1)))] H := hP
        have hD : va_D A [(a 17, .inr (1, [.ref (a 40), .ref (a 14), .ref (a 127), .ref (a 128), .int v17_4, .int v17_5])), (a 44, .inl (t 0, 9, .inl f44)), (a 127, .inl (t 3, 256, .inl g_29)), (a 43, .inl (t 0, 9, .inl f43)), (a 45, .inl (t 0, 9, .inl f45)), (a 46, .inl (t 0, 9, .inl f46)), (a 49, .inl (t 0, 9, .inl f49)), (a 54, .inr (9, [.int v54_0, .int v54_1, .int v54_2, .ref (a 55), .ref (a 56), .ref (a 57), .ref (a 58)])), (a 14, .inr (2, [.ref (a 40), .int (u_1.1 0), .int (u_13.1 0), .int (u_13.1 1), .ref (a 120), .ref (a 121), .int (u_15.1 0), .ref (a 122), .int (u_15.1 1), .int (u_15.1 2), .int (u_15.1 3), .int v14_11, .int v14_12])), (a 40, .inr (0, [.int v40_0, .int v40_1, .int v40_2, .int v40_3, .int v40_4, .int v40_5, .int v40_6, .int v40_7, .ref (a 41), .ref (a 42), .ref (a 43), .ref (a 44), .ref (a 45), .ref (a 46), .ref (a 47), .ref (a 48), .ref (a 49), .ref (a 50), .ref (a 54)])), (a 42, .inl (t 0, 9, .inl f42)), (a 47, .inl (t 0, 9, .inl f47)), (a 120, .inl (t 0, 81, .inl (u_1.2.1 0))), (a 121, .inl (t 0, 9, .inl (u_15.2.1 0))), (a 122, .inl (t 0, 9, .inl (u_15.2.1 1)))] := hD
        obtain ⟨x_30, ex_30⟩ : ∃ y9 : Int32, y9 = (y_3.1 0) + 1 := ⟨_, rfl⟩
        have hx_30 : rg 2 64 x_30 := by rw [ex_30]; exact rg_add h_11 (rg_c (x := 1) (k := 1) (by decide)) (by decide) (by decide) (by decide) (by decide)
        have tx_30 : x_30.toInt = (y_3.1 0).toInt + 1 := by rw [ex_30]; exact inc_tk h_11 (by decide) (by decide) (by decide)
        refine lv_iinc (v := x_30) (lv' := [(3, .int x_30), (4, .int r_19), (0, .ref (a 17)), (1, .int p0), (2, .int p1)]) hx hb dX1_tryPeople_90 hl (k := 1) rfl (by rw [ex_30]; rfl) (by decide) rfl (fun ls hl => ?_)
        refine lv_goto (tgt := 10) hx hb dX1_tryPeople_93 (by decide) ?_
        exact ih_7 (fun k => [x_30, (u_13.1 0), (u_13.1 1), (u_15.1 0), (u_15.1 1), (u_15.1 2), (u_15.1 3)].getD k 0, fun k => [(u_15.2.1 0), (u_15.2.1 1), g_29].getD k (fun _ => 0), fun k => [].getD k (fun _ => 0), fun k => [].getD k 0) _ _ ls ⟨(m_upk me_8 tx_30 (by decide)), (rg_w (c := 1) (d := 64) hx_30 (by decide) (by decide)), h_17, h_18, (hP.sub [0, 1, 13, 14, 2, 8, 9, 10, 3, 4, 5, 11, 6, 7, 12] rfl), (hD.sub [0, 1, 13, 14, 2, 8, 9, 10, 3, 4, 5, 11, 6, 7, 12] (by decide) rfl), hS, (lv_sub hl [0, 2, 3, 4] rfl)⟩
      · skip
        refine lv_iconst (v := 1) hx hb dX1_tryPeople_84 (by decide) ?_
        refine lv_goto (tgt := 89) hx hb dX1_tryPeople_85 (by decide) ?_
        refine x_zast hx hb hK hP hD hS 2 3 rfl rfl (in_rg hx_21 (by decide) (by decide)) dX1_tryPeople_89 (fun g_31 H locs hP hD hS => ?_)
        have hP : va_P D classes [(a 17, .inr (1, [.ref (a 40), .ref (a 14), .ref (a 127), .ref (a 128), .int v17_4, .int v17_5])), (a 44, .inl (t 0, 9, .inl f44)), (a 127, .inl (t 3, 256, .inl g_31)), (a 43, .inl (t 0, 9, .inl f43)), (a 45, .inl (t 0, 9, .inl f45)), (a 46, .inl (t 0, 9, .inl f46)), (a 49, .inl (t 0, 9, .inl f49)), (a 54, .inr (9, [.int v54_0, .int v54_1, .int v54_2, .ref (a 55), .ref (a 56), .ref (a 57), .ref (a 58)])), (a 14, .inr (2, [.ref (a 40), .int (u_1.1 0), .int (u_13.1 0), .int (u_13.1 1), .ref (a 120), .ref (a 121), .int (u_15.1 0), .ref (a 122), .int (u_15.1 1), .int (u_15.1 2), .int (u_15.1 3), .int v14_11, .int v14_12])), (a 40, .inr (0, [.int v40_0, .int v40_1, .int v40_2, .int v40_3, .int v40_4, .int v40_5, .int v40_6, .int v40_7, .ref (a 41), .ref (a 42), .ref (a 43), .ref (a 44), .ref (a 45), .ref (a 46), .ref (a 47), .ref (a 48), .ref (a 49), .ref (a 50), .ref (a 54)])), (a 42, .inl (t 0, 9, .inl f42)), (a 47, .inl (t 0, 9, .inl f47)), (a 120, .inl (t 0, 81, .inl (u_1.2.1 0))), (a 121, .inl (t 0, 9, .inl (u_15.2.1 0))), (a 122, .inl (t 0, 9, .inl (u_15.2.1 1)))] H := hP
        have hD : va_D A [(a 17, .inr (1, [.ref (a 40), .ref (a 14), .ref (a 127), .ref (a 128), .int v17_4, .int v17_5])), (a 44, .inl (t 0, 9, .inl f44)), (a 127, .inl (t 3, 256, .inl g_31)), (a 43, .inl (t 0, 9, .inl f43)), (a 45, .inl (t 0, 9, .inl f45)), (a 46, .inl (t 0, 9, .inl f46)), (a 49, .inl (t 0, 9, .inl f49)), (a 54, .inr (9, [.int v54_0, .int v54_1, .int v54_2, .ref (a 55), .ref (a 56), .ref (a 57), .ref (a 58)])), (a 14, .inr (2, [.ref (a 40), .int (u_1.1 0), .int (u_13.1 0), .int (u_13.1 1), .ref (a 120), .ref (a 121), .int (u_15.1 0), .ref (a 122), .int (u_15.1 1), .int (u_15.1 2), .int (u_15.1 3), .int v14_11, .int v14_12])), (a 40, .inr (0, [.int v40_0, .int v40_1, .int v40_2, .int v40_3, .int v40_4, .int v40_5, .int v40_6, .int v40_7, .ref (a 41), .ref (a 42), .ref (a 43), .ref (a 44), .ref (a 45), .ref (a 46), .ref (a 47), .ref (a 48), .ref (a 49), .ref (a 50), .ref (a 54)])), (a 42, .inl (t 0, 9, .inl f42)), (a 47, .inl (t 0, 9, .inl f47)), (a 120, .inl (t 0, 81, .inl (u_1.2.1 0))), (a 121, .inl (t 0, 9, .inl (u_15.2.1 0))), (a 122, .inl (t 0, 9, .inl (u_15.2.1 1)))] := hD
        obtain ⟨x_32, ex_32⟩ : ∃ y9 : Int32, y9 = (y_3.1 0) + 1 := ⟨_, rfl⟩
        have hx_32 : rg 2 64 x_32 := by rw [ex_32]; exact rg_add h_11 (rg_c (x := 1) (k := 1) (by decide)) (by decide) (by decide) (by decide) (by decide)
        have tx_32 : x_32.toInt = (y_3.1 0).toInt + 1 := by rw [ex_32]; exact inc_tk h_11 (by decide) (by decide) (by decide)
        refine lv_iinc (v := x_32) (lv' := [(3, .int x_32), (4, .int r_19), (0, .ref (a 17)), (1, .int p0), (2, .int p1)]) hx hb dX1_tryPeople_90 hl (k := 1) rfl (by rw [ex_32]; rfl) (by decide) rfl (fun ls hl => ?_)
        refine lv_goto (tgt := 10) hx hb dX1_tryPeople_93 (by decide) ?_
        exact ih_7 (fun k => [x_32, (u_13.1 0), (u_13.1 1), (u_15.1 0), (u_15.1 1), (u_15.1 2), (u_15.1 3)].getD k 0, fun k => [(u_15.2.1 0), (u_15.2.1 1), g_31].getD k (fun _ => 0), fun k => [].getD k (fun _ => 0), fun k => [].getD k 0) _ _ ls ⟨(m_upk me_8 tx_32 (by decide)), (rg_w (c := 1) (d := 64) hx_32 (by decide) (by decide)), h_17, h_18, (hP.sub [0, 1, 13, 14, 2, 8, 9, 10, 3, 4, 5, 11, 6, 7, 12] rfl), (hD.sub [0, 1, 13, 14, 2, 8, 9, 10, 3, 4, 5, 11, 6, 7, 12] (by decide) rfl), hS, (lv_sub hl [0, 2, 3, 4] rfl)⟩

