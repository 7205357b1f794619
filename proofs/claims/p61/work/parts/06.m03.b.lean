set_option maxHeartbeats 4000000 in
set_option maxRecDepth 100000 in
theorem s_X12_mostOf (l : Launch) (D : va_G) (t : Nat → ClassId) (a : Nat → Nat) (v200_0 : Int32) (v200_5 : Int32) (v200_7 : Int32) (v200_8 : Int32) (v200_9 : Int32) (v200_10 : Int32) (v200_11 : Int32) (v200_12 : Int32) (v200_13 : Int32) (v200_15 : Int32) (v200_17 : Int32) (v200_18 : Int32) (v200_19 : Int32) (v200_21 : Int32) (v200_23 : Int32) (v200_27 : Int32) (v200_28 : Int32) (v200_29 : Int32) (v200_33 : Int32) (v200_34 : Int32) (v200_35 : Int32) (f201 : Nat → Int32) (f208 : Nat → Int32) (p0 : Int32) (r200_5 : rg 0 1600 v200_5) (r200_7 : rg 0 1600 v200_7) (r200_8 : rg 0 1600 v200_8) (r200_9 : rg 0 1600 v200_9) (r200_23 : rg 0 9 v200_23) (q201 : wR f201) : Met l yX12_mostOf (wd yX12_mostOf cX12_mostOf 4 (some .int)) (RM 2 0 0) (PreP D (TY t) [.ref (a 200), .int p0] [(a 200, .inr (12, [.int v200_0, .ref (a 201), .ref (a 202), .ref (a 203), .ref (a 204), .int v200_5, .ref (a 205), .int v200_7, .int v200_8, .int v200_9, .int v200_10, .int v200_11, .int v200_12, .int v200_13, .ref (a 206), .int v200_15, .ref (a 207), .int v200_17, .int v200_18, .int v200_19, .ref (a 208), .int v200_21, .ref (a 209), .int v200_23, .ref (a 210), .ref (a 211), .ref (a 212), .int v200_27, .int v200_28, .int v200_29, .ref (a 213), .ref (a 214), .ref (a 215), .int v200_33, .int v200_34, .int v200_35, .ref (a 216), .ref (a 217), .ref (a 218), .ref (a 219)])), (a 201, .inl (t 0, 841, .inl f201)), (a 208, .inl (t 0, 9, .inl f208))]) (QP (fun r => rg (-1) 8 r)) 0 0 NoF := by
  refine Met.ofW (cc := cX12_mostOf) (maxL := 4) (ret := (some .int)) (by decide) rfl ?_
  intro p e s m args below meth c s₁ B hml hv
  obtain ⟨rfl, hP, hK, hN⟩ := hv
  have hx := B.exec
  have hb := B.bytes
  have hr := B.returns
  have hts : ∀ w ∈ TB, w.before _ s = true := fun w h => atoms_spec (ws := wd yX12_mostOf cX12_mostOf 4 (some .int)) B.pre w (List.mem_cons_of_mem _ h)
  have hown : s.vm.findClass RX12 = some m.cls := findClass_of_methodNamed B.named
  have hlocks := B.notSynchronized
  have hF : CallFix p m c cX12_mostOf 4 s _ TB RX12 := ⟨hx, hb, hml, hown, hts⟩
  have hl := lv_entry ([.ref (a 200), .int p0]) (n := 4) (Nat.le_of_ble_eq_true rfl)
  rw [lg_entry_eq]
  generalize (lg_sl ([.ref (a 200), .int p0]) ++ List.replicate (4 - (lg_sl ([.ref (a 200), .int p0])).length) Slot.unset).toArray = ls at hl ⊢
  have hl : lv_has ls 4 [(0, .ref (a 200)), (1, .int p0)] := hl
  have hS : va_S NoF s.heap s.heap [] := va_S.rf
  have hP : va_P D classes [(a 200, .inr (12, [.int v200_0, .ref (a 201), .ref (a 202), .ref (a 203), .ref (a 204), .int v200_5, .ref (a 205), .int v200_7, .int v200_8, .int v200_9, .int v200_10, .int v200_11, .int v200_12, .int v200_13, .ref (a 206), .int v200_15, .ref (a 207), .int v200_17, .int v200_18, .int v200_19, .ref (a 208), .int v200_21, .ref (a 209), .int v200_23, .ref (a 210), .ref (a 211), .ref (a 212), .int v200_27, .int v200_28, .int v200_29, .ref (a 213), .ref (a 214), .ref (a 215), .int v200_33, .int v200_34, .int v200_35, .ref (a 216), .ref (a 217), .ref (a 218), .ref (a 219)])), (a 201, .inl (t 0, 841, .inl f201)), (a 208, .inl (t 0, 9, .inl f208))] s.heap := hP
  refine lv_iconst (v := (-1)) hx hb dX12_mostOf_0 (by decide) ?_
  refine lv_istore_n (lv' := [(2, .int (-1)), (0, .ref (a 200)), (1, .int p0)]) hx hb dX12_mostOf_1 rfl hl (by decide) rfl (fun ls hl => ?_)
  refine lv_iconst (v := 0) hx hb dX12_mostOf_2 (by decide) ?_
  refine lv_istore_n (lv' := [(3, .int 0), (2, .int (-1)), (0, .ref (a 200)), (1, .int p0)]) hx hb dX12_mostOf_3 rfl hl (by decide) rfl (fun ls hl => ?_)
  refine loopW (α := US) (fun n y_1 H locs ls => 9 < (y_1.1 0).toInt + (n : Int) ∧ rg 0 9 (y_1.1 0) ∧ rg (-1) 8 (y_1.1 1) ∧ va_P D classes [(a 200, .inr (12, [.int v200_0, .ref (a 201), .ref (a 202), .ref (a 203), .ref (a 204), .int v200_5, .ref (a 205), .int v200_7, .int v200_8, .int v200_9, .int v200_10, .int v200_11, .int v200_12, .int v200_13, .ref (a 206), .int v200_15, .ref (a 207), .int v200_17, .int v200_18, .int v200_19, .ref (a 208), .int v200_21, .ref (a 209), .int v200_23, .ref (a 210), .ref (a 211), .ref (a 212), .int v200_27, .int v200_28, .int v200_29, .ref (a 213), .ref (a 214), .ref (a 215), .int v200_33, .int v200_34, .int v200_35, .ref (a 216), .ref (a 217), .ref (a 218), .ref (a 219)])), (a 201, .inl (t 0, 841, .inl f201)), (a 208, .inl (t 0, 9, .inl f208))] H ∧ va_S NoF s.heap H locs ∧ lv_has ls 4 [(3, .int (y_1.1 0)), (2, .int (y_1.1 1)), (0, .ref (a 200)), (1, .int p0)]) 4 (fun y_1 => []) (fun _ _ _ _ h9 => m_0 h9.1 h9.2.1) (fun n ih_4 y_1 H locs ls hI => ?_) 10 (fun k => [0, (-1)].getD k 0, fun k => [].getD k (fun _ => 0), fun k => [].getD k (fun _ => 0), fun k => [].getD k 0) ⟨(m_i (rg_c (x := 0) (k := 0) (by decide)) (by decide)), (rg_w (c := 0) (d := 9) (rg_c (x := 0) (k := 0) (by decide)) (by decide) (by decide)), (rg_w (c := (-1)) (d := 8) (rg_c (x := (-1)) (k := (-1)) (by decide)) (by decide) (by decide)), hP, hS, (lv_sub hl [0, 1, 2, 3] rfl)⟩
  obtain ⟨me_5, h_2, h_3, hP, hS, hl⟩ := hI
  refine lv_iload_n hx hb dX12_mostOf_4 rfl (lv_at hl 0 rfl) ?_
  refine lv_aload_n hx hb dX12_mostOf_5 rfl (lv_at hl 2 rfl) ?_
  refine va_get (D := D) (ci := 12) (v := .ref (a 201)) (C := RX12) (T := TX12) (N := 40) hx hb hts iX12 hown hK hP 0 rfl rfl 1 (by decide) (hts _ m_1344) (fun _ h9 => h9) rfl dX12_mostOf_6 ?_
  refine lv_iconst (v := 5) hx hb dX12_mostOf_9 (by decide) ?_
  refine va_iald hx hb hK hP 1 0 rfl rfl (in_rg (rg_c (x := 5) (k := 5) (by decide)) (by decide) (by decide)) dX12_mostOf_10 ?_
  refine x_seti (f201 5) rfl ?_
  have h_6 : rg 0 9 (f201 5) := q201 5 (by decide)
  refine lv_icmp_ge (tgt := 77) hx hb dX12_mostOf_11 (by decide) (fun c_7 => ?_) (fun c_7 => ?_)
  · skip
    refine lv_iload_n hx hb dX12_mostOf_77 rfl (lv_at hl 1 rfl) ?_
    exact W.iret (v := (y_1.1 1)) hx hb hr (fun t9 ht hW => ⟨⟨(y_1.1 1), (), rfl, h_3, trivial⟩, hS.F ht⟩) hS.2.2 dX12_mostOf_78
  · skip
    have h_8 : rg 0 8 (y_1.1 0) := ⟨(h_2).1, Int.le_trans (c_nleR c_7 h_6) (by decide)⟩
    have h_9 : rg 1 9 (f201 5) := ⟨Int.le_trans (by decide) (c_nle c_7 h_2), (h_6).2⟩
    refine lv_iload_n hx hb dX12_mostOf_14 rfl (lv_at hl 3 rfl) ?_
    refine lv_iload_n hx hb dX12_mostOf_15 rfl (lv_at hl 0 rfl) ?_
    refine y_pS hF (s_X12_bit l D t a p0 (y_1.1 0)) m_1616 m_1617 m_13 m_1618 hd_X12_bit ⟨Nat.le_of_ble_eq_true rfl, Nat.le_of_ble_eq_true rfl⟩ hK hN hP hS [] rfl hl.1 rfl (Nat.le_of_ble_eq_true rfl) dX12_mostOf_16 ⟨Nat.zero_le _, Nat.zero_le _⟩ (fun r_10 H locs hr_10 hP hS => ?_)
    refine lv_if_ne (tgt := 25) hx hb dX12_mostOf_19 (by decide) (fun c_11 => ?_) (fun c_11 => ?_)
    · skip
      have h_12 : rg 1 1 r_10 := rg_w (rg_neL hr_10 c_11 (by decide)) (by decide) (by decide)
      refine lv_iload_n hx hb dX12_mostOf_25 rfl (lv_at hl 1 rfl) ?_
      refine lv_iconst (v := (-1)) hx hb dX12_mostOf_26 (by decide) ?_
      refine lv_icmp_eq (tgt := 69) hx hb dX12_mostOf_27 (by decide) (fun c_13 => ?_) (fun c_13 => ?_)
      · skip
        have h_14 : rg (-1) (-1) (y_1.1 1) := rg_eq c_13 (rg_c (x := (-1)) (k := (-1)) (by decide))
        refine lv_iload_n hx hb dX12_mostOf_69 rfl (lv_at hl 0 rfl) ?_
        refine lv_istore_n (lv' := [(2, .int (y_1.1 0)), (3, .int (y_1.1 0)), (0, .ref (a 200)), (1, .int p0)]) hx hb dX12_mostOf_70 rfl hl (by decide) rfl (fun ls hl => ?_)
        obtain ⟨x_15, ex_15⟩ : ∃ y9 : Int32, y9 = (y_1.1 0) + 1 := ⟨_, rfl⟩
        have hx_15 : rg 1 9 x_15 := by rw [ex_15]; exact rg_add h_8 (rg_c (x := 1) (k := 1) (by decide)) (by decide) (by decide) (by decide) (by decide)
        have tx_15 : x_15.toInt = (y_1.1 0).toInt + 1 := by rw [ex_15]; exact inc_tk h_8 (by decide) (by decide) (by decide)
        refine lv_iinc (v := x_15) (lv' := [(3, .int x_15), (2, .int (y_1.1 0)), (0, .ref (a 200)), (1, .int p0)]) hx hb dX12_mostOf_71 hl (k := 1) rfl (by rw [ex_15]; rfl) (by decide) rfl (fun ls hl => ?_)
        refine lv_goto (tgt := 4) hx hb dX12_mostOf_74 (by decide) ?_
        exact ih_4 (fun k => [x_15, (y_1.1 0)].getD k 0, fun k => [].getD k (fun _ => 0), fun k => [].getD k (fun _ => 0), fun k => [].getD k 0) _ _ ls ⟨(m_upk me_5 tx_15 (by decide)), (rg_w (c := 0) (d := 9) hx_15 (by decide) (by decide)), (rg_w (c := (-1)) (d := 8) h_8 (by decide) (by decide)), hP, hS, (lv_sub hl [0, 1, 2, 3] rfl)⟩
      · skip
        have h_16 : rg 0 8 (y_1.1 1) := rg_w (rg_neL h_3 c_13 (by decide)) (by decide) (by decide)
        refine lv_aload_n hx hb dX12_mostOf_30 rfl (lv_at hl 2 rfl) ?_
        refine va_get (D := D) (ci := 12) (v := .ref (a 208)) (C := RX12) (T := TX12) (N := 40) hx hb hts iX12 hown hK hP 0 rfl rfl 20 (by decide) (hts _ m_1363) (fun _ h9 => h9) rfl dX12_mostOf_31 ?_
        refine lv_iload_n hx hb dX12_mostOf_34 rfl (lv_at hl 0 rfl) ?_
        refine va_iald hx hb hK hP 2 0 rfl rfl (in_rg h_8 (by decide) (by decide)) dX12_mostOf_35 ?_
        refine lv_topi (fun x_17 ex_17 => ?_)
        refine lv_aload_n hx hb dX12_mostOf_36 rfl (lv_at hl 2 rfl) ?_
        refine va_get (D := D) (ci := 12) (v := .ref (a 208)) (C := RX12) (T := TX12) (N := 40) hx hb hts iX12 hown hK hP 0 rfl rfl 20 (by decide) (hts _ m_1363) (fun _ h9 => h9) rfl dX12_mostOf_37 ?_
        refine lv_iload_n hx hb dX12_mostOf_40 rfl (lv_at hl 1 rfl) ?_
        refine va_iald hx hb hK hP 2 0 rfl rfl (in_rg h_16 (by decide) (by decide)) dX12_mostOf_41 ?_
        refine lv_topi (fun x_18 ex_18 => ?_)
        refine lv_icmp_gt (tgt := 69) hx hb dX12_mostOf_42 (by decide) (fun c_19 => ?_) (fun c_19 => ?_)
        · skip
          have h_20 : rg (-2147483647) 2147483647 x_17 := ⟨Int.le_trans (by decide) (c_ltR c_19 (rg_any x_18)), ((rg_any x_17)).2⟩
          have h_21 : rg (-2147483648) 2147483646 x_18 := ⟨((rg_any x_18)).1, Int.le_trans (c_lt c_19 (rg_any x_17)) (by decide)⟩
          refine lv_iload_n hx hb dX12_mostOf_69 rfl (lv_at hl 0 rfl) ?_
          refine lv_istore_n (lv' := [(2, .int (y_1.1 0)), (3, .int (y_1.1 0)), (0, .ref (a 200)), (1, .int p0)]) hx hb dX12_mostOf_70 rfl hl (by decide) rfl (fun ls hl => ?_)
          obtain ⟨x_22, ex_22⟩ : ∃ y9 : Int32, y9 = (y_1.1 0) + 1 := ⟨_, rfl⟩
          have hx_22 : rg 1 9 x_22 := by rw [ex_22]; exact rg_add h_8 (rg_c (x := 1) (k := 1) (by decide)) (by decide) (by decide) (by decide) (by decide)
          have tx_22 : x_22.toInt = (y_1.1 0).toInt + 1 := by rw [ex_22]; exact inc_tk h_8 (by decide) (by decide) (by decide)
          refine lv_iinc (v := x_22) (lv' := [(3, .int x_22), (2, .int (y_1.1 0)), (0, .ref (a 200)), (1, .int p0)]) hx hb dX12_mostOf_71 hl (k := 1) rfl (by rw [ex_22]; rfl) (by decide) rfl (fun ls hl => ?_)
          refine lv_goto (tgt := 4) hx hb dX12_mostOf_74 (by decide) ?_
          exact ih_4 (fun k => [x_22, (y_1.1 0)].getD k 0, fun k => [].getD k (fun _ => 0), fun k => [].getD k (fun _ => 0), fun k => [].getD k 0) _ _ ls ⟨(m_upk me_5 tx_22 (by decide)), (rg_w (c := 0) (d := 9) hx_22 (by decide) (by decide)), (rg_w (c := (-1)) (d := 8) h_8 (by decide) (by decide)), hP, hS, (lv_sub hl [0, 1, 2, 3] rfl)⟩
        · skip
          refine lv_aload_n hx hb dX12_mostOf_45 rfl (lv_at hl 2 rfl) ?_
          refine va_get (D := D) (ci := 12) (v := .ref (a 208)) (C := RX12) (T := TX12) (N := 40) hx hb hts iX12 hown hK hP 0 rfl rfl 20 (by decide) (hts _ m_1363) (fun _ h9 => h9) rfl dX12_mostOf_46 ?_
          refine lv_iload_n hx hb dX12_mostOf_49 rfl (lv_at hl 0 rfl) ?_
          refine va_iald hx hb hK hP 2 0 rfl rfl (in_rg h_8 (by decide) (by decide)) dX12_mostOf_50 ?_
          refine lv_topi (fun x_23 ex_23 => ?_)
          refine lv_aload_n hx hb dX12_mostOf_51 rfl (lv_at hl 2 rfl) ?_
          refine va_get (D := D) (ci := 12) (v := .ref (a 208)) (C := RX12) (T := TX12) (N := 40) hx hb hts iX12 hown hK hP 0 rfl rfl 20 (by decide) (hts _ m_1363) (fun _ h9 => h9) rfl dX12_mostOf_52 ?_
          refine lv_iload_n hx hb dX12_mostOf_55 rfl (lv_at hl 1 rfl) ?_
          refine va_iald hx hb hK hP 2 0 rfl rfl (in_rg h_16 (by decide) (by decide)) dX12_mostOf_56 ?_
          refine lv_topi (fun x_24 ex_24 => ?_)
          refine lv_icmp_ne (tgt := 71) hx hb dX12_mostOf_57 (by decide) (fun c_25 => ?_) (fun c_25 => ?_)
          · skip
            obtain ⟨x_26, ex_26⟩ : ∃ y9 : Int32, y9 = (y_1.1 0) + 1 := ⟨_, rfl⟩
            have hx_26 : rg 1 9 x_26 := by rw [ex_26]; exact rg_add h_8 (rg_c (x := 1) (k := 1) (by decide)) (by decide) (by decide) (by decide) (by decide)
            have tx_26 : x_26.toInt = (y_1.1 0).toInt + 1 := by rw [ex_26]; exact inc_tk h_8 (by decide) (by decide) (by decide)
            refine lv_iinc (v := x_26) (lv' := [(3, .int x_26), (2, .int (y_1.1 1)), (0, .ref (a 200)), (1, .int p0)]) hx hb dX12_mostOf_71 hl (k := 0) rfl (by rw [ex_26]; rfl) (by decide) rfl (fun ls hl => ?_)
            refine lv_goto (tgt := 4) hx hb dX12_mostOf_74 (by decide) ?_
            exact ih_4 (fun k => [x_26, (y_1.1 1)].getD k 0, fun k => [].getD k (fun _ => 0), fun k => [].getD k (fun _ => 0), fun k => [].getD k 0) _ _ ls ⟨(m_upk me_5 tx_26 (by decide)), (rg_w (c := 0) (d := 9) hx_26 (by decide) (by decide)), (rg_w (c := (-1)) (d := 8) h_16 (by decide) (by decide)), hP, hS, (lv_sub hl [0, 1, 2, 3] rfl)⟩
          · skip
            refine lv_aload_n hx hb dX12_mostOf_60 rfl (lv_at hl 2 rfl) ?_
            refine lv_iload_n hx hb dX12_mostOf_61 rfl (lv_at hl 0 rfl) ?_
            refine lv_iload_n hx hb dX12_mostOf_62 rfl (lv_at hl 1 rfl) ?_
            refine y_pV hF (s_X12_isLonger l D t a v200_0 v200_5 v200_7 v200_8 v200_9 v200_10 v200_11 v200_12 v200_13 v200_15 v200_17 v200_18 v200_19 v200_21 v200_23 v200_27 v200_28 v200_29 v200_33 v200_34 v200_35 f201 (y_1.1 0) (y_1.1 1) r200_5 r200_7 r200_8 r200_9 r200_23 q201 h_8 h_16) m_1687 m_1689 m_s71 m_13 m_1690 hd_X12_isLonger ⟨Nat.le_of_ble_eq_true rfl, Nat.le_of_ble_eq_true rfl⟩ hK hN hP hS [0, 1] rfl 0 (ci := 12) rfl rfl rfl hl.1 rfl (Nat.le_of_ble_eq_true rfl) dX12_mostOf_63 ⟨Nat.zero_le _, Nat.zero_le _⟩ (fun r_27 H locs hr_27 hP hS => ?_)
            refine lv_if_eq (tgt := 71) hx hb dX12_mostOf_66 (by decide) (fun c_28 => ?_) (fun c_28 => ?_)
            · skip
              have h_29 : rg 0 0 r_27 := rg_eq c_28 (rg_c (x := 0) (k := 0) (by decide))
              obtain ⟨x_30, ex_30⟩ : ∃ y9 : Int32, y9 = (y_1.1 0) + 1 := ⟨_, rfl⟩
              have hx_30 : rg 1 9 x_30 := by rw [ex_30]; exact rg_add h_8 (rg_c (x := 1) (k := 1) (by decide)) (by decide) (by decide) (by decide) (by decide)
              have tx_30 : x_30.toInt = (y_1.1 0).toInt + 1 := by rw [ex_30]; exact inc_tk h_8 (by decide) (by decide) (by decide)
              refine lv_iinc (v := x_30) (lv' := [(3, .int x_30), (2, .int (y_1.1 1)), (0, .ref (a 200)), (1, .int p0)]) hx hb dX12_mostOf_71 hl (k := 0) rfl (by rw [ex_30]; rfl) (by decide) rfl (fun ls hl => ?_)
              refine lv_goto (tgt := 4) hx hb dX12_mostOf_74 (by decide) ?_
              exact ih_4 (fun k => [x_30, (y_1.1 1)].getD k 0, fun k => [].getD k (fun _ => 0), fun k => [].getD k (fun _ => 0), fun k => [].getD k 0) _ _ ls ⟨(m_upk me_5 tx_30 (by decide)), (rg_w (c := 0) (d := 9) hx_30 (by decide) (by decide)), (rg_w (c := (-1)) (d := 8) h_16 (by decide) (by decide)), hP, hS, (lv_sub hl [0, 1, 2, 3] rfl)⟩
            · skip
              have h_31 : rg 1 1 r_27 := rg_w (rg_neL hr_27 c_28 (by decide)) (by decide) (by decide)
              refine lv_iload_n hx hb dX12_mostOf_69 rfl (lv_at hl 0 rfl) ?_
              refine lv_istore_n (lv' := [(2, .int (y_1.1 0)), (3, .int (y_1.1 0)), (0, .ref (a 200)), (1, .int p0)]) hx hb dX12_mostOf_70 rfl hl (by decide) rfl (fun ls hl => ?_)
              obtain ⟨x_32, ex_32⟩ : ∃ y9 : Int32, y9 = (y_1.1 0) + 1 := ⟨_, rfl⟩
              have hx_32 : rg 1 9 x_32 := by rw [ex_32]; exact rg_add h_8 (rg_c (x := 1) (k := 1) (by decide)) (by decide) (by decide) (by decide) (by decide)
              have tx_32 : x_32.toInt = (y_1.1 0).toInt + 1 := by rw [ex_32]; exact inc_tk h_8 (by decide) (by decide) (by decide)
              refine lv_iinc (v := x_32) (lv' := [(3, .int x_32), (2, .int (y_1.1 0)), (0, .ref (a 200)), (1, .int p0)]) hx hb dX12_mostOf_71 hl (k := 1) rfl (by rw [ex_32]; rfl) (by decide) rfl (fun ls hl => ?_)
              refine lv_goto (tgt := 4) hx hb dX12_mostOf_74 (by decide) ?_
              exact ih_4 (fun k => [x_32, (y_1.1 0)].getD k 0, fun k => [].getD k (fun _ => 0), fun k => [].getD k (fun _ => 0), fun k => [].getD k 0) _ _ ls ⟨(m_upk me_5 tx_32 (by decide)), (rg_w (c := 0) (d := 9) hx_32 (by decide) (by decide)), (rg_w (c := (-1)) (d := 8) h_8 (by decide) (by decide)), hP, hS, (lv_sub hl [0, 1, 2, 3] rfl)⟩
    · skip
      have h_33 : rg 0 0 r_10 := rg_eq c_11 (rg_c (x := 0) (k := 0) (by decide))
      refine lv_goto (tgt := 71) hx hb dX12_mostOf_22 (by decide) ?_
      obtain ⟨x_34, ex_34⟩ : ∃ y9 : Int32, y9 = (y_1.1 0) + 1 := ⟨_, rfl⟩
      have hx_34 : rg 1 9 x_34 := by rw [ex_34]; exact rg_add h_8 (rg_c (x := 1) (k := 1) (by decide)) (by decide) (by decide) (by decide) (by decide)
      have tx_34 : x_34.toInt = (y_1.1 0).toInt + 1 := by rw [ex_34]; exact inc_tk h_8 (by decide) (by decide) (by decide)
      refine lv_iinc (v := x_34) (lv' := [(3, .int x_34), (2, .int (y_1.1 1)), (0, .ref (a 200)), (1, .int p0)]) hx hb dX12_mostOf_71 hl (k := 0) rfl (by rw [ex_34]; rfl) (by decide) rfl (fun ls hl => ?_)
      refine lv_goto (tgt := 4) hx hb dX12_mostOf_74 (by decide) ?_
      exact ih_4 (fun k => [x_34, (y_1.1 1)].getD k 0, fun k => [].getD k (fun _ => 0), fun k => [].getD k (fun _ => 0), fun k => [].getD k 0) _ _ ls ⟨(m_upk me_5 tx_34 (by decide)), (rg_w (c := 0) (d := 9) hx_34 (by decide) (by decide)), h_3, hP, hS, (lv_sub hl [0, 1, 2, 3] rfl)⟩

set_option maxHeartbeats 4000000 in
set_option maxRecDepth 100000 in
theorem s_X12_strikes (l : Launch) (D : va_G) (t : Nat → ClassId) (a : Nat → Nat) (v200_0 : Int32) (v200_5 : Int32) (v200_7 : Int32) (v200_8 : Int32) (v200_9 : Int32) (v200_10 : Int32) (v200_11 : Int32) (v200_12 : Int32) (v200_13 : Int32) (v200_15 : Int32) (v200_17 : Int32) (v200_18 : Int32) (v200_19 : Int32) (v200_21 : Int32) (v200_23 : Int32) (v200_27 : Int32) (v200_28 : Int32) (v200_29 : Int32) (v200_33 : Int32) (v200_34 : Int32) (v200_35 : Int32) (f201 : Nat → Int32) (f207 : Nat → Int32) (f208 : Nat → Int32) (f209 : Nat → Int32) (p0 : Int32) (p1 : Int32) (r200_5 : rg 0 1600 v200_5) (r200_7 : rg 0 1600 v200_7) (r200_8 : rg 0 1600 v200_8) (r200_9 : rg 0 1600 v200_9) (r200_23 : rg 0 9 v200_23) (q201 : wR f201) (sz : Nat) : Met l yX12_strikes (wd yX12_strikes cX12_strikes 7 (some .int)) (RM 5 0 0) (PreW D (TY t) [.ref (a 200), .int p0, .int p1] [(a 200, .inr (12, [.int v200_0, .ref (a 201), .ref (a 202), .ref (a 203), .ref (a 204), .int v200_5, .ref (a 205), .int v200_7, .int v200_8, .int v200_9, .int v200_10, .int v200_11, .int v200_12, .int v200_13, .ref (a 206), .int v200_15, .ref (a 207), .int v200_17, .int v200_18, .int v200_19, .ref (a 208), .int v200_21, .ref (a 209), .int v200_23, .ref (a 210), .ref (a 211), .ref (a 212), .int v200_27, .int v200_28, .int v200_29, .ref (a 213), .ref (a 214), .ref (a 215), .int v200_33, .int v200_34, .int v200_35, .ref (a 216), .ref (a 217), .ref (a 218), .ref (a 219)])), (a 201, .inl (t 0, 841, .inl f201)), (a 207, .inl (t 0, 9, .inl f207)), (a 208, .inl (t 0, 9, .inl f208)), (a 209, .inl (t 0, 9, .inl f209))] sz) (va_Qi (fun (r : Int32) (u : US) => rg (-1) 8 r ∧ rg 0 9 (u.1 1)) (fun (u : US) t9 => va_P D classes ((fun u : US => [(a 200, .inr (12, [.int v200_0, .ref (a 201), .ref (a 202), .ref (a 203), .ref (a 204), .int v200_5, .ref (a 205), .int v200_7, .int v200_8, .int v200_9, .int v200_10, .int v200_11, .int v200_12, .int v200_13, .ref (a 206), .int v200_15, .ref (a 207), .int v200_17, .int v200_18, .int v200_19, .ref (a 208), .int (u.1 0), .ref (a 209), .int (u.1 1), .ref (a 210), .ref (a 211), .ref (a 212), .int v200_27, .int v200_28, .int v200_29, .ref (a 213), .ref (a 214), .ref (a 215), .int v200_33, .int v200_34, .int v200_35, .ref (a 216), .ref (a 217), .ref (a 218), .ref (a 219)])), (a 201, .inl (t 0, 841, .inl f201)), (a 207, .inl (t 0, 9, .inl f207)), (a 208, .inl (t 0, 9, .inl (u.2.1 0))), (a 209, .inl (t 0, 9, .inl (u.2.1 1)))]) u) t9.heap ∧ va_D (va_A [(a 200, .inr (12, [.int v200_0, .ref (a 201), .ref (a 202), .ref (a 203), .ref (a 204), .int v200_5, .ref (a 205), .int v200_7, .int v200_8, .int v200_9, .int v200_10, .int v200_11, .int v200_12, .int v200_13, .ref (a 206), .int v200_15, .ref (a 207), .int v200_17, .int v200_18, .int v200_19, .ref (a 208), .int v200_21, .ref (a 209), .int v200_23, .ref (a 210), .ref (a 211), .ref (a 212), .int v200_27, .int v200_28, .int v200_29, .ref (a 213), .ref (a 214), .ref (a 215), .int v200_33, .int v200_34, .int v200_35, .ref (a 216), .ref (a 217), .ref (a 218), .ref (a 219)])), (a 201, .inl (t 0, 841, .inl f201)), (a 207, .inl (t 0, 9, .inl f207)), (a 208, .inl (t 0, 9, .inl f208)), (a 209, .inl (t 0, 9, .inl f209))] sz) ((fun u : US => [(a 200, .inr (12, [.int v200_0, .ref (a 201), .ref (a 202), .ref (a 203), .ref (a 204), .int v200_5, .ref (a 205), .int v200_7, .int v200_8, .int v200_9, .int v200_10, .int v200_11, .int v200_12, .int v200_13, .ref (a 206), .int v200_15, .ref (a 207), .int v200_17, .int v200_18, .int v200_19, .ref (a 208), .int (u.1 0), .ref (a 209), .int (u.1 1), .ref (a 210), .ref (a 211), .ref (a 212), .int v200_27, .int v200_28, .int v200_29, .ref (a 213), .ref (a 214), .ref (a 215), .int v200_33, .int v200_34, .int v200_35, .ref (a 216), .ref (a 217), .ref (a 218), .ref (a 219)])), (a 201, .inl (t 0, 841, .inl f201)), (a 207, .inl (t 0, 9, .inl f207)), (a 208, .inl (t 0, 9, .inl (u.2.1 0))), (a 209, .inl (t 0, 9, .inl (u.2.1 1)))]) u)) (va_A [(a 200, .inr (12, [.int v200_0, .ref (a 201), .ref (a 202), .ref (a 203), .ref (a 204), .int v200_5, .ref (a 205), .int v200_7, .int v200_8, .int v200_9, .int v200_10, .int v200_11, .int v200_12, .int v200_13, .ref (a 206), .int v200_15, .ref (a 207), .int v200_17, .int v200_18, .int v200_19, .ref (a 208), .int v200_21, .ref (a 209), .int v200_23, .ref (a 210), .ref (a 211), .ref (a 212), .int v200_27, .int v200_28, .int v200_29, .ref (a 213), .ref (a 214), .ref (a 215), .int v200_33, .int v200_34, .int v200_35, .ref (a 216), .ref (a 217), .ref (a 218), .ref (a 219)])), (a 201, .inl (t 0, 841, .inl f201)), (a 207, .inl (t 0, 9, .inl f207)), (a 208, .inl (t 0, 9, .inl f208)), (a 209, .inl (t 0, 9, .inl f209))] sz)) 0 0 (va_A [(a 200, .inr (12, [.int v200_0, .ref (a 201), .ref (a 202), .ref (a 203), .ref (a 204), .int v200_5, .ref (a 205), .int v200_7, .int v200_8, .int v200_9, .int v200_10, .int v200_11, .int v200_12, .int v200_13, .ref (a 206), .int v200_15, .ref (a 207), .int v200_17, .int v200_18, .int v200_19, .ref (a 208), .int v200_21, .ref (a 209), .int v200_23, .ref (a 210), .ref (a 211), .ref (a 212), .int v200_27, .int v200_28, .int v200_29, .ref (a 213), .ref (a 214), .ref (a 215), .int v200_33, .int v200_34, .int v200_35, .ref (a 216), .ref (a 217), .ref (a 218), .ref (a 219)])), (a 201, .inl (t 0, 841, .inl f201)), (a 207, .inl (t 0, 9, .inl f207)), (a 208, .inl (t 0, 9, .inl f208)), (a 209, .inl (t 0, 9, .inl f209))] sz) := by
  sorry

set_option maxHeartbeats 4000000 in
set_option maxRecDepth 100000 in
theorem s_X12_runsOff (l : Launch) (D : va_G) (t : Nat → ClassId) (a : Nat → Nat) (v200_0 : Int32) (v200_5 : Int32) (v200_7 : Int32) (v200_8 : Int32) (v200_9 : Int32) (v200_10 : Int32) (v200_11 : Int32) (v200_12 : Int32) (v200_13 : Int32) (v200_15 : Int32) (v200_17 : Int32) (v200_18 : Int32) (v200_19 : Int32) (v200_21 : Int32) (v200_23 : Int32) (v200_27 : Int32) (v200_28 : Int32) (v200_29 : Int32) (v200_33 : Int32) (v200_34 : Int32) (v200_35 : Int32) (f201 : Nat → Int32) (f207 : Nat → Int32) (f208 : Nat → Int32) (p0 : Int32) (p1 : Int32) (r200_5 : rg 0 1600 v200_5) (r200_7 : rg 0 1600 v200_7) (r200_8 : rg 0 1600 v200_8) (r200_9 : rg 0 1600 v200_9) (r200_23 : rg 0 9 v200_23) (q201 : wR f201) (sz : Nat) : Met l yX12_runsOff (wd yX12_runsOff cX12_runsOff 6 (some .int)) (RM 5 0 0) (PreW D (TY t) [.ref (a 200), .int p0, .int p1] [(a 200, .inr (12, [.int v200_0, .ref (a 201), .ref (a 202), .ref (a 203), .ref (a 204), .int v200_5, .ref (a 205), .int v200_7, .int v200_8, .int v200_9, .int v200_10, .int v200_11, .int v200_12, .int v200_13, .ref (a 206), .int v200_15, .ref (a 207), .int v200_17, .int v200_18, .int v200_19, .ref (a 208), .int v200_21, .ref (a 209), .int v200_23, .ref (a 210), .ref (a 211), .ref (a 212), .int v200_27, .int v200_28, .int v200_29, .ref (a 213), .ref (a 214), .ref (a 215), .int v200_33, .int v200_34, .int v200_35, .ref (a 216), .ref (a 217), .ref (a 218), .ref (a 219)])), (a 201, .inl (t 0, 841, .inl f201)), (a 207, .inl (t 0, 9, .inl f207)), (a 208, .inl (t 0, 9, .inl f208))] sz) (va_Qi (fun (r : Int32) (_ : US) => rg (-1) 8 r) (fun (u : US) t9 => va_P D classes ((fun u : US => [(a 200, .inr (12, [.int v200_0, .ref (a 201), .ref (a 202), .ref (a 203), .ref (a 204), .int v200_5, .ref (a 205), .int v200_7, .int v200_8, .int v200_9, .int v200_10, .int v200_11, .int v200_12, .int v200_13, .ref (a 206), .int v200_15, .ref (a 207), .int v200_17, .int v200_18, .int v200_19, .ref (a 208), .int (u.1 0), .ref (a 209), .int v200_23, .ref (a 210), .ref (a 211), .ref (a 212), .int v200_27, .int v200_28, .int v200_29, .ref (a 213), .ref (a 214), .ref (a 215), .int v200_33, .int v200_34, .int v200_35, .ref (a 216), .ref (a 217), .ref (a 218), .ref (a 219)])), (a 201, .inl (t 0, 841, .inl f201)), (a 207, .inl (t 0, 9, .inl f207)), (a 208, .inl (t 0, 9, .inl (u.2.1 0)))]) u) t9.heap ∧ va_D (va_A [(a 200, .inr (12, [.int v200_0, .ref (a 201), .ref (a 202), .ref (a 203), .ref (a 204), .int v200_5, .ref (a 205), .int v200_7, .int v200_8, .int v200_9, .int v200_10, .int v200_11, .int v200_12, .int v200_13, .ref (a 206), .int v200_15, .ref (a 207), .int v200_17, .int v200_18, .int v200_19, .ref (a 208), .int v200_21, .ref (a 209), .int v200_23, .ref (a 210), .ref (a 211), .ref (a 212), .int v200_27, .int v200_28, .int v200_29, .ref (a 213), .ref (a 214), .ref (a 215), .int v200_33, .int v200_34, .int v200_35, .ref (a 216), .ref (a 217), .ref (a 218), .ref (a 219)])), (a 201, .inl (t 0, 841, .inl f201)), (a 207, .inl (t 0, 9, .inl f207)), (a 208, .inl (t 0, 9, .inl f208))] sz) ((fun u : US => [(a 200, .inr (12, [.int v200_0, .ref (a 201), .ref (a 202), .ref (a 203), .ref (a 204), .int v200_5, .ref (a 205), .int v200_7, .int v200_8, .int v200_9, .int v200_10, .int v200_11, .int v200_12, .int v200_13, .ref (a 206), .int v200_15, .ref (a 207), .int v200_17, .int v200_18, .int v200_19, .ref (a 208), .int (u.1 0), .ref (a 209), .int v200_23, .ref (a 210), .ref (a 211), .ref (a 212), .int v200_27, .int v200_28, .int v200_29, .ref (a 213), .ref (a 214), .ref (a 215), .int v200_33, .int v200_34, .int v200_35, .ref (a 216), .ref (a 217), .ref (a 218), .ref (a 219)])), (a 201, .inl (t 0, 841, .inl f201)), (a 207, .inl (t 0, 9, .inl f207)), (a 208, .inl (t 0, 9, .inl (u.2.1 0)))]) u)) (va_A [(a 200, .inr (12, [.int v200_0, .ref (a 201), .ref (a 202), .ref (a 203), .ref (a 204), .int v200_5, .ref (a 205), .int v200_7, .int v200_8, .int v200_9, .int v200_10, .int v200_11, .int v200_12, .int v200_13, .ref (a 206), .int v200_15, .ref (a 207), .int v200_17, .int v200_18, .int v200_19, .ref (a 208), .int v200_21, .ref (a 209), .int v200_23, .ref (a 210), .ref (a 211), .ref (a 212), .int v200_27, .int v200_28, .int v200_29, .ref (a 213), .ref (a 214), .ref (a 215), .int v200_33, .int v200_34, .int v200_35, .ref (a 216), .ref (a 217), .ref (a 218), .ref (a 219)])), (a 201, .inl (t 0, 841, .inl f201)), (a 207, .inl (t 0, 9, .inl f207)), (a 208, .inl (t 0, 9, .inl f208))] sz)) 0 0 (va_A [(a 200, .inr (12, [.int v200_0, .ref (a 201), .ref (a 202), .ref (a 203), .ref (a 204), .int v200_5, .ref (a 205), .int v200_7, .int v200_8, .int v200_9, .int v200_10, .int v200_11, .int v200_12, .int v200_13, .ref (a 206), .int v200_15, .ref (a 207), .int v200_17, .int v200_18, .int v200_19, .ref (a 208), .int v200_21, .ref (a 209), .int v200_23, .ref (a 210), .ref (a 211), .ref (a 212), .int v200_27, .int v200_28, .int v200_29, .ref (a 213), .ref (a 214), .ref (a 215), .int v200_33, .int v200_34, .int v200_35, .ref (a 216), .ref (a 217), .ref (a 218), .ref (a 219)])), (a 201, .inl (t 0, 841, .inl f201)), (a 207, .inl (t 0, 9, .inl f207)), (a 208, .inl (t 0, 9, .inl f208))] sz) := by
  refine Met.ofW (cc := cX12_runsOff) (maxL := 6) (ret := (some .int)) (by decide) rfl ?_
  intro p e s m args below meth c s₁ B hml hv
  obtain ⟨rfl, hsz, hP, hK, hD0, hN⟩ := hv
  have hx := B.exec
  have hb := B.bytes
  have hr := B.returns
  have hts : ∀ w ∈ TB, w.before _ s = true := fun w h => atoms_spec (ws := wd yX12_runsOff cX12_runsOff 6 (some .int)) B.pre w (List.mem_cons_of_mem _ h)
  have hown : s.vm.findClass RX12 = some m.cls := findClass_of_methodNamed B.named
  have hlocks := B.notSynchronized
  have hF : CallFix p m c cX12_runsOff 6 s _ TB RX12 := ⟨hx, hb, hml, hown, hts⟩
  have hl := lv_entry ([.ref (a 200), .int p0, .int p1]) (n := 6) (Nat.le_of_ble_eq_true rfl)
  rw [lg_entry_eq]
  generalize (lg_sl ([.ref (a 200), .int p0, .int p1]) ++ List.replicate (6 - (lg_sl ([.ref (a 200), .int p0, .int p1])).length) Slot.unset).toArray = ls at hl ⊢
  have hl : lv_has ls 6 [(0, .ref (a 200)), (1, .int p0), (2, .int p1)] := hl
  subst hsz
  have hD := hD0.self (sz := s.heap.size)
  generalize hAe : va_A [(a 200, .inr (12, [.int v200_0, .ref (a 201), .ref (a 202), .ref (a 203), .ref (a 204), .int v200_5, .ref (a 205), .int v200_7, .int v200_8, .int v200_9, .int v200_10, .int v200_11, .int v200_12, .int v200_13, .ref (a 206), .int v200_15, .ref (a 207), .int v200_17, .int v200_18, .int v200_19, .ref (a 208), .int v200_21, .ref (a 209), .int v200_23, .ref (a 210), .ref (a 211), .ref (a 212), .int v200_27, .int v200_28, .int v200_29, .ref (a 213), .ref (a 214), .ref (a 215), .int v200_33, .int v200_34, .int v200_35, .ref (a 216), .ref (a 217), .ref (a 218), .ref (a 219)])), (a 201, .inl (t 0, 841, .inl f201)), (a 207, .inl (t 0, 9, .inl f207)), (a 208, .inl (t 0, 9, .inl f208))] s.heap.size = A at hD ⊢
  have hA : ∀ q : Nat, s.heap.size ≤ q → A q := fun q h => by rw [← hAe]; exact Or.inr h
  have hS : va_S A s.heap s.heap [] := va_S.rf
  have hP : va_P D classes [(a 200, .inr (12, [.int v200_0, .ref (a 201), .ref (a 202), .ref (a 203), .ref (a 204), .int v200_5, .ref (a 205), .int v200_7, .int v200_8, .int v200_9, .int v200_10, .int v200_11, .int v200_12, .int v200_13, .ref (a 206), .int v200_15, .ref (a 207), .int v200_17, .int v200_18, .int v200_19, .ref (a 208), .int v200_21, .ref (a 209), .int v200_23, .ref (a 210), .ref (a 211), .ref (a 212), .int v200_27, .int v200_28, .int v200_29, .ref (a 213), .ref (a 214), .ref (a 215), .int v200_33, .int v200_34, .int v200_35, .ref (a 216), .ref (a 217), .ref (a 218), .ref (a 219)])), (a 201, .inl (t 0, 841, .inl f201)), (a 207, .inl (t 0, 9, .inl f207)), (a 208, .inl (t 0, 9, .inl f208))] s.heap := hP
  refine lv_aload_n hx hb dX12_runsOff_0 rfl (lv_at hl 0 rfl) ?_
  refine lv_iload_n hx hb dX12_runsOff_1 rfl (lv_at hl 1 rfl) ?_
  refine lv_iload_n hx hb dX12_runsOff_2 rfl (lv_at hl 2 rfl) ?_
  refine lv_iconst (v := 0) hx hb dX12_runsOff_3 (by decide) ?_
  refine y_wV (wr := []) hF (s_X12_count l D t a v200_0 v200_5 v200_7 v200_8 v200_9 v200_10 v200_11 v200_12 v200_13 v200_15 v200_17 v200_18 v200_19 v200_21 v200_23 v200_27 v200_28 v200_29 v200_33 v200_34 v200_35 f201 f207 f208 p0 p1 0 r200_5 r200_7 r200_8 r200_9 r200_23 q201 (rg_w (c := 0) (d := 1) (rg_c (x := 0) (k := 0) (by decide)) (by decide) (by decide)) s.heap.size) m_1695 m_1697 m_s72 m_13 m_1698 hd_X12_count ⟨Nat.le_of_ble_eq_true rfl, Nat.le_of_ble_eq_true rfl⟩ hK hN hP hD hS hA 0 (ci := 12) rfl rfl rfl [0, 1, 2, 3] [] rfl rfl (by decide) (by decide) (by decide) hl.1 rfl (Nat.le_of_ble_eq_true rfl) dX12_runsOff_4 ⟨Nat.zero_le _, Nat.zero_le _⟩ (fun u_1 H locs hu_1 hP hD hS => ?_)
  have hP : va_P D classes [(a 200, .inr (12, [.int v200_0, .ref (a 201), .ref (a 202), .ref (a 203), .ref (a 204), .int v200_5, .ref (a 205), .int v200_7, .int v200_8, .int v200_9, .int v200_10, .int v200_11, .int v200_12, .int v200_13, .ref (a 206), .int v200_15, .ref (a 207), .int v200_17, .int v200_18, .int v200_19, .ref (a 208), .int (u_1.1 0), .ref (a 209), .int v200_23, .ref (a 210), .ref (a 211), .ref (a 212), .int v200_27, .int v200_28, .int v200_29, .ref (a 213), .ref (a 214), .ref (a 215), .int v200_33, .int v200_34, .int v200_35, .ref (a 216), .ref (a 217), .ref (a 218), .ref (a 219)])), (a 201, .inl (t 0, 841, .inl f201)), (a 207, .inl (t 0, 9, .inl f207)), (a 208, .inl (t 0, 9, .inl (u_1.2.1 0)))] H := hP
  have hD : va_D A [(a 200, .inr (12, [.int v200_0, .ref (a 201), .ref (a 202), .ref (a 203), .ref (a 204), .int v200_5, .ref (a 205), .int v200_7, .int v200_8, .int v200_9, .int v200_10, .int v200_11, .int v200_12, .int v200_13, .ref (a 206), .int v200_15, .ref (a 207), .int v200_17, .int v200_18, .int v200_19, .ref (a 208), .int (u_1.1 0), .ref (a 209), .int v200_23, .ref (a 210), .ref (a 211), .ref (a 212), .int v200_27, .int v200_28, .int v200_29, .ref (a 213), .ref (a 214), .ref (a 215), .int v200_33, .int v200_34, .int v200_35, .ref (a 216), .ref (a 217), .ref (a 218), .ref (a 219)])), (a 201, .inl (t 0, 841, .inl f201)), (a 207, .inl (t 0, 9, .inl f207)), (a 208, .inl (t 0, 9, .inl (u_1.2.1 0)))] := hD
  refine lv_aload_n hx hb dX12_runsOff_7 rfl (lv_at hl 0 rfl) ?_
  refine lv_iload_n hx hb dX12_runsOff_8 rfl (lv_at hl 2 rfl) ?_
  refine y_pV hF (s_X12_mostOf l D t a v200_0 v200_5 v200_7 v200_8 v200_9 v200_10 v200_11 v200_12 v200_13 v200_15 v200_17 v200_18 v200_19 (u_1.1 0) v200_23 v200_27 v200_28 v200_29 v200_33 v200_34 v200_35 f201 (u_1.2.1 0) p1 r200_5 r200_7 r200_8 r200_9 r200_23 q201) m_1722 m_1724 m_s76 m_13 m_1725 hd_X12_mostOf ⟨Nat.le_of_ble_eq_true rfl, Nat.le_of_ble_eq_true rfl⟩ hK hN hP hS [0, 1, 3] rfl 0 (ci := 12) rfl rfl rfl hl.1 rfl (Nat.le_of_ble_eq_true rfl) dX12_runsOff_9 ⟨Nat.zero_le _, Nat.zero_le _⟩ (fun r_3 H locs hr_3 hP hS => ?_)
  refine lv_istore_n (lv' := [(3, .int r_3), (0, .ref (a 200)), (1, .int p0), (2, .int p1)]) hx hb dX12_runsOff_12 rfl hl (by decide) rfl (fun ls hl => ?_)
  refine lv_iload_n hx hb dX12_runsOff_13 rfl (lv_at hl 0 rfl) ?_
  refine lv_iconst (v := (-1)) hx hb dX12_runsOff_14 (by decide) ?_
  refine lv_icmp_ne (tgt := 22) hx hb dX12_runsOff_15 (by decide) (fun c_4 => ?_) (fun c_4 => ?_)
  · skip
    have h_5 : rg 0 8 r_3 := rg_w (rg_neL hr_3 c_4 (by decide)) (by decide) (by decide)
    refine lv_aload_n hx hb dX12_runsOff_22 rfl (lv_at hl 1 rfl) ?_
    refine lv_iload_n hx hb dX12_runsOff_23 rfl (lv_at hl 3 rfl) ?_
    refine lv_iconst (v := 1) hx hb dX12_runsOff_24 (by decide) ?_
    refine lv_iload_n hx hb dX12_runsOff_25 rfl (lv_at hl 0 rfl) ?_
    refine lv_ishl hx hb dX12_runsOff_26 ?_
    refine lv_topi (fun x_6 ex_6 => ?_)
    have hx_6 : rg 1 256 x_6 := by rw [ex_6]; exact rg_shl1 (b := 8) h_5 (by decide) (by decide)
    refine lv_iconst (v := (-1)) hx hb dX12_runsOff_27 (by decide) ?_
    refine lv_ixor hx hb dX12_runsOff_28 ?_
    refine lv_topi (fun x_7 ex_7 => ?_)
    refine lv_iand hx hb dX12_runsOff_29 ?_
    refine lv_topi (fun x_8 ex_8 => ?_)
    refine y_pV hF (s_X12_mostOf l D t a v200_0 v200_5 v200_7 v200_8 v200_9 v200_10 v200_11 v200_12 v200_13 v200_15 v200_17 v200_18 v200_19 (u_1.1 0) v200_23 v200_27 v200_28 v200_29 v200_33 v200_34 v200_35 f201 (u_1.2.1 0) x_8 r200_5 r200_7 r200_8 r200_9 r200_23 q201) m_1722 m_1724 m_s76 m_13 m_1725 hd_X12_mostOf ⟨Nat.le_of_ble_eq_true rfl, Nat.le_of_ble_eq_true rfl⟩ hK hN hP hS [0, 1, 3] rfl 0 (ci := 12) rfl rfl rfl hl.1 rfl (Nat.le_of_ble_eq_true rfl) dX12_runsOff_30 ⟨Nat.zero_le _, Nat.zero_le _⟩ (fun r_9 H locs hr_9 hP hS => ?_)
    refine lv_istore (lv' := [(4, .int r_9), (3, .int r_3), (0, .ref (a 200)), (1, .int p0), (2, .int p1)]) hx hb dX12_runsOff_33 hl (by decide) rfl (fun ls hl => ?_)
    refine lv_iload_n hx hb dX12_runsOff_35 rfl (lv_at hl 1 rfl) ?_
    refine lv_iconst (v := (-1)) hx hb dX12_runsOff_36 (by decide) ?_
    refine lv_icmp_ne (tgt := 44) hx hb dX12_runsOff_37 (by decide) (fun c_10 => ?_) (fun c_10 => False.elim (by have q1 := (h_5).1; have q2 := (h_5).2; have q3 := ((rg_c (x := (-1)) (k := (-1)) (by decide))).1; have q4 := ((rg_c (x := (-1)) (k := (-1)) (by decide))).2; have q5 := congrArg Int32.toInt c_10; omega))
    refine lv_iconst (v := 1) hx hb dX12_runsOff_44 (by decide) ?_
    refine lv_iload_n hx hb dX12_runsOff_45 rfl (lv_at hl 1 rfl) ?_
    refine lv_ishl hx hb dX12_runsOff_46 ?_
    refine lv_topi (fun x_11 ex_11 => ?_)
    have hx_11 : rg 1 256 x_11 := by rw [ex_11]; exact rg_shl1 (b := 8) h_5 (by decide) (by decide)
    refine lv_iload hx hb dX12_runsOff_47 (lv_at hl 0 rfl) ?_
    refine lv_iconst (v := (-1)) hx hb dX12_runsOff_49 (by decide) ?_
    refine lv_icmp_ne (tgt := 57) hx hb dX12_runsOff_50 (by decide) (fun c_12 => ?_) (fun c_12 => ?_)
    · skip
      have h_13 : rg 0 8 r_9 := rg_w (rg_neL hr_9 c_12 (by decide)) (by decide) (by decide)
      refine lv_iconst (v := 1) hx hb dX12_runsOff_57 (by decide) ?_
      refine lv_iload hx hb dX12_runsOff_58 (lv_at hl 0 rfl) ?_
      refine lv_ishl hx hb dX12_runsOff_60 ?_
      refine lv_topi (fun x_14 ex_14 => ?_)
      have hx_14 : rg 1 256 x_14 := by rw [ex_14]; exact rg_shl1 (b := 8) h_13 (by decide) (by decide)
      refine lv_ior hx hb dX12_runsOff_61 ?_
      refine lv_topi (fun x_15 ex_15 => ?_)
      have hx_15 : rg 0 511 x_15 := by rw [ex_15]; exact rg_or (m := 9) (rg_w (c := 0) (d := 511) hx_11 (by decide) (by decide)) (rg_w (c := 0) (d := 511) hx_14 (by decide) (by decide)) (by decide) (by decide)
      refine lv_istore (lv' := [(5, .int x_15), (4, .int r_9), (3, .int r_3), (0, .ref (a 200)), (1, .int p0), (2, .int p1)]) hx hb dX12_runsOff_62 hl (by decide) rfl (fun ls hl => ?_)
      refine lv_aload_n hx hb dX12_runsOff_64 rfl (lv_at hl 3 rfl) ?_
      refine lv_iload_n hx hb dX12_runsOff_65 rfl (lv_at hl 4 rfl) ?_
      refine lv_iload hx hb dX12_runsOff_66 (lv_at hl 0 rfl) ?_
      refine lv_iconst (v := 0) hx hb dX12_runsOff_68 (by decide) ?_
      refine y_wV (wr := []) hF (s_X12_count l D t a v200_0 v200_5 v200_7 v200_8 v200_9 v200_10 v200_11 v200_12 v200_13 v200_15 v200_17 v200_18 v200_19 (u_1.1 0) v200_23 v200_27 v200_28 v200_29 v200_33 v200_34 v200_35 f201 f207 (u_1.2.1 0) p0 x_15 0 r200_5 r200_7 r200_8 r200_9 r200_23 q201 (rg_w (c := 0) (d := 1) (rg_c (x := 0) (k := 0) (by decide)) (by decide) (by decide)) H.size) m_1695 m_1697 m_s72 m_13 m_1698 hd_X12_count ⟨Nat.le_of_ble_eq_true rfl, Nat.le_of_ble_eq_true rfl⟩ hK hN hP hD hS hA 0 (ci := 12) rfl rfl rfl [0, 1, 2, 3] [] rfl rfl (by decide) (by decide) (by decide) hl.1 rfl (Nat.le_of_ble_eq_true rfl) dX12_runsOff_69 ⟨Nat.zero_le _, Nat.zero_le _⟩ (fun u_16 H locs hu_16 hP hD hS => ?_)
      have hP : va_P D classes [(a 200, .inr (12, [.int v200_0, .ref (a 201), .ref (a 202), .ref (a 203), .ref (a 204), .int v200_5, .ref (a 205), .int v200_7, .int v200_8, .int v200_9, .int v200_10, .int v200_11, .int v200_12, .int v200_13, .ref (a 206), .int v200_15, .ref (a 207), .int v200_17, .int v200_18, .int v200_19, .ref (a 208), .int (u_16.1 0), .ref (a 209), .int v200_23, .ref (a 210), .ref (a 211), .ref (a 212), .int v200_27, .int v200_28, .int v200_29, .ref (a 213), .ref (a 214), .ref (a 215), .int v200_33, .int v200_34, .int v200_35, .ref (a 216), .ref (a 217), .ref (a 218), .ref (a 219)])), (a 201, .inl (t 0, 841, .inl f201)), (a 207, .inl (t 0, 9, .inl f207)), (a 208, .inl (t 0, 9, .inl (u_16.2.1 0)))] H := hP
      have hD : va_D A [(a 200, .inr (12, [.int v200_0, .ref (a 201), .ref (a 202), .ref (a 203), .ref (a 204), .int v200_5, .ref (a 205), .int v200_7, .int v200_8, .int v200_9, .int v200_10, .int v200_11, .int v200_12, .int v200_13, .ref (a 206), .int v200_15, .ref (a 207), .int v200_17, .int v200_18, .int v200_19, .ref (a 208), .int (u_16.1 0), .ref (a 209), .int v200_23, .ref (a 210), .ref (a 211), .ref (a 212), .int v200_27, .int v200_28, .int v200_29, .ref (a 213), .ref (a 214), .ref (a 215), .int v200_33, .int v200_34, .int v200_35, .ref (a 216), .ref (a 217), .ref (a 218), .ref (a 219)])), (a 201, .inl (t 0, 841, .inl f201)), (a 207, .inl (t 0, 9, .inl f207)), (a 208, .inl (t 0, 9, .inl (u_16.2.1 0)))] := hD
      refine lv_aload_n hx hb dX12_runsOff_72 rfl (lv_at hl 3 rfl) ?_
      refine lv_iload hx hb dX12_runsOff_73 (lv_at hl 0 rfl) ?_
      refine y_pV hF (s_X12_mostOf l D t a v200_0 v200_5 v200_7 v200_8 v200_9 v200_10 v200_11 v200_12 v200_13 v200_15 v200_17 v200_18 v200_19 (u_16.1 0) v200_23 v200_27 v200_28 v200_29 v200_33 v200_34 v200_35 f201 (u_16.2.1 0) x_15 r200_5 r200_7 r200_8 r200_9 r200_23 q201) m_1722 m_1724 m_s76 m_13 m_1725 hd_X12_mostOf ⟨Nat.le_of_ble_eq_true rfl, Nat.le_of_ble_eq_true rfl⟩ hK hN hP hS [0, 1, 3] rfl 0 (ci := 12) rfl rfl rfl hl.1 rfl (Nat.le_of_ble_eq_true rfl) dX12_runsOff_75 ⟨Nat.zero_le _, Nat.zero_le _⟩ (fun r_18 H locs hr_18 hP hS => ?_)
      have hP9 := hP.sub (ws' := [(a 200, .inr (12, [.int v200_0, .ref (a 201), .ref (a 202), .ref (a 203), .ref (a 204), .int v200_5, .ref (a 205), .int v200_7, .int v200_8, .int v200_9, .int v200_10, .int v200_11, .int v200_12, .int v200_13, .ref (a 206), .int v200_15, .ref (a 207), .int v200_17, .int v200_18, .int v200_19, .ref (a 208), .int (u_16.1 0), .ref (a 209), .int v200_23, .ref (a 210), .ref (a 211), .ref (a 212), .int v200_27, .int v200_28, .int v200_29, .ref (a 213), .ref (a 214), .ref (a 215), .int v200_33, .int v200_34, .int v200_35, .ref (a 216), .ref (a 217), .ref (a 218), .ref (a 219)])), (a 201, .inl (t 0, 841, .inl f201)), (a 207, .inl (t 0, 9, .inl f207)), (a 208, .inl (t 0, 9, .inl (u_16.2.1 0)))]) [0, 1, 2, 3] rfl
      have hD9 := hD.sub (ws' := [(a 200, .inr (12, [.int v200_0, .ref (a 201), .ref (a 202), .ref (a 203), .ref (a 204), .int v200_5, .ref (a 205), .int v200_7, .int v200_8, .int v200_9, .int v200_10, .int v200_11, .int v200_12, .int v200_13, .ref (a 206), .int v200_15, .ref (a 207), .int v200_17, .int v200_18, .int v200_19, .ref (a 208), .int (u_16.1 0), .ref (a 209), .int v200_23, .ref (a 210), .ref (a 211), .ref (a 212), .int v200_27, .int v200_28, .int v200_29, .ref (a 213), .ref (a 214), .ref (a 215), .int v200_33, .int v200_34, .int v200_35, .ref (a 216), .ref (a 217), .ref (a 218), .ref (a 219)])), (a 201, .inl (t 0, 841, .inl f201)), (a 207, .inl (t 0, 9, .inl f207)), (a 208, .inl (t 0, 9, .inl (u_16.2.1 0)))]) [0, 1, 2, 3] (by decide) rfl
      exact W.iret (v := r_18) hx hb hr (fun t9 ht hW => ⟨⟨r_18, (fun k => [(u_16.1 0)].getD k 0, fun k => [(u_16.2.1 0)].getD k (fun _ => 0), fun k => [].getD k (fun _ => 0), fun _ => 0), rfl, hr_18, by rw [ht]; exact hP9, hD9⟩, hS.F ht⟩) hS.2.2 dX12_runsOff_78
    · skip
      have h_19 : rg (-1) (-1) r_9 := rg_eq c_12 (rg_c (x := (-1)) (k := (-1)) (by decide))
      refine lv_iconst (v := 0) hx hb dX12_runsOff_53 (by decide) ?_
      refine lv_goto (tgt := 61) hx hb dX12_runsOff_54 (by decide) ?_
      refine lv_ior hx hb dX12_runsOff_61 ?_
      refine lv_topi (fun x_20 ex_20 => ?_)
      have hx_20 : rg 0 511 x_20 := by rw [ex_20]; exact rg_or (m := 9) (rg_w (c := 0) (d := 511) hx_11 (by decide) (by decide)) (rg_w (c := 0) (d := 511) (rg_c (x := 0) (k := 0) (by decide)) (by decide) (by decide)) (by decide) (by decide)
      refine lv_istore (lv' := [(5, .int x_20), (4, .int r_9), (3, .int r_3), (0, .ref (a 200)), (1, .int p0), (2, .int p1)]) hx hb dX12_runsOff_62 hl (by decide) rfl (fun ls hl => ?_)
      refine lv_aload_n hx hb dX12_runsOff_64 rfl (lv_at hl 3 rfl) ?_
      refine lv_iload_n hx hb dX12_runsOff_65 rfl (lv_at hl 4 rfl) ?_
      refine lv_iload hx hb dX12_runsOff_66 (lv_at hl 0 rfl) ?_
      refine lv_iconst (v := 0) hx hb dX12_runsOff_68 (by decide) ?_
      refine y_wV (wr := []) hF (s_X12_count l D t a v200_0 v200_5 v200_7 v200_8 v200_9 v200_10 v200_11 v200_12 v200_13 v200_15 v200_17 v200_18 v200_19 (u_1.1 0) v200_23 v200_27 v200_28 v200_29 v200_33 v200_34 v200_35 f201 f207 (u_1.2.1 0) p0 x_20 0 r200_5 r200_7 r200_8 r200_9 r200_23 q201 (rg_w (c := 0) (d := 1) (rg_c (x := 0) (k := 0) (by decide)) (by decide) (by decide)) H.size) m_1695 m_1697 m_s72 m_13 m_1698 hd_X12_count ⟨Nat.le_of_ble_eq_true rfl, Nat.le_of_ble_eq_true rfl⟩ hK hN hP hD hS hA 0 (ci := 12) rfl rfl rfl [0, 1, 2, 3] [] rfl rfl (by decide) (by decide) (by decide) hl.1 rfl (Nat.le_of_ble_eq_true rfl) dX12_runsOff_69 ⟨Nat.zero_le _, Nat.zero_le _⟩ (fun u_21 H locs hu_21 hP hD hS => ?_)
      have hP : va_P D classes [(a 200, .inr (12, [.int v200_0, .ref (a 201), .ref (a 202), .ref (a 203), .ref (a 204), .int v200_5, .ref (a 205), .int v200_7, .int v200_8, .int v200_9, .int v200_10, .int v200_11, .int v200_12, .int v200_13, .ref (a 206), .int v200_15, .ref (a 207), .int v200_17, .int v200_18, .int v200_19, .ref (a 208), .int (u_21.1 0), .ref (a 209), .int v200_23, .ref (a 210), .ref (a 211), .ref (a 212), .int v200_27, .int v200_28, .int v200_29, .ref (a 213), .ref (a 214), .ref (a 215), .int v200_33, .int v200_34, .int v200_35, .ref (a 216), .ref (a 217), .ref (a 218), .ref (a 219)])), (a 201, .inl (t 0, 841, .inl f201)), (a 207, .inl (t 0, 9, .inl f207)), (a 208, .inl (t 0, 9, .inl (u_21.2.1 0)))] H := hP
      have hD : va_D A [(a 200, .inr (12, [.int v200_0, .ref (a 201), .ref (a 202), .ref (a 203), .ref (a 204), .int v200_5, .ref (a 205), .int v200_7, .int v200_8, .int v200_9, .int v200_10, .int v200_11, .int v200_12, .int v200_13, .ref (a 206), .int v200_15, .ref (a 207), .int v200_17, .int v200_18, .int v200_19, .ref (a 208), .int (u_21.1 0), .ref (a 209), .int v200_23, .ref (a 210), .ref (a 211), .ref (a 212), .int v200_27, .int v200_28, .int v200_29, .ref (a 213), .ref (a 214), .ref (a 215), .int v200_33, .int v200_34, .int v200_35, .ref (a 216), .ref (a 217), .ref (a 218), .ref (a 219)])), (a 201, .inl (t 0, 841, .inl f201)), (a 207, .inl (t 0, 9, .inl f207)), (a 208, .inl (t 0, 9, .inl (u_21.2.1 0)))] := hD
      refine lv_aload_n hx hb dX12_runsOff_72 rfl (lv_at hl 3 rfl) ?_
      refine lv_iload hx hb dX12_runsOff_73 (lv_at hl 0 rfl) ?_
      refine y_pV hF (s_X12_mostOf l D t a v200_0 v200_5 v200_7 v200_8 v200_9 v200_10 v200_11 v200_12 v200_13 v200_15 v200_17 v200_18 v200_19 (u_21.1 0) v200_23 v200_27 v200_28 v200_29 v200_33 v200_34 v200_35 f201 (u_21.2.1 0) x_20 r200_5 r200_7 r200_8 r200_9 r200_23 q201) m_1722 m_1724 m_s76 m_13 m_1725 hd_X12_mostOf ⟨Nat.le_of_ble_eq_true rfl, Nat.le_of_ble_eq_true rfl⟩ hK hN hP hS [0, 1, 3] rfl 0 (ci := 12) rfl rfl rfl hl.1 rfl (Nat.le_of_ble_eq_true rfl) dX12_runsOff_75 ⟨Nat.zero_le _, Nat.zero_le _⟩ (fun r_23 H locs hr_23 hP hS => ?_)
      have hP9 := hP.sub (ws' := [(a 200, .inr (12, [.int v200_0, .ref (a 201), .ref (a 202), .ref (a 203), .ref (a 204), .int v200_5, .ref (a 205), .int v200_7, .int v200_8, .int v200_9, .int v200_10, .int v200_11, .int v200_12, .int v200_13, .ref (a 206), .int v200_15, .ref (a 207), .int v200_17, .int v200_18, .int v200_19, .ref (a 208), .int (u_21.1 0), .ref (a 209), .int v200_23, .ref (a 210), .ref (a 211), .ref (a 212), .int v200_27, .int v200_28, .int v200_29, .ref (a 213), .ref (a 214), .ref (a 215), .int v200_33, .int v200_34, .int v200_35, .ref (a 216), .ref (a 217), .ref (a 218), .ref (a 219)])), (a 201, .inl (t 0, 841, .inl f201)), (a 207, .inl (t 0, 9, .inl f207)), (a 208, .inl (t 0, 9, .inl (u_21.2.1 0)))]) [0, 1, 2, 3] rfl
      have hD9 := hD.sub (ws' := [(a 200, .inr (12, [.int v200_0, .ref (a 201), .ref (a 202), .ref (a 203), .ref (a 204), .int v200_5, .ref (a 205), .int v200_7, .int v200_8, .int v200_9, .int v200_10, .int v200_11, .int v200_12, .int v200_13, .ref (a 206), .int v200_15, .ref (a 207), .int v200_17, .int v200_18, .int v200_19, .ref (a 208), .int (u_21.1 0), .ref (a 209), .int v200_23, .ref (a 210), .ref (a 211), .ref (a 212), .int v200_27, .int v200_28, .int v200_29, .ref (a 213), .ref (a 214), .ref (a 215), .int v200_33, .int v200_34, .int v200_35, .ref (a 216), .ref (a 217), .ref (a 218), .ref (a 219)])), (a 201, .inl (t 0, 841, .inl f201)), (a 207, .inl (t 0, 9, .inl f207)), (a 208, .inl (t 0, 9, .inl (u_21.2.1 0)))]) [0, 1, 2, 3] (by decide) rfl
      exact W.iret (v := r_23) hx hb hr (fun t9 ht hW => ⟨⟨r_23, (fun k => [(u_21.1 0)].getD k 0, fun k => [(u_21.2.1 0)].getD k (fun _ => 0), fun k => [].getD k (fun _ => 0), fun _ => 0), rfl, hr_23, by rw [ht]; exact hP9, hD9⟩, hS.F ht⟩) hS.2.2 dX12_runsOff_78
  · skip
    have h_24 : rg (-1) (-1) r_3 := rg_eq c_4 (rg_c (x := (-1)) (k := (-1)) (by decide))
    refine lv_iconst (v := (-1)) hx hb dX12_runsOff_18 (by decide) ?_
    refine lv_goto (tgt := 33) hx hb dX12_runsOff_19 (by decide) ?_
    refine lv_istore (lv' := [(4, .int (-1)), (3, .int r_3), (0, .ref (a 200)), (1, .int p0), (2, .int p1)]) hx hb dX12_runsOff_33 hl (by decide) rfl (fun ls hl => ?_)
    refine lv_iload_n hx hb dX12_runsOff_35 rfl (lv_at hl 1 rfl) ?_
    refine lv_iconst (v := (-1)) hx hb dX12_runsOff_36 (by decide) ?_
    refine lv_icmp_ne (tgt := 44) hx hb dX12_runsOff_37 (by decide) (fun c_25 => False.elim (by have q1 := (h_24).1; have q2 := (h_24).2; have q3 := ((rg_c (x := (-1)) (k := (-1)) (by decide))).1; have q4 := ((rg_c (x := (-1)) (k := (-1)) (by decide))).2; have q5 : ¬ (r_3 : Int32).toInt = ((-1) : Int32).toInt := fun z => c_25 (Int32.toInt_inj.mp z); omega)) (fun c_25 => ?_)
    refine lv_iconst (v := 0) hx hb dX12_runsOff_40 (by decide) ?_
    refine lv_goto (tgt := 47) hx hb dX12_runsOff_41 (by decide) ?_
    refine lv_iload hx hb dX12_runsOff_47 (lv_at hl 0 rfl) ?_
    refine lv_iconst (v := (-1)) hx hb dX12_runsOff_49 (by decide) ?_
    refine lv_icmp_ne (tgt := 57) hx hb dX12_runsOff_50 (by decide) (fun c_26 => False.elim (by first | exact absurd (by decide) c_26 | exact absurd c_26 (by decide))) (fun c_26 => ?_)
    refine lv_iconst (v := 0) hx hb dX12_runsOff_53 (by decide) ?_
    refine lv_goto (tgt := 61) hx hb dX12_runsOff_54 (by decide) ?_
    refine lv_ior hx hb dX12_runsOff_61 ?_
    refine x_seti 0 (by decide) ?_
    refine lv_istore (lv' := [(5, .int 0), (4, .int (-1)), (3, .int r_3), (0, .ref (a 200)), (1, .int p0), (2, .int p1)]) hx hb dX12_runsOff_62 hl (by decide) rfl (fun ls hl => ?_)
    refine lv_aload_n hx hb dX12_runsOff_64 rfl (lv_at hl 3 rfl) ?_
    refine lv_iload_n hx hb dX12_runsOff_65 rfl (lv_at hl 4 rfl) ?_
    refine lv_iload hx hb dX12_runsOff_66 (lv_at hl 0 rfl) ?_
    refine lv_iconst (v := 0) hx hb dX12_runsOff_68 (by decide) ?_
    refine y_wV (wr := []) hF (s_X12_count l D t a v200_0 v200_5 v200_7 v200_8 v200_9 v200_10 v200_11 v200_12 v200_13 v200_15 v200_17 v200_18 v200_19 (u_1.1 0) v200_23 v200_27 v200_28 v200_29 v200_33 v200_34 v200_35 f201 f207 (u_1.2.1 0) p0 0 0 r200_5 r200_7 r200_8 r200_9 r200_23 q201 (rg_w (c := 0) (d := 1) (rg_c (x := 0) (k := 0) (by decide)) (by decide) (by decide)) H.size) m_1695 m_1697 m_s72 m_13 m_1698 hd_X12_count ⟨Nat.le_of_ble_eq_true rfl, Nat.le_of_ble_eq_true rfl⟩ hK hN hP hD hS hA 0 (ci := 12) rfl rfl rfl [0, 1, 2, 3] [] rfl rfl (by decide) (by decide) (by decide) hl.1 rfl (Nat.le_of_ble_eq_true rfl) dX12_runsOff_69 ⟨Nat.zero_le _, Nat.zero_le _⟩ (fun u_27 H locs hu_27 hP hD hS => ?_)
    have hP : va_P D classes [(a 200, .inr (12, [.int v200_0, .ref (a 201), .ref (a 202), .ref (a 203), .ref (a 204), .int v200_5, .ref (a 205), .int v200_7, .int v200_8, .int v200_9, .int v200_10, .int v200_11, .int v200_12, .int v200_13, .ref (a 206), .int v200_15, .ref (a 207), .int v200_17, .int v200_18, .int v200_19, .ref (a 208), .int (u_27.1 0), .ref (a 209), .int v200_23, .ref (a 210), .ref (a 211), .ref (a 212), .int v200_27, .int v200_28, .int v200_29, .ref (a 213), .ref (a 214), .ref (a 215), .int v200_33, .int v200_34, .int v200_35, .ref (a 216), .ref (a 217), .ref (a 218), .ref (a 219)])), (a 201, .inl (t 0, 841, .inl f201)), (a 207, .inl (t 0, 9, .inl f207)), (a 208, .inl (t 0, 9, .inl (u_27.2.1 0)))] H := hP
    have hD : va_D A [(a 200, .inr (12, [.int v200_0, .ref (a 201), .ref (a 202), .ref (a 203), .ref (a 204), .int v200_5, .ref (a 205), .int v200_7, .int v200_8, .int v200_9, .int v200_10, .int v200_11, .int v200_12, .int v200_13, .ref (a 206), .int v200_15, .ref (a 207), .int v200_17, .int v200_18, .int v200_19, .ref (a 208), .int (u_27.1 0), .ref (a 209), .int v200_23, .ref (a 210), .ref (a 211), .ref (a 212), .int v200_27, .int v200_28, .int v200_29, .ref (a 213), .ref (a 214), .ref (a 215), .int v200_33, .int v200_34, .int v200_35, .ref (a 216), .ref (a 217), .ref (a 218), .ref (a 219)])), (a 201, .inl (t 0, 841, .inl f201)), (a 207, .inl (t 0, 9, .inl f207)), (a 208, .inl (t 0, 9, .inl (u_27.2.1 0)))] := hD
    refine lv_aload_n hx hb dX12_runsOff_72 rfl (lv_at hl 3 rfl) ?_
    refine lv_iload hx hb dX12_runsOff_73 (lv_at hl 0 rfl) ?_
    refine y_pV hF (s_X12_mostOf l D t a v200_0 v200_5 v200_7 v200_8 v200_9 v200_10 v200_11 v200_12 v200_13 v200_15 v200_17 v200_18 v200_19 (u_27.1 0) v200_23 v200_27 v200_28 v200_29 v200_33 v200_34 v200_35 f201 (u_27.2.1 0) 0 r200_5 r200_7 r200_8 r200_9 r200_23 q201) m_1722 m_1724 m_s76 m_13 m_1725 hd_X12_mostOf ⟨Nat.le_of_ble_eq_true rfl, Nat.le_of_ble_eq_true rfl⟩ hK hN hP hS [0, 1, 3] rfl 0 (ci := 12) rfl rfl rfl hl.1 rfl (Nat.le_of_ble_eq_true rfl) dX12_runsOff_75 ⟨Nat.zero_le _, Nat.zero_le _⟩ (fun r_29 H locs hr_29 hP hS => ?_)
    have hP9 := hP.sub (ws' := [(a 200, .inr (12, [.int v200_0, .ref (a 201), .ref (a 202), .ref (a 203), .ref (a 204), .int v200_5, .ref (a 205), .int v200_7, .int v200_8, .int v200_9, .int v200_10, .int v200_11, .int v200_12, .int v200_13, .ref (a 206), .int v200_15, .ref (a 207), .int v200_17, .int v200_18, .int v200_19, .ref (a 208), .int (u_27.1 0), .ref (a 209), .int v200_23, .ref (a 210), .ref (a 211), .ref (a 212), .int v200_27, .int v200_28, .int v200_29, .ref (a 213), .ref (a 214), .ref (a 215), .int v200_33, .int v200_34, .int v200_35, .ref (a 216), .ref (a 217), .ref (a 218), .ref (a 219)])), (a 201, .inl (t 0, 841, .inl f201)), (a 207, .inl (t 0, 9, .inl f207)), (a 208, .inl (t 0, 9, .inl (u_27.2.1 0)))]) [0, 1, 2, 3] rfl
    have hD9 := hD.sub (ws' := [(a 200, .inr (12, [.int v200_0, .ref (a 201), .ref (a 202), .ref (a 203), .ref (a 204), .int v200_5, .ref (a 205), .int v200_7, .int v200_8, .int v200_9, .int v200_10, .int v200_11, .int v200_12, .int v200_13, .ref (a 206), .int v200_15, .ref (a 207), .int v200_17, .int v200_18, .int v200_19, .ref (a 208), .int (u_27.1 0), .ref (a 209), .int v200_23, .ref (a 210), .ref (a 211), .ref (a 212), .int v200_27, .int v200_28, .int v200_29, .ref (a 213), .ref (a 214), .ref (a 215), .int v200_33, .int v200_34, .int v200_35, .ref (a 216), .ref (a 217), .ref (a 218), .ref (a 219)])), (a 201, .inl (t 0, 841, .inl f201)), (a 207, .inl (t 0, 9, .inl f207)), (a 208, .inl (t 0, 9, .inl (u_27.2.1 0)))]) [0, 1, 2, 3] (by decide) rfl
    exact W.iret (v := r_29) hx hb hr (fun t9 ht hW => ⟨⟨r_29, (fun k => [(u_27.1 0)].getD k 0, fun k => [(u_27.2.1 0)].getD k (fun _ => 0), fun k => [].getD k (fun _ => 0), fun _ => 0), rfl, hr_29, by rw [ht]; exact hP9, hD9⟩, hS.F ht⟩) hS.2.2 dX12_runsOff_78

set_option maxHeartbeats 4000000 in
set_option maxRecDepth 100000 in
theorem s_X12_winner (l : Launch) (D : va_G) (t : Nat → ClassId) (a : Nat → Nat) (v200_0 : Int32) (v200_5 : Int32) (v200_7 : Int32) (v200_8 : Int32) (v200_9 : Int32) (v200_10 : Int32) (v200_11 : Int32) (v200_12 : Int32) (v200_13 : Int32) (v200_15 : Int32) (v200_17 : Int32) (v200_18 : Int32) (v200_19 : Int32) (v200_21 : Int32) (v200_23 : Int32) (v200_27 : Int32) (v200_28 : Int32) (v200_29 : Int32) (v200_33 : Int32) (v200_34 : Int32) (v200_35 : Int32) (f201 : Nat → Int32) (f207 : Nat → Int32) (f208 : Nat → Int32) (f209 : Nat → Int32) (p0 : Int32) (p1 : Int32) (r200_5 : rg 0 1600 v200_5) (r200_7 : rg 0 1600 v200_7) (r200_8 : rg 0 1600 v200_8) (r200_9 : rg 0 1600 v200_9) (r200_23 : rg 0 9 v200_23) (q201 : wR f201) (sz : Nat) : Met l yX12_winner (wd yX12_winner cX12_winner 5 (some .int)) (RM 6 0 0) (PreW D (TY t) [.ref (a 200), .int p0, .int p1] [(a 200, .inr (12, [.int v200_0, .ref (a 201), .ref (a 202), .ref (a 203), .ref (a 204), .int v200_5, .ref (a 205), .int v200_7, .int v200_8, .int v200_9, .int v200_10, .int v200_11, .int v200_12, .int v200_13, .ref (a 206), .int v200_15, .ref (a 207), .int v200_17, .int v200_18, .int v200_19, .ref (a 208), .int v200_21, .ref (a 209), .int v200_23, .ref (a 210), .ref (a 211), .ref (a 212), .int v200_27, .int v200_28, .int v200_29, .ref (a 213), .ref (a 214), .ref (a 215), .int v200_33, .int v200_34, .int v200_35, .ref (a 216), .ref (a 217), .ref (a 218), .ref (a 219)])), (a 201, .inl (t 0, 841, .inl f201)), (a 207, .inl (t 0, 9, .inl f207)), (a 208, .inl (t 0, 9, .inl f208)), (a 209, .inl (t 0, 9, .inl f209))] sz) (va_Qi (fun (r : Int32) (u : US) => rg (-1) 8 r ∧ rg 0 9 (u.1 1)) (fun (u : US) t9 => va_P D classes ((fun u : US => [(a 200, .inr (12, [.int v200_0, .ref (a 201), .ref (a 202), .ref (a 203), .ref (a 204), .int v200_5, .ref (a 205), .int v200_7, .int v200_8, .int v200_9, .int v200_10, .int v200_11, .int v200_12, .int v200_13, .ref (a 206), .int v200_15, .ref (a 207), .int v200_17, .int v200_18, .int v200_19, .ref (a 208), .int (u.1 0), .ref (a 209), .int (u.1 1), .ref (a 210), .ref (a 211), .ref (a 212), .int v200_27, .int v200_28, .int v200_29, .ref (a 213), .ref (a 214), .ref (a 215), .int v200_33, .int v200_34, .int v200_35, .ref (a 216), .ref (a 217), .ref (a 218), .ref (a 219)])), (a 201, .inl (t 0, 841, .inl f201)), (a 207, .inl (t 0, 9, .inl f207)), (a 208, .inl (t 0, 9, .inl (u.2.1 0))), (a 209, .inl (t 0, 9, .inl (u.2.1 1)))]) u) t9.heap ∧ va_D (va_A [(a 200, .inr (12, [.int v200_0, .ref (a 201), .ref (a 202), .ref (a 203), .ref (a 204), .int v200_5, .ref (a 205), .int v200_7, .int v200_8, .int v200_9, .int v200_10, .int v200_11, .int v200_12, .int v200_13, .ref (a 206), .int v200_15, .ref (a 207), .int v200_17, .int v200_18, .int v200_19, .ref (a 208), .int v200_21, .ref (a 209), .int v200_23, .ref (a 210), .ref (a 211), .ref (a 212), .int v200_27, .int v200_28, .int v200_29, .ref (a 213), .ref (a 214), .ref (a 215), .int v200_33, .int v200_34, .int v200_35, .ref (a 216), .ref (a 217), .ref (a 218), .ref (a 219)])), (a 201, .inl (t 0, 841, .inl f201)), (a 207, .inl (t 0, 9, .inl f207)), (a 208, .inl (t 0, 9, .inl f208)), (a 209, .inl (t 0, 9, .inl f209))] sz) ((fun u : US => [(a 200, .inr (12, [.int v200_0, .ref (a 201), .ref (a 202), .ref (a 203), .ref (a 204), .int v200_5, .ref (a 205), .int v200_7, .int v200_8, .int v200_9, .int v200_10, .int v200_11, .int v200_12, .int v200_13, .ref (a 206), .int v200_15, .ref (a 207), .int v200_17, .int v200_18, .int v200_19, .ref (a 208), .int (u.1 0), .ref (a 209), .int (u.1 1), .ref (a 210), .ref (a 211), .ref (a 212), .int v200_27, .int v200_28, .int v200_29, .ref (a 213), .ref (a 214), .ref (a 215), .int v200_33, .int v200_34, .int v200_35, .ref (a 216), .ref (a 217), .ref (a 218), .ref (a 219)])), (a 201, .inl (t 0, 841, .inl f201)), (a 207, .inl (t 0, 9, .inl f207)), (a 208, .inl (t 0, 9, .inl (u.2.1 0))), (a 209, .inl (t 0, 9, .inl (u.2.1 1)))]) u)) (va_A [(a 200, .inr (12, [.int v200_0, .ref (a 201), .ref (a 202), .ref (a 203), .ref (a 204), .int v200_5, .ref (a 205), .int v200_7, .int v200_8, .int v200_9, .int v200_10, .int v200_11, .int v200_12, .int v200_13, .ref (a 206), .int v200_15, .ref (a 207), .int v200_17, .int v200_18, .int v200_19, .ref (a 208), .int v200_21, .ref (a 209), .int v200_23, .ref (a 210), .ref (a 211), .ref (a 212), .int v200_27, .int v200_28, .int v200_29, .ref (a 213), .ref (a 214), .ref (a 215), .int v200_33, .int v200_34, .int v200_35, .ref (a 216), .ref (a 217), .ref (a 218), .ref (a 219)])), (a 201, .inl (t 0, 841, .inl f201)), (a 207, .inl (t 0, 9, .inl f207)), (a 208, .inl (t 0, 9, .inl f208)), (a 209, .inl (t 0, 9, .inl f209))] sz)) 0 0 (va_A [(a 200, .inr (12, [.int v200_0, .ref (a 201), .ref (a 202), .ref (a 203), .ref (a 204), .int v200_5, .ref (a 205), .int v200_7, .int v200_8, .int v200_9, .int v200_10, .int v200_11, .int v200_12, .int v200_13, .ref (a 206), .int v200_15, .ref (a 207), .int v200_17, .int v200_18, .int v200_19, .ref (a 208), .int v200_21, .ref (a 209), .int v200_23, .ref (a 210), .ref (a 211), .ref (a 212), .int v200_27, .int v200_28, .int v200_29, .ref (a 213), .ref (a 214), .ref (a 215), .int v200_33, .int v200_34, .int v200_35, .ref (a 216), .ref (a 217), .ref (a 218), .ref (a 219)])), (a 201, .inl (t 0, 841, .inl f201)), (a 207, .inl (t 0, 9, .inl f207)), (a 208, .inl (t 0, 9, .inl f208)), (a 209, .inl (t 0, 9, .inl f209))] sz) := by
  sorry

set_option maxHeartbeats 4000000 in
set_option maxRecDepth 100000 in
theorem s_X12_votesOfAll (l : Launch) (D : va_G) (t : Nat → ClassId) (a : Nat → Nat) (v200_0 : Int32) (v200_5 : Int32) (v200_7 : Int32) (v200_8 : Int32) (v200_9 : Int32) (v200_10 : Int32) (v200_11 : Int32) (v200_12 : Int32) (v200_13 : Int32) (v200_15 : Int32) (v200_17 : Int32) (v200_18 : Int32) (v200_19 : Int32) (v200_21 : Int32) (v200_23 : Int32) (v200_27 : Int32) (v200_28 : Int32) (v200_29 : Int32) (v200_33 : Int32) (v200_34 : Int32) (v200_35 : Int32) (f201 : Nat → Int32) (f207 : Nat → Int32) (p0 : Int32) (r200_5 : rg 0 1600 v200_5) (r200_7 : rg 0 1600 v200_7) (r200_8 : rg 0 1600 v200_8) (r200_9 : rg 0 1600 v200_9) (r200_23 : rg 0 9 v200_23) (q201 : wR f201) : Met l yX12_votesOfAll (wd yX12_votesOfAll cX12_votesOfAll 4 (some .int)) (RM 1 0 0) (PreP D (TY t) [.ref (a 200), .int p0] [(a 200, .inr (12, [.int v200_0, .ref (a 201), .ref (a 202), .ref (a 203), .ref (a 204), .int v200_5, .ref (a 205), .int v200_7, .int v200_8, .int v200_9, .int v200_10, .int v200_11, .int v200_12, .int v200_13, .ref (a 206), .int v200_15, .ref (a 207), .int v200_17, .int v200_18, .int v200_19, .ref (a 208), .int v200_21, .ref (a 209), .int v200_23, .ref (a 210), .ref (a 211), .ref (a 212), .int v200_27, .int v200_28, .int v200_29, .ref (a 213), .ref (a 214), .ref (a 215), .int v200_33, .int v200_34, .int v200_35, .ref (a 216), .ref (a 217), .ref (a 218), .ref (a 219)])), (a 201, .inl (t 0, 841, .inl f201)), (a 207, .inl (t 0, 9, .inl f207))]) (QP (fun _ => True)) 0 0 NoF := by
  refine Met.ofW (cc := cX12_votesOfAll) (maxL := 4) (ret := (some .int)) (by decide) rfl ?_
  intro p e s m args below meth c s₁ B hml hv
  obtain ⟨rfl, hP, hK, hN⟩ := hv
  have hx := B.exec
  have hb := B.bytes
  have hr := B.returns
  have hts : ∀ w ∈ TB, w.before _ s = true := fun w h => atoms_spec (ws := wd yX12_votesOfAll cX12_votesOfAll 4 (some .int)) B.pre w (List.mem_cons_of_mem _ h)
  have hown : s.vm.findClass RX12 = some m.cls := findClass_of_methodNamed B.named
  have hlocks := B.notSynchronized
  have hF : CallFix p m c cX12_votesOfAll 4 s _ TB RX12 := ⟨hx, hb, hml, hown, hts⟩
  have hl := lv_entry ([.ref (a 200), .int p0]) (n := 4) (Nat.le_of_ble_eq_true rfl)
  rw [lg_entry_eq]
  generalize (lg_sl ([.ref (a 200), .int p0]) ++ List.replicate (4 - (lg_sl ([.ref (a 200), .int p0])).length) Slot.unset).toArray = ls at hl ⊢
  have hl : lv_has ls 4 [(0, .ref (a 200)), (1, .int p0)] := hl
  have hS : va_S NoF s.heap s.heap [] := va_S.rf
  have hP : va_P D classes [(a 200, .inr (12, [.int v200_0, .ref (a 201), .ref (a 202), .ref (a 203), .ref (a 204), .int v200_5, .ref (a 205), .int v200_7, .int v200_8, .int v200_9, .int v200_10, .int v200_11, .int v200_12, .int v200_13, .ref (a 206), .int v200_15, .ref (a 207), .int v200_17, .int v200_18, .int v200_19, .ref (a 208), .int v200_21, .ref (a 209), .int v200_23, .ref (a 210), .ref (a 211), .ref (a 212), .int v200_27, .int v200_28, .int v200_29, .ref (a 213), .ref (a 214), .ref (a 215), .int v200_33, .int v200_34, .int v200_35, .ref (a 216), .ref (a 217), .ref (a 218), .ref (a 219)])), (a 201, .inl (t 0, 841, .inl f201)), (a 207, .inl (t 0, 9, .inl f207))] s.heap := hP
  refine lv_iconst (v := 0) hx hb dX12_votesOfAll_0 (by decide) ?_
  refine lv_istore_n (lv' := [(2, .int 0), (0, .ref (a 200)), (1, .int p0)]) hx hb dX12_votesOfAll_1 rfl hl (by decide) rfl (fun ls hl => ?_)
  refine lv_iconst (v := 0) hx hb dX12_votesOfAll_2 (by decide) ?_
  refine lv_istore_n (lv' := [(3, .int 0), (2, .int 0), (0, .ref (a 200)), (1, .int p0)]) hx hb dX12_votesOfAll_3 rfl hl (by decide) rfl (fun ls hl => ?_)
  refine loopW (α := US) (fun n y_1 H locs ls => 9 < (y_1.1 0).toInt + (n : Int) ∧ rg 0 9 (y_1.1 0) ∧ va_P D classes [(a 200, .inr (12, [.int v200_0, .ref (a 201), .ref (a 202), .ref (a 203), .ref (a 204), .int v200_5, .ref (a 205), .int v200_7, .int v200_8, .int v200_9, .int v200_10, .int v200_11, .int v200_12, .int v200_13, .ref (a 206), .int v200_15, .ref (a 207), .int v200_17, .int v200_18, .int v200_19, .ref (a 208), .int v200_21, .ref (a 209), .int v200_23, .ref (a 210), .ref (a 211), .ref (a 212), .int v200_27, .int v200_28, .int v200_29, .ref (a 213), .ref (a 214), .ref (a 215), .int v200_33, .int v200_34, .int v200_35, .ref (a 216), .ref (a 217), .ref (a 218), .ref (a 219)])), (a 201, .inl (t 0, 841, .inl f201)), (a 207, .inl (t 0, 9, .inl f207))] H ∧ va_S NoF s.heap H locs ∧ lv_has ls 4 [(3, .int (y_1.1 0)), (2, .int (y_1.1 1)), (0, .ref (a 200)), (1, .int p0)]) 4 (fun y_1 => []) (fun _ _ _ _ h9 => m_0 h9.1 h9.2.1) (fun n ih_3 y_1 H locs ls hI => ?_) 10 (fun k => [0, 0].getD k 0, fun k => [].getD k (fun _ => 0), fun k => [].getD k (fun _ => 0), fun k => [].getD k 0) ⟨(m_i (rg_c (x := 0) (k := 0) (by decide)) (by decide)), (rg_w (c := 0) (d := 9) (rg_c (x := 0) (k := 0) (by decide)) (by decide) (by decide)), hP, hS, (lv_sub hl [0, 1, 2, 3] rfl)⟩
  obtain ⟨me_4, h_2, hP, hS, hl⟩ := hI
  refine lv_iload_n hx hb dX12_votesOfAll_4 rfl (lv_at hl 0 rfl) ?_
  refine lv_aload_n hx hb dX12_votesOfAll_5 rfl (lv_at hl 2 rfl) ?_
  refine va_get (D := D) (ci := 12) (v := .ref (a 201)) (C := RX12) (T := TX12) (N := 40) hx hb hts iX12 hown hK hP 0 rfl rfl 1 (by decide) (hts _ m_1344) (fun _ h9 => h9) rfl dX12_votesOfAll_6 ?_
  refine lv_bipush (v := 6) hx hb dX12_votesOfAll_9 (by decide) ?_
  refine va_iald hx hb hK hP 1 0 rfl rfl (in_rg (rg_c (x := 6) (k := 6) (by decide)) (by decide) (by decide)) dX12_votesOfAll_11 ?_
  refine x_seti (f201 6) rfl ?_
  have h_5 : rg 0 9 (f201 6) := q201 6 (by decide)
  refine lv_icmp_ge (tgt := 44) hx hb dX12_votesOfAll_12 (by decide) (fun c_6 => ?_) (fun c_6 => ?_)
  · skip
    refine lv_iload_n hx hb dX12_votesOfAll_44 rfl (lv_at hl 1 rfl) ?_
    exact W.iret (v := (y_1.1 1)) hx hb hr (fun t9 ht hW => ⟨⟨(y_1.1 1), (), rfl, trivial, trivial⟩, hS.F ht⟩) hS.2.2 dX12_votesOfAll_45
  · skip
    have h_7 : rg 0 8 (y_1.1 0) := ⟨(h_2).1, Int.le_trans (c_nleR c_6 h_5) (by decide)⟩
    have h_8 : rg 1 9 (f201 6) := ⟨Int.le_trans (by decide) (c_nle c_6 h_2), (h_5).2⟩
    refine lv_iload_n hx hb dX12_votesOfAll_15 rfl (lv_at hl 1 rfl) ?_
    refine lv_aload_n hx hb dX12_votesOfAll_16 rfl (lv_at hl 2 rfl) ?_
    refine va_get (D := D) (ci := 12) (v := .ref (a 207)) (C := RX12) (T := TX12) (N := 40) hx hb hts iX12 hown hK hP 0 rfl rfl 16 (by decide) (hts _ m_1359) (fun _ h9 => h9) rfl dX12_votesOfAll_17 ?_
    refine lv_iload_n hx hb dX12_votesOfAll_20 rfl (lv_at hl 0 rfl) ?_
    refine va_iald hx hb hK hP 2 0 rfl rfl (in_rg h_7 (by decide) (by decide)) dX12_votesOfAll_21 ?_
    refine lv_topi (fun x_9 ex_9 => ?_)
    refine lv_iload_n hx hb dX12_votesOfAll_22 rfl (lv_at hl 3 rfl) ?_
    refine lv_icmp_ne (tgt := 35) hx hb dX12_votesOfAll_23 (by decide) (fun c_10 => ?_) (fun c_10 => ?_)
    · skip
      refine lv_iconst (v := 0) hx hb dX12_votesOfAll_35 (by decide) ?_
      refine lv_iadd hx hb dX12_votesOfAll_36 ?_
      refine lv_topi (fun x_11 ex_11 => ?_)
      refine lv_istore_n (lv' := [(2, .int x_11), (3, .int (y_1.1 0)), (0, .ref (a 200)), (1, .int p0)]) hx hb dX12_votesOfAll_37 rfl hl (by decide) rfl (fun ls hl => ?_)
      obtain ⟨x_12, ex_12⟩ : ∃ y9 : Int32, y9 = (y_1.1 0) + 1 := ⟨_, rfl⟩
      have hx_12 : rg 1 9 x_12 := by rw [ex_12]; exact rg_add h_7 (rg_c (x := 1) (k := 1) (by decide)) (by decide) (by decide) (by decide) (by decide)
      have tx_12 : x_12.toInt = (y_1.1 0).toInt + 1 := by rw [ex_12]; exact inc_tk h_7 (by decide) (by decide) (by decide)
      refine lv_iinc (v := x_12) (lv' := [(3, .int x_12), (2, .int x_11), (0, .ref (a 200)), (1, .int p0)]) hx hb dX12_votesOfAll_38 hl (k := 1) rfl (by rw [ex_12]; rfl) (by decide) rfl (fun ls hl => ?_)
      refine lv_goto (tgt := 4) hx hb dX12_votesOfAll_41 (by decide) ?_
      exact ih_3 (fun k => [x_12, x_11].getD k 0, fun k => [].getD k (fun _ => 0), fun k => [].getD k (fun _ => 0), fun k => [].getD k 0) _ _ ls ⟨(m_upk me_4 tx_12 (by decide)), (rg_w (c := 0) (d := 9) hx_12 (by decide) (by decide)), hP, hS, (lv_sub hl [0, 1, 2, 3] rfl)⟩
    · skip
      refine lv_aload_n hx hb dX12_votesOfAll_26 rfl (lv_at hl 2 rfl) ?_
      refine lv_iload_n hx hb dX12_votesOfAll_27 rfl (lv_at hl 0 rfl) ?_
      refine lv_iconst (v := 1) hx hb dX12_votesOfAll_28 (by decide) ?_
      refine y_pV hF (s_ofSpeaker1 l D t a v200_0 v200_5 v200_7 v200_8 v200_9 v200_10 v200_11 v200_12 v200_13 v200_15 v200_17 v200_18 v200_19 v200_21 v200_23 v200_27 v200_28 v200_29 v200_33 v200_34 v200_35 f201 (y_1.1 0) 1 r200_5 r200_7 r200_8 r200_9 r200_23 q201 h_7 (rg_c (x := 1) (k := 1) (by decide))) m_1628 m_1630 m_s60 m_13 m_1631 hd_X12_ofSpeaker ⟨Nat.le_of_ble_eq_true rfl, Nat.le_of_ble_eq_true rfl⟩ hK hN hP hS [0, 1] rfl 0 (ci := 12) rfl rfl rfl hl.1 rfl (Nat.le_of_ble_eq_true rfl) dX12_votesOfAll_29 ⟨Nat.zero_le _, Nat.zero_le _⟩ (fun r_13 H locs hr_13 hP hS => ?_)
      refine lv_goto (tgt := 36) hx hb dX12_votesOfAll_32 (by decide) ?_
      refine lv_iadd hx hb dX12_votesOfAll_36 ?_
      refine lv_topi (fun x_14 ex_14 => ?_)
      refine lv_istore_n (lv' := [(2, .int x_14), (3, .int (y_1.1 0)), (0, .ref (a 200)), (1, .int p0)]) hx hb dX12_votesOfAll_37 rfl hl (by decide) rfl (fun ls hl => ?_)
      obtain ⟨x_15, ex_15⟩ : ∃ y9 : Int32, y9 = (y_1.1 0) + 1 := ⟨_, rfl⟩
      have hx_15 : rg 1 9 x_15 := by rw [ex_15]; exact rg_add h_7 (rg_c (x := 1) (k := 1) (by decide)) (by decide) (by decide) (by decide) (by decide)
      have tx_15 : x_15.toInt = (y_1.1 0).toInt + 1 := by rw [ex_15]; exact inc_tk h_7 (by decide) (by decide) (by decide)
      refine lv_iinc (v := x_15) (lv' := [(3, .int x_15), (2, .int x_14), (0, .ref (a 200)), (1, .int p0)]) hx hb dX12_votesOfAll_38 hl (k := 1) rfl (by rw [ex_15]; rfl) (by decide) rfl (fun ls hl => ?_)
      refine lv_goto (tgt := 4) hx hb dX12_votesOfAll_41 (by decide) ?_
      exact ih_3 (fun k => [x_15, x_14].getD k 0, fun k => [].getD k (fun _ => 0), fun k => [].getD k (fun _ => 0), fun k => [].getD k 0) _ _ ls ⟨(m_upk me_4 tx_15 (by decide)), (rg_w (c := 0) (d := 9) hx_15 (by decide) (by decide)), hP, hS, (lv_sub hl [0, 1, 2, 3] rfl)⟩

set_option maxHeartbeats 4000000 in
set_option maxRecDepth 100000 in
theorem s_X12_sitter (l : Launch) (D : va_G) (t : Nat → ClassId) (a : Nat → Nat) (v200_0 : Int32) (v200_5 : Int32) (v200_7 : Int32) (v200_8 : Int32) (v200_9 : Int32) (v200_10 : Int32) (v200_11 : Int32) (v200_12 : Int32) (v200_13 : Int32) (v200_15 : Int32) (v200_17 : Int32) (v200_18 : Int32) (v200_19 : Int32) (v200_21 : Int32) (v200_23 : Int32) (v200_27 : Int32) (v200_28 : Int32) (v200_29 : Int32) (v200_33 : Int32) (v200_34 : Int32) (v200_35 : Int32) (f201 : Nat → Int32) (f207 : Nat → Int32) (f208 : Nat → Int32) (f209 : Nat → Int32) (p0 : Int32) (p1 : Int32) (r200_5 : rg 0 1600 v200_5) (r200_7 : rg 0 1600 v200_7) (r200_8 : rg 0 1600 v200_8) (r200_9 : rg 0 1600 v200_9) (r200_23 : rg 0 9 v200_23) (q201 : wR f201) (sz : Nat) : Met l yX12_sitter (wd yX12_sitter cX12_sitter 4 (some .int)) (RM 7 0 0) (PreW D (TY t) [.ref (a 200), .int p0, .int p1] [(a 200, .inr (12, [.int v200_0, .ref (a 201), .ref (a 202), .ref (a 203), .ref (a 204), .int v200_5, .ref (a 205), .int v200_7, .int v200_8, .int v200_9, .int v200_10, .int v200_11, .int v200_12, .int v200_13, .ref (a 206), .int v200_15, .ref (a 207), .int v200_17, .int v200_18, .int v200_19, .ref (a 208), .int v200_21, .ref (a 209), .int v200_23, .ref (a 210), .ref (a 211), .ref (a 212), .int v200_27, .int v200_28, .int v200_29, .ref (a 213), .ref (a 214), .ref (a 215), .int v200_33, .int v200_34, .int v200_35, .ref (a 216), .ref (a 217), .ref (a 218), .ref (a 219)])), (a 201, .inl (t 0, 841, .inl f201)), (a 207, .inl (t 0, 9, .inl f207)), (a 208, .inl (t 0, 9, .inl f208)), (a 209, .inl (t 0, 9, .inl f209))] sz) (va_Qi (fun (r : Int32) (u : US) => rg (-1) 8 r ∧ rg 0 9 (u.1 1)) (fun (u : US) t9 => va_P D classes ((fun u : US => [(a 200, .inr (12, [.int v200_0, .ref (a 201), .ref (a 202), .ref (a 203), .ref (a 204), .int v200_5, .ref (a 205), .int v200_7, .int v200_8, .int v200_9, .int v200_10, .int v200_11, .int v200_12, .int v200_13, .ref (a 206), .int v200_15, .ref (a 207), .int v200_17, .int v200_18, .int v200_19, .ref (a 208), .int (u.1 0), .ref (a 209), .int (u.1 1), .ref (a 210), .ref (a 211), .ref (a 212), .int v200_27, .int v200_28, .int v200_29, .ref (a 213), .ref (a 214), .ref (a 215), .int v200_33, .int v200_34, .int v200_35, .ref (a 216), .ref (a 217), .ref (a 218), .ref (a 219)])), (a 201, .inl (t 0, 841, .inl f201)), (a 207, .inl (t 0, 9, .inl f207)), (a 208, .inl (t 0, 9, .inl (u.2.1 0))), (a 209, .inl (t 0, 9, .inl (u.2.1 1)))]) u) t9.heap ∧ va_D (va_A [(a 200, .inr (12, [.int v200_0, .ref (a 201), .ref (a 202), .ref (a 203), .ref (a 204), .int v200_5, .ref (a 205), .int v200_7, .int v200_8, .int v200_9, .int v200_10, .int v200_11, .int v200_12, .int v200_13, .ref (a 206), .int v200_15, .ref (a 207), .int v200_17, .int v200_18, .int v200_19, .ref (a 208), .int v200_21, .ref (a 209), .int v200_23, .ref (a 210), .ref (a 211), .ref (a 212), .int v200_27, .int v200_28, .int v200_29, .ref (a 213), .ref (a 214), .ref (a 215), .int v200_33, .int v200_34, .int v200_35, .ref (a 216), .ref (a 217), .ref (a 218), .ref (a 219)])), (a 201, .inl (t 0, 841, .inl f201)), (a 207, .inl (t 0, 9, .inl f207)), (a 208, .inl (t 0, 9, .inl f208)), (a 209, .inl (t 0, 9, .inl f209))] sz) ((fun u : US => [(a 200, .inr (12, [.int v200_0, .ref (a 201), .ref (a 202), .ref (a 203), .ref (a 204), .int v200_5, .ref (a 205), .int v200_7, .int v200_8, .int v200_9, .int v200_10, .int v200_11, .int v200_12, .int v200_13, .ref (a 206), .int v200_15, .ref (a 207), .int v200_17, .int v200_18, .int v200_19, .ref (a 208), .int (u.1 0), .ref (a 209), .int (u.1 1), .ref (a 210), .ref (a 211), .ref (a 212), .int v200_27, .int v200_28, .int v200_29, .ref (a 213), .ref (a 214), .ref (a 215), .int v200_33, .int v200_34, .int v200_35, .ref (a 216), .ref (a 217), .ref (a 218), .ref (a 219)])), (a 201, .inl (t 0, 841, .inl f201)), (a 207, .inl (t 0, 9, .inl f207)), (a 208, .inl (t 0, 9, .inl (u.2.1 0))), (a 209, .inl (t 0, 9, .inl (u.2.1 1)))]) u)) (va_A [(a 200, .inr (12, [.int v200_0, .ref (a 201), .ref (a 202), .ref (a 203), .ref (a 204), .int v200_5, .ref (a 205), .int v200_7, .int v200_8, .int v200_9, .int v200_10, .int v200_11, .int v200_12, .int v200_13, .ref (a 206), .int v200_15, .ref (a 207), .int v200_17, .int v200_18, .int v200_19, .ref (a 208), .int v200_21, .ref (a 209), .int v200_23, .ref (a 210), .ref (a 211), .ref (a 212), .int v200_27, .int v200_28, .int v200_29, .ref (a 213), .ref (a 214), .ref (a 215), .int v200_33, .int v200_34, .int v200_35, .ref (a 216), .ref (a 217), .ref (a 218), .ref (a 219)])), (a 201, .inl (t 0, 841, .inl f201)), (a 207, .inl (t 0, 9, .inl f207)), (a 208, .inl (t 0, 9, .inl f208)), (a 209, .inl (t 0, 9, .inl f209))] sz)) 0 0 (va_A [(a 200, .inr (12, [.int v200_0, .ref (a 201), .ref (a 202), .ref (a 203), .ref (a 204), .int v200_5, .ref (a 205), .int v200_7, .int v200_8, .int v200_9, .int v200_10, .int v200_11, .int v200_12, .int v200_13, .ref (a 206), .int v200_15, .ref (a 207), .int v200_17, .int v200_18, .int v200_19, .ref (a 208), .int v200_21, .ref (a 209), .int v200_23, .ref (a 210), .ref (a 211), .ref (a 212), .int v200_27, .int v200_28, .int v200_29, .ref (a 213), .ref (a 214), .ref (a 215), .int v200_33, .int v200_34, .int v200_35, .ref (a 216), .ref (a 217), .ref (a 218), .ref (a 219)])), (a 201, .inl (t 0, 841, .inl f201)), (a 207, .inl (t 0, 9, .inl f207)), (a 208, .inl (t 0, 9, .inl f208)), (a 209, .inl (t 0, 9, .inl f209))] sz) := by
  refine Met.ofW (cc := cX12_sitter) (maxL := 4) (ret := (some .int)) (by decide) rfl ?_
  intro p e s m args below meth c s₁ B hml hv
  obtain ⟨rfl, hsz, hP, hK, hD0, hN⟩ := hv
  have hx := B.exec
  have hb := B.bytes
  have hr := B.returns
  have hts : ∀ w ∈ TB, w.before _ s = true := fun w h => atoms_spec (ws := wd yX12_sitter cX12_sitter 4 (some .int)) B.pre w (List.mem_cons_of_mem _ h)
  have hown : s.vm.findClass RX12 = some m.cls := findClass_of_methodNamed B.named
  have hlocks := B.notSynchronized
  have hF : CallFix p m c cX12_sitter 4 s _ TB RX12 := ⟨hx, hb, hml, hown, hts⟩
  have hl := lv_entry ([.ref (a 200), .int p0, .int p1]) (n := 4) (Nat.le_of_ble_eq_true rfl)
  rw [lg_entry_eq]
  generalize (lg_sl ([.ref (a 200), .int p0, .int p1]) ++ List.replicate (4 - (lg_sl ([.ref (a 200), .int p0, .int p1])).length) Slot.unset).toArray = ls at hl ⊢
  have hl : lv_has ls 4 [(0, .ref (a 200)), (1, .int p0), (2, .int p1)] := hl
  subst hsz
  have hD := hD0.self (sz := s.heap.size)
  generalize hAe : va_A [(a 200, .inr (12, [.int v200_0, .ref (a 201), .ref (a 202), .ref (a 203), .ref (a 204), .int v200_5, .ref (a 205), .int v200_7, .int v200_8, .int v200_9, .int v200_10, .int v200_11, .int v200_12, .int v200_13, .ref (a 206), .int v200_15, .ref (a 207), .int v200_17, .int v200_18, .int v200_19, .ref (a 208), .int v200_21, .ref (a 209), .int v200_23, .ref (a 210), .ref (a 211), .ref (a 212), .int v200_27, .int v200_28, .int v200_29, .ref (a 213), .ref (a 214), .ref (a 215), .int v200_33, .int v200_34, .int v200_35, .ref (a 216), .ref (a 217), .ref (a 218), .ref (a 219)])), (a 201, .inl (t 0, 841, .inl f201)), (a 207, .inl (t 0, 9, .inl f207)), (a 208, .inl (t 0, 9, .inl f208)), (a 209, .inl (t 0, 9, .inl f209))] s.heap.size = A at hD ⊢
  have hA : ∀ q : Nat, s.heap.size ≤ q → A q := fun q h => by rw [← hAe]; exact Or.inr h
  have hS : va_S A s.heap s.heap [] := va_S.rf
  have hP : va_P D classes [(a 200, .inr (12, [.int v200_0, .ref (a 201), .ref (a 202), .ref (a 203), .ref (a 204), .int v200_5, .ref (a 205), .int v200_7, .int v200_8, .int v200_9, .int v200_10, .int v200_11, .int v200_12, .int v200_13, .ref (a 206), .int v200_15, .ref (a 207), .int v200_17, .int v200_18, .int v200_19, .ref (a 208), .int v200_21, .ref (a 209), .int v200_23, .ref (a 210), .ref (a 211), .ref (a 212), .int v200_27, .int v200_28, .int v200_29, .ref (a 213), .ref (a 214), .ref (a 215), .int v200_33, .int v200_34, .int v200_35, .ref (a 216), .ref (a 217), .ref (a 218), .ref (a 219)])), (a 201, .inl (t 0, 841, .inl f201)), (a 207, .inl (t 0, 9, .inl f207)), (a 208, .inl (t 0, 9, .inl f208)), (a 209, .inl (t 0, 9, .inl f209))] s.heap := hP
  refine lv_aload_n hx hb dX12_sitter_0 rfl (lv_at hl 0 rfl) ?_
  refine lv_iload_n hx hb dX12_sitter_1 rfl (lv_at hl 1 rfl) ?_
  refine lv_iload_n hx hb dX12_sitter_2 rfl (lv_at hl 2 rfl) ?_
  refine y_wVi (wr := []) hF (s_X12_winner l D t a v200_0 v200_5 v200_7 v200_8 v200_9 v200_10 v200_11 v200_12 v200_13 v200_15 v200_17 v200_18 v200_19 v200_21 v200_23 v200_27 v200_28 v200_29 v200_33 v200_34 v200_35 f201 f207 f208 f209 p0 p1 r200_5 r200_7 r200_8 r200_9 r200_23 q201 s.heap.size) m_1714 m_1716 m_s74 m_13 m_1717 hd_X12_winner ⟨Nat.le_of_ble_eq_true rfl, Nat.le_of_ble_eq_true rfl⟩ hK hN hP hD hS hA 0 (ci := 12) rfl rfl rfl [0, 1, 2, 3, 4] [] rfl rfl (by decide) (by decide) (by decide) hl.1 rfl (Nat.le_of_ble_eq_true rfl) dX12_sitter_3 ⟨Nat.zero_le _, Nat.zero_le _⟩ (fun r_2 u_1 H locs hu_1 hP hD hS => ?_)
  obtain ⟨hr_2, h_3⟩ := hu_1
  have hP : va_P D classes [(a 200, .inr (12, [.int v200_0, .ref (a 201), .ref (a 202), .ref (a 203), .ref (a 204), .int v200_5, .ref (a 205), .int v200_7, .int v200_8, .int v200_9, .int v200_10, .int v200_11, .int v200_12, .int v200_13, .ref (a 206), .int v200_15, .ref (a 207), .int v200_17, .int v200_18, .int v200_19, .ref (a 208), .int (u_1.1 0), .ref (a 209), .int (u_1.1 1), .ref (a 210), .ref (a 211), .ref (a 212), .int v200_27, .int v200_28, .int v200_29, .ref (a 213), .ref (a 214), .ref (a 215), .int v200_33, .int v200_34, .int v200_35, .ref (a 216), .ref (a 217), .ref (a 218), .ref (a 219)])), (a 201, .inl (t 0, 841, .inl f201)), (a 207, .inl (t 0, 9, .inl f207)), (a 208, .inl (t 0, 9, .inl (u_1.2.1 0))), (a 209, .inl (t 0, 9, .inl (u_1.2.1 1)))] H := hP
  have hD : va_D A [(a 200, .inr (12, [.int v200_0, .ref (a 201), .ref (a 202), .ref (a 203), .ref (a 204), .int v200_5, .ref (a 205), .int v200_7, .int v200_8, .int v200_9, .int v200_10, .int v200_11, .int v200_12, .int v200_13, .ref (a 206), .int v200_15, .ref (a 207), .int v200_17, .int v200_18, .int v200_19, .ref (a 208), .int (u_1.1 0), .ref (a 209), .int (u_1.1 1), .ref (a 210), .ref (a 211), .ref (a 212), .int v200_27, .int v200_28, .int v200_29, .ref (a 213), .ref (a 214), .ref (a 215), .int v200_33, .int v200_34, .int v200_35, .ref (a 216), .ref (a 217), .ref (a 218), .ref (a 219)])), (a 201, .inl (t 0, 841, .inl f201)), (a 207, .inl (t 0, 9, .inl f207)), (a 208, .inl (t 0, 9, .inl (u_1.2.1 0))), (a 209, .inl (t 0, 9, .inl (u_1.2.1 1)))] := hD
  refine lv_istore_n (lv' := [(3, .int r_2), (0, .ref (a 200)), (1, .int p0), (2, .int p1)]) hx hb dX12_sitter_6 rfl hl (by decide) rfl (fun ls hl => ?_)
  refine lv_iload_n hx hb dX12_sitter_7 rfl (lv_at hl 0 rfl) ?_
  refine lv_iconst (v := (-1)) hx hb dX12_sitter_8 (by decide) ?_
  refine lv_icmp_eq (tgt := 36) hx hb dX12_sitter_9 (by decide) (fun c_4 => ?_) (fun c_4 => ?_)
  · skip
    have h_5 : rg (-1) (-1) r_2 := rg_eq c_4 (rg_c (x := (-1)) (k := (-1)) (by decide))
    refine lv_iconst (v := (-1)) hx hb dX12_sitter_36 (by decide) ?_
    refine lv_goto (tgt := 41) hx hb dX12_sitter_37 (by decide) ?_
    have hP9 := hP.sub (ws' := [(a 200, .inr (12, [.int v200_0, .ref (a 201), .ref (a 202), .ref (a 203), .ref (a 204), .int v200_5, .ref (a 205), .int v200_7, .int v200_8, .int v200_9, .int v200_10, .int v200_11, .int v200_12, .int v200_13, .ref (a 206), .int v200_15, .ref (a 207), .int v200_17, .int v200_18, .int v200_19, .ref (a 208), .int (u_1.1 0), .ref (a 209), .int (u_1.1 1), .ref (a 210), .ref (a 211), .ref (a 212), .int v200_27, .int v200_28, .int v200_29, .ref (a 213), .ref (a 214), .ref (a 215), .int v200_33, .int v200_34, .int v200_35, .ref (a 216), .ref (a 217), .ref (a 218), .ref (a 219)])), (a 201, .inl (t 0, 841, .inl f201)), (a 207, .inl (t 0, 9, .inl f207)), (a 208, .inl (t 0, 9, .inl (u_1.2.1 0))), (a 209, .inl (t 0, 9, .inl (u_1.2.1 1)))]) [0, 1, 2, 3, 4] rfl
    have hD9 := hD.sub (ws' := [(a 200, .inr (12, [.int v200_0, .ref (a 201), .ref (a 202), .ref (a 203), .ref (a 204), .int v200_5, .ref (a 205), .int v200_7, .int v200_8, .int v200_9, .int v200_10, .int v200_11, .int v200_12, .int v200_13, .ref (a 206), .int v200_15, .ref (a 207), .int v200_17, .int v200_18, .int v200_19, .ref (a 208), .int (u_1.1 0), .ref (a 209), .int (u_1.1 1), .ref (a 210), .ref (a 211), .ref (a 212), .int v200_27, .int v200_28, .int v200_29, .ref (a 213), .ref (a 214), .ref (a 215), .int v200_33, .int v200_34, .int v200_35, .ref (a 216), .ref (a 217), .ref (a 218), .ref (a 219)])), (a 201, .inl (t 0, 841, .inl f201)), (a 207, .inl (t 0, 9, .inl f207)), (a 208, .inl (t 0, 9, .inl (u_1.2.1 0))), (a 209, .inl (t 0, 9, .inl (u_1.2.1 1)))]) [0, 1, 2, 3, 4] (by decide) rfl
    exact W.iret (v := (-1)) hx hb hr (fun t9 ht hW => ⟨⟨(-1), (fun k => [(u_1.1 0), (u_1.1 1)].getD k 0, fun k => [(u_1.2.1 0), (u_1.2.1 1)].getD k (fun _ => 0), fun k => [].getD k (fun _ => 0), fun _ => 0), rfl, ⟨(rg_w (c := (-1)) (d := 8) (rg_c (x := (-1)) (k := (-1)) (by decide)) (by decide) (by decide)), h_3⟩, by rw [ht]; exact hP9, hD9⟩, hS.F ht⟩) hS.2.2 dX12_sitter_41
  · skip
    have h_6 : rg 0 8 r_2 := rg_w (rg_neL hr_2 c_4 (by decide)) (by decide) (by decide)
    refine lv_bipush (v := 100) hx hb dX12_sitter_12 (by decide) ?_
    refine lv_aload_n hx hb dX12_sitter_14 rfl (lv_at hl 1 rfl) ?_
    refine va_get (D := D) (ci := 12) (v := .ref (a 208)) (C := RX12) (T := TX12) (N := 40) hx hb hts iX12 hown hK hP 0 rfl rfl 20 (by decide) (hts _ m_1363) (fun _ h9 => h9) rfl dX12_sitter_15 ?_
    refine lv_iload_n hx hb dX12_sitter_18 rfl (lv_at hl 0 rfl) ?_
    refine va_iald hx hb hK hP 3 0 rfl rfl (in_rg h_6 (by decide) (by decide)) dX12_sitter_19 ?_
    refine lv_topi (fun x_7 ex_7 => ?_)
    refine lv_imul hx hb dX12_sitter_20 ?_
    refine lv_topi (fun x_8 ex_8 => ?_)
    refine lv_aload_n hx hb dX12_sitter_21 rfl (lv_at hl 1 rfl) ?_
    refine va_get (D := D) (ci := 12) (v := .ref (a 201)) (C := RX12) (T := TX12) (N := 40) hx hb hts iX12 hown hK hP 0 rfl rfl 1 (by decide) (hts _ m_1344) (fun _ h9 => h9) rfl dX12_sitter_22 ?_
    refine lv_iconst (v := 2) hx hb dX12_sitter_25 (by decide) ?_
    refine va_iald hx hb hK hP 1 0 rfl rfl (in_rg (rg_c (x := 2) (k := 2) (by decide)) (by decide) (by decide)) dX12_sitter_26 ?_
    refine x_seti (f201 2) rfl ?_
    refine lv_aload_n hx hb dX12_sitter_27 rfl (lv_at hl 1 rfl) ?_
    refine lv_iload_n hx hb dX12_sitter_28 rfl (lv_at hl 2 rfl) ?_
    refine y_pV hF (s_X12_votesOfAll l D t a v200_0 v200_5 v200_7 v200_8 v200_9 v200_10 v200_11 v200_12 v200_13 v200_15 v200_17 v200_18 v200_19 (u_1.1 0) (u_1.1 1) v200_27 v200_28 v200_29 v200_33 v200_34 v200_35 f201 f207 p0 r200_5 r200_7 r200_8 r200_9 h_3 q201) m_1656 m_1658 m_s66 m_13 m_1659 hd_X12_votesOfAll ⟨Nat.le_of_ble_eq_true rfl, Nat.le_of_ble_eq_true rfl⟩ hK hN hP hS [0, 1, 2] rfl 0 (ci := 12) rfl rfl rfl hl.1 rfl (Nat.le_of_ble_eq_true rfl) dX12_sitter_29 ⟨Nat.zero_le _, Nat.zero_le _⟩ (fun r_9 H locs hr_9 hP hS => ?_)
    refine lv_imul hx hb dX12_sitter_32 ?_
    refine lv_topi (fun x_10 ex_10 => ?_)
    refine lv_icmp_ge (tgt := 40) hx hb dX12_sitter_33 (by decide) (fun c_11 => ?_) (fun c_11 => ?_)
    · skip
      refine lv_iload_n hx hb dX12_sitter_40 rfl (lv_at hl 0 rfl) ?_
      have hP9 := hP.sub (ws' := [(a 200, .inr (12, [.int v200_0, .ref (a 201), .ref (a 202), .ref (a 203), .ref (a 204), .int v200_5, .ref (a 205), .int v200_7, .int v200_8, .int v200_9, .int v200_10, .int v200_11, .int v200_12, .int v200_13, .ref (a 206), .int v200_15, .ref (a 207), .int v200_17, .int v200_18, .int v200_19, .ref (a 208), .int (u_1.1 0), .ref (a 209), .int (u_1.1 1), .ref (a 210), .ref (a 211), .ref (a 212), .int v200_27, .int v200_28, .int v200_29, .ref (a 213), .ref (a 214), .ref (a 215), .int v200_33, .int v200_34, .int v200_35, .ref (a 216), .ref (a 217), .ref (a 218), .ref (a 219)])), (a 201, .inl (t 0, 841, .inl f201)), (a 207, .inl (t 0, 9, .inl f207)), (a 208, .inl (t 0, 9, .inl (u_1.2.1 0))), (a 209, .inl (t 0, 9, .inl (u_1.2.1 1)))]) [0, 1, 2, 3, 4] rfl
      have hD9 := hD.sub (ws' := [(a 200, .inr (12, [.int v200_0, .ref (a 201), .ref (a 202), .ref (a 203), .ref (a 204), .int v200_5, .ref (a 205), .int v200_7, .int v200_8, .int v200_9, .int v200_10, .int v200_11, .int v200_12, .int v200_13, .ref (a 206), .int v200_15, .ref (a 207), .int v200_17, .int v200_18, .int v200_19, .ref (a 208), .int (u_1.1 0), .ref (a 209), .int (u_1.1 1), .ref (a 210), .ref (a 211), .ref (a 212), .int v200_27, .int v200_28, .int v200_29, .ref (a 213), .ref (a 214), .ref (a 215), .int v200_33, .int v200_34, .int v200_35, .ref (a 216), .ref (a 217), .ref (a 218), .ref (a 219)])), (a 201, .inl (t 0, 841, .inl f201)), (a 207, .inl (t 0, 9, .inl f207)), (a 208, .inl (t 0, 9, .inl (u_1.2.1 0))), (a 209, .inl (t 0, 9, .inl (u_1.2.1 1)))]) [0, 1, 2, 3, 4] (by decide) rfl
      exact W.iret (v := r_2) hx hb hr (fun t9 ht hW => ⟨⟨r_2, (fun k => [(u_1.1 0), (u_1.1 1)].getD k 0, fun k => [(u_1.2.1 0), (u_1.2.1 1)].getD k (fun _ => 0), fun k => [].getD k (fun _ => 0), fun _ => 0), rfl, ⟨(rg_w (c := (-1)) (d := 8) h_6 (by decide) (by decide)), h_3⟩, by rw [ht]; exact hP9, hD9⟩, hS.F ht⟩) hS.2.2 dX12_sitter_41
    · skip
      have h_12 : rg (-2147483648) 2147483646 x_8 := ⟨((rg_any x_8)).1, Int.le_trans (c_nleR c_11 (rg_any x_10)) (by decide)⟩
      have h_13 : rg (-2147483647) 2147483647 x_10 := ⟨Int.le_trans (by decide) (c_nle c_11 (rg_any x_8)), ((rg_any x_10)).2⟩
      refine lv_iconst (v := (-1)) hx hb dX12_sitter_36 (by decide) ?_
      refine lv_goto (tgt := 41) hx hb dX12_sitter_37 (by decide) ?_
      have hP9 := hP.sub (ws' := [(a 200, .inr (12, [.int v200_0, .ref (a 201), .ref (a 202), .ref (a 203), .ref (a 204), .int v200_5, .ref (a 205), .int v200_7, .int v200_8, .int v200_9, .int v200_10, .int v200_11, .int v200_12, .int v200_13, .ref (a 206), .int v200_15, .ref (a 207), .int v200_17, .int v200_18, .int v200_19, .ref (a 208), .int (u_1.1 0), .ref (a 209), .int (u_1.1 1), .ref (a 210), .ref (a 211), .ref (a 212), .int v200_27, .int v200_28, .int v200_29, .ref (a 213), .ref (a 214), .ref (a 215), .int v200_33, .int v200_34, .int v200_35, .ref (a 216), .ref (a 217), .ref (a 218), .ref (a 219)])), (a 201, .inl (t 0, 841, .inl f201)), (a 207, .inl (t 0, 9, .inl f207)), (a 208, .inl (t 0, 9, .inl (u_1.2.1 0))), (a 209, .inl (t 0, 9, .inl (u_1.2.1 1)))]) [0, 1, 2, 3, 4] rfl
      have hD9 := hD.sub (ws' := [(a 200, .inr (12, [.int v200_0, .ref (a 201), .ref (a 202), .ref (a 203), .ref (a 204), .int v200_5, .ref (a 205), .int v200_7, .int v200_8, .int v200_9, .int v200_10, .int v200_11, .int v200_12, .int v200_13, .ref (a 206), .int v200_15, .ref (a 207), .int v200_17, .int v200_18, .int v200_19, .ref (a 208), .int (u_1.1 0), .ref (a 209), .int (u_1.1 1), .ref (a 210), .ref (a 211), .ref (a 212), .int v200_27, .int v200_28, .int v200_29, .ref (a 213), .ref (a 214), .ref (a 215), .int v200_33, .int v200_34, .int v200_35, .ref (a 216), .ref (a 217), .ref (a 218), .ref (a 219)])), (a 201, .inl (t 0, 841, .inl f201)), (a 207, .inl (t 0, 9, .inl f207)), (a 208, .inl (t 0, 9, .inl (u_1.2.1 0))), (a 209, .inl (t 0, 9, .inl (u_1.2.1 1)))]) [0, 1, 2, 3, 4] (by decide) rfl
      exact W.iret (v := (-1)) hx hb hr (fun t9 ht hW => ⟨⟨(-1), (fun k => [(u_1.1 0), (u_1.1 1)].getD k 0, fun k => [(u_1.2.1 0), (u_1.2.1 1)].getD k (fun _ => 0), fun k => [].getD k (fun _ => 0), fun _ => 0), rfl, ⟨(rg_w (c := (-1)) (d := 8) (rg_c (x := (-1)) (k := (-1)) (by decide)) (by decide) (by decide)), h_3⟩, by rw [ht]; exact hP9, hD9⟩, hS.F ht⟩) hS.2.2 dX12_sitter_41

set_option maxHeartbeats 4000000 in
set_option maxRecDepth 100000 in
theorem s_X12_electedNow (l : Launch) (D : va_G) (t : Nat → ClassId) (a : Nat → Nat) (v200_0 : Int32) (v200_5 : Int32) (v200_7 : Int32) (v200_8 : Int32) (v200_9 : Int32) (v200_10 : Int32) (v200_11 : Int32) (v200_12 : Int32) (v200_13 : Int32) (v200_15 : Int32) (v200_17 : Int32) (v200_18 : Int32) (v200_19 : Int32) (v200_21 : Int32) (v200_23 : Int32) (v200_27 : Int32) (v200_28 : Int32) (v200_29 : Int32) (v200_33 : Int32) (v200_34 : Int32) (v200_35 : Int32) (f201 : Nat → Int32) (f207 : Nat → Int32) (f208 : Nat → Int32) (f209 : Nat → Int32) (r200_5 : rg 0 1600 v200_5) (r200_7 : rg 0 1600 v200_7) (r200_8 : rg 0 1600 v200_8) (r200_9 : rg 0 1600 v200_9) (r200_23 : rg 0 9 v200_23) (q201 : wR f201) (sz : Nat) : Met l yX12_electedNow (wd yX12_electedNow cX12_electedNow 4 (some .int)) (RM 8 0 0) (PreW D (TY t) [.ref (a 200)] [(a 200, .inr (12, [.int v200_0, .ref (a 201), .ref (a 202), .ref (a 203), .ref (a 204), .int v200_5, .ref (a 205), .int v200_7, .int v200_8, .int v200_9, .int v200_10, .int v200_11, .int v200_12, .int v200_13, .ref (a 206), .int v200_15, .ref (a 207), .int v200_17, .int v200_18, .int v200_19, .ref (a 208), .int v200_21, .ref (a 209), .int v200_23, .ref (a 210), .ref (a 211), .ref (a 212), .int v200_27, .int v200_28, .int v200_29, .ref (a 213), .ref (a 214), .ref (a 215), .int v200_33, .int v200_34, .int v200_35, .ref (a 216), .ref (a 217), .ref (a 218), .ref (a 219)])), (a 201, .inl (t 0, 841, .inl f201)), (a 207, .inl (t 0, 9, .inl f207)), (a 208, .inl (t 0, 9, .inl f208)), (a 209, .inl (t 0, 9, .inl f209))] sz) (va_Qi (fun (r : Int32) (u : US) => rg 0 511 r ∧ rg 0 9 (u.1 1)) (fun (u : US) t9 => va_P D classes ((fun u : US => [(a 200, .inr (12, [.int v200_0, .ref (a 201), .ref (a 202), .ref (a 203), .ref (a 204), .int v200_5, .ref (a 205), .int v200_7, .int v200_8, .int v200_9, .int v200_10, .int v200_11, .int v200_12, .int v200_13, .ref (a 206), .int v200_15, .ref (a 207), .int v200_17, .int v200_18, .int v200_19, .ref (a 208), .int (u.1 0), .ref (a 209), .int (u.1 1), .ref (a 210), .ref (a 211), .ref (a 212), .int v200_27, .int v200_28, .int v200_29, .ref (a 213), .ref (a 214), .ref (a 215), .int v200_33, .int v200_34, .int v200_35, .ref (a 216), .ref (a 217), .ref (a 218), .ref (a 219)])), (a 201, .inl (t 0, 841, .inl f201)), (a 207, .inl (t 0, 9, .inl f207)), (a 208, .inl (t 0, 9, .inl (u.2.1 0))), (a 209, .inl (t 0, 9, .inl (u.2.1 1)))]) u) t9.heap ∧ va_D (va_A [(a 200, .inr (12, [.int v200_0, .ref (a 201), .ref (a 202), .ref (a 203), .ref (a 204), .int v200_5, .ref (a 205), .int v200_7, .int v200_8, .int v200_9, .int v200_10, .int v200_11, .int v200_12, .int v200_13, .ref (a 206), .int v200_15, .ref (a 207), .int v200_17, .int v200_18, .int v200_19, .ref (a 208), .int v200_21, .ref (a 209), .int v200_23, .ref (a 210), .ref (a 211), .ref (a 212), .int v200_27, .int v200_28, .int v200_29, .ref (a 213), .ref (a 214), .ref (a 215), .int v200_33, .int v200_34, .int v200_35, .ref (a 216), .ref (a 217), .ref (a 218), .ref (a 219)])), (a 201, .inl (t 0, 841, .inl f201)), (a 207, .inl (t 0, 9, .inl f207)), (a 208, .inl (t 0, 9, .inl f208)), (a 209, .inl (t 0, 9, .inl f209))] sz) ((fun u : US => [(a 200, .inr (12, [.int v200_0, .ref (a 201), .ref (a 202), .ref (a 203), .ref (a 204), .int v200_5, .ref (a 205), .int v200_7, .int v200_8, .int v200_9, .int v200_10, .int v200_11, .int v200_12, .int v200_13, .ref (a 206), .int v200_15, .ref (a 207), .int v200_17, .int v200_18, .int v200_19, .ref (a 208), .int (u.1 0), .ref (a 209), .int (u.1 1), .ref (a 210), .ref (a 211), .ref (a 212), .int v200_27, .int v200_28, .int v200_29, .ref (a 213), .ref (a 214), .ref (a 215), .int v200_33, .int v200_34, .int v200_35, .ref (a 216), .ref (a 217), .ref (a 218), .ref (a 219)])), (a 201, .inl (t 0, 841, .inl f201)), (a 207, .inl (t 0, 9, .inl f207)), (a 208, .inl (t 0, 9, .inl (u.2.1 0))), (a 209, .inl (t 0, 9, .inl (u.2.1 1)))]) u)) (va_A [(a 200, .inr (12, [.int v200_0, .ref (a 201), .ref (a 202), .ref (a 203), .ref (a 204), .int v200_5, .ref (a 205), .int v200_7, .int v200_8, .int v200_9, .int v200_10, .int v200_11, .int v200_12, .int v200_13, .ref (a 206), .int v200_15, .ref (a 207), .int v200_17, .int v200_18, .int v200_19, .ref (a 208), .int v200_21, .ref (a 209), .int v200_23, .ref (a 210), .ref (a 211), .ref (a 212), .int v200_27, .int v200_28, .int v200_29, .ref (a 213), .ref (a 214), .ref (a 215), .int v200_33, .int v200_34, .int v200_35, .ref (a 216), .ref (a 217), .ref (a 218), .ref (a 219)])), (a 201, .inl (t 0, 841, .inl f201)), (a 207, .inl (t 0, 9, .inl f207)), (a 208, .inl (t 0, 9, .inl f208)), (a 209, .inl (t 0, 9, .inl f209))] sz)) 0 0 (va_A [(a 200, .inr (12, [.int v200_0, .ref (a 201), .ref (a 202), .ref (a 203), .ref (a 204), .int v200_5, .ref (a 205), .int v200_7, .int v200_8, .int v200_9, .int v200_10, .int v200_11, .int v200_12, .int v200_13, .ref (a 206), .int v200_15, .ref (a 207), .int v200_17, .int v200_18, .int v200_19, .ref (a 208), .int v200_21, .ref (a 209), .int v200_23, .ref (a 210), .ref (a 211), .ref (a 212), .int v200_27, .int v200_28, .int v200_29, .ref (a 213), .ref (a 214), .ref (a 215), .int v200_33, .int v200_34, .int v200_35, .ref (a 216), .ref (a 217), .ref (a 218), .ref (a 219)])), (a 201, .inl (t 0, 841, .inl f201)), (a 207, .inl (t 0, 9, .inl f207)), (a 208, .inl (t 0, 9, .inl f208)), (a 209, .inl (t 0, 9, .inl f209))] sz) := by
  refine Met.ofW (cc := cX12_electedNow) (maxL := 4) (ret := (some .int)) (by decide) rfl ?_
  intro p e s m args below meth c s₁ B hml hv
  obtain ⟨rfl, hsz, hP, hK, hD0, hN⟩ := hv
  have hx := B.exec
  have hb := B.bytes
  have hr := B.returns
  have hts : ∀ w ∈ TB, w.before _ s = true := fun w h => atoms_spec (ws := wd yX12_electedNow cX12_electedNow 4 (some .int)) B.pre w (List.mem_cons_of_mem _ h)
  have hown : s.vm.findClass RX12 = some m.cls := findClass_of_methodNamed B.named
  have hlocks := B.notSynchronized
  have hF : CallFix p m c cX12_electedNow 4 s _ TB RX12 := ⟨hx, hb, hml, hown, hts⟩
  have hl := lv_entry ([.ref (a 200)]) (n := 4) (Nat.le_of_ble_eq_true rfl)
  rw [lg_entry_eq]
  generalize (lg_sl ([.ref (a 200)]) ++ List.replicate (4 - (lg_sl ([.ref (a 200)])).length) Slot.unset).toArray = ls at hl ⊢
  have hl : lv_has ls 4 [(0, .ref (a 200))] := hl
  subst hsz
  have hD := hD0.self (sz := s.heap.size)
  generalize hAe : va_A [(a 200, .inr (12, [.int v200_0, .ref (a 201), .ref (a 202), .ref (a 203), .ref (a 204), .int v200_5, .ref (a 205), .int v200_7, .int v200_8, .int v200_9, .int v200_10, .int v200_11, .int v200_12, .int v200_13, .ref (a 206), .int v200_15, .ref (a 207), .int v200_17, .int v200_18, .int v200_19, .ref (a 208), .int v200_21, .ref (a 209), .int v200_23, .ref (a 210), .ref (a 211), .ref (a 212), .int v200_27, .int v200_28, .int v200_29, .ref (a 213), .ref (a 214), .ref (a 215), .int v200_33, .int v200_34, .int v200_35, .ref (a 216), .ref (a 217), .ref (a 218), .ref (a 219)])), (a 201, .inl (t 0, 841, .inl f201)), (a 207, .inl (t 0, 9, .inl f207)), (a 208, .inl (t 0, 9, .inl f208)), (a 209, .inl (t 0, 9, .inl f209))] s.heap.size = A at hD ⊢
  have hA : ∀ q : Nat, s.heap.size ≤ q → A q := fun q h => by rw [← hAe]; exact Or.inr h
  have hS : va_S A s.heap s.heap [] := va_S.rf
  have hP : va_P D classes [(a 200, .inr (12, [.int v200_0, .ref (a 201), .ref (a 202), .ref (a 203), .ref (a 204), .int v200_5, .ref (a 205), .int v200_7, .int v200_8, .int v200_9, .int v200_10, .int v200_11, .int v200_12, .int v200_13, .ref (a 206), .int v200_15, .ref (a 207), .int v200_17, .int v200_18, .int v200_19, .ref (a 208), .int v200_21, .ref (a 209), .int v200_23, .ref (a 210), .ref (a 211), .ref (a 212), .int v200_27, .int v200_28, .int v200_29, .ref (a 213), .ref (a 214), .ref (a 215), .int v200_33, .int v200_34, .int v200_35, .ref (a 216), .ref (a 217), .ref (a 218), .ref (a 219)])), (a 201, .inl (t 0, 841, .inl f201)), (a 207, .inl (t 0, 9, .inl f207)), (a 208, .inl (t 0, 9, .inl f208)), (a 209, .inl (t 0, 9, .inl f209))] s.heap := hP
  refine lv_iconst (v := 0) hx hb dX12_electedNow_0 (by decide) ?_
  refine lv_istore_n (lv' := [(1, .int 0), (0, .ref (a 200))]) hx hb dX12_electedNow_1 rfl hl (by decide) rfl (fun ls hl => ?_)
  refine lv_iconst (v := 0) hx hb dX12_electedNow_2 (by decide) ?_
  refine lv_istore_n (lv' := [(2, .int 0), (1, .int 0), (0, .ref (a 200))]) hx hb dX12_electedNow_3 rfl hl (by decide) rfl (fun ls hl => ?_)
  refine loopW (α := US) (fun n y_1 H locs ls => 4 < (y_1.1 0).toInt + (n : Int) ∧ rg 0 4 (y_1.1 0) ∧ rg 0 511 (y_1.1 1) ∧ rg 0 9 (y_1.1 3) ∧ va_P D classes [(a 200, .inr (12, [.int v200_0, .ref (a 201), .ref (a 202), .ref (a 203), .ref (a 204), .int v200_5, .ref (a 205), .int v200_7, .int v200_8, .int v200_9, .int v200_10, .int v200_11, .int v200_12, .int v200_13, .ref (a 206), .int v200_15, .ref (a 207), .int v200_17, .int v200_18, .int v200_19, .ref (a 208), .int (y_1.1 2), .ref (a 209), .int (y_1.1 3), .ref (a 210), .ref (a 211), .ref (a 212), .int v200_27, .int v200_28, .int v200_29, .ref (a 213), .ref (a 214), .ref (a 215), .int v200_33, .int v200_34, .int v200_35, .ref (a 216), .ref (a 217), .ref (a 218), .ref (a 219)])), (a 201, .inl (t 0, 841, .inl f201)), (a 207, .inl (t 0, 9, .inl f207)), (a 208, .inl (t 0, 9, .inl (y_1.2.1 0))), (a 209, .inl (t 0, 9, .inl (y_1.2.1 1)))] H ∧ va_D A [(a 200, .inr (12, [.int v200_0, .ref (a 201), .ref (a 202), .ref (a 203), .ref (a 204), .int v200_5, .ref (a 205), .int v200_7, .int v200_8, .int v200_9, .int v200_10, .int v200_11, .int v200_12, .int v200_13, .ref (a 206), .int v200_15, .ref (a 207), .int v200_17, .int v200_18, .int v200_19, .ref (a 208), .int (y_1.1 2), .ref (a 209), .int (y_1.1 3), .ref (a 210), .ref (a 211), .ref (a 212), .int v200_27, .int v200_28, .int v200_29, .ref (a 213), .ref (a 214), .ref (a 215), .int v200_33, .int v200_34, .int v200_35, .ref (a 216), .ref (a 217), .ref (a 218), .ref (a 219)])), (a 201, .inl (t 0, 841, .inl f201)), (a 207, .inl (t 0, 9, .inl f207)), (a 208, .inl (t 0, 9, .inl (y_1.2.1 0))), (a 209, .inl (t 0, 9, .inl (y_1.2.1 1)))] ∧ va_S A s.heap H locs ∧ lv_has ls 4 [(2, .int (y_1.1 0)), (1, .int (y_1.1 1)), (0, .ref (a 200))]) 4 (fun y_1 => []) (fun _ _ _ _ h9 => m_0 h9.1 h9.2.1) (fun n ih_5 y_1 H locs ls hI => ?_) 5 (fun k => [0, 0, v200_21, v200_23].getD k 0, fun k => [f208, f209].getD k (fun _ => 0), fun k => [].getD k (fun _ => 0), fun k => [].getD k 0) ⟨(m_i (rg_c (x := 0) (k := 0) (by decide)) (by decide)), (rg_w (c := 0) (d := 4) (rg_c (x := 0) (k := 0) (by decide)) (by decide) (by decide)), (rg_w (c := 0) (d := 511) (rg_c (x := 0) (k := 0) (by decide)) (by decide) (by decide)), r200_23, hP, hD, hS, (lv_sub hl [0, 1, 2] rfl)⟩
  obtain ⟨me_6, h_2, h_3, h_4, hP, hD, hS, hl⟩ := hI
  refine lv_iload_n hx hb dX12_electedNow_4 rfl (lv_at hl 0 rfl) ?_
  refine lv_aload_n hx hb dX12_electedNow_5 rfl (lv_at hl 2 rfl) ?_
  refine va_get (D := D) (ci := 12) (v := .ref (a 201)) (C := RX12) (T := TX12) (N := 40) hx hb hts iX12 hown hK hP 0 rfl rfl 1 (by decide) (hts _ m_1344) (fun _ h9 => h9) rfl dX12_electedNow_6 ?_
  refine lv_iconst (v := 4) hx hb dX12_electedNow_9 (by decide) ?_
  refine va_iald hx hb hK hP 1 0 rfl rfl (in_rg (rg_c (x := 4) (k := 4) (by decide)) (by decide) (by decide)) dX12_electedNow_10 ?_
  refine x_seti (f201 4) rfl ?_
  have h_7 : rg 0 4 (f201 4) := q201 4 (by decide)
  refine lv_icmp_ge (tgt := 47) hx hb dX12_electedNow_11 (by decide) (fun c_8 => ?_) (fun c_8 => ?_)
  · skip
    refine lv_iload_n hx hb dX12_electedNow_47 rfl (lv_at hl 1 rfl) ?_
    have hP9 := hP.sub (ws' := [(a 200, .inr (12, [.int v200_0, .ref (a 201), .ref (a 202), .ref (a 203), .ref (a 204), .int v200_5, .ref (a 205), .int v200_7, .int v200_8, .int v200_9, .int v200_10, .int v200_11, .int v200_12, .int v200_13, .ref (a 206), .int v200_15, .ref (a 207), .int v200_17, .int v200_18, .int v200_19, .ref (a 208), .int (y_1.1 2), .ref (a 209), .int (y_1.1 3), .ref (a 210), .ref (a 211), .ref (a 212), .int v200_27, .int v200_28, .int v200_29, .ref (a 213), .ref (a 214), .ref (a 215), .int v200_33, .int v200_34, .int v200_35, .ref (a 216), .ref (a 217), .ref (a 218), .ref (a 219)])), (a 201, .inl (t 0, 841, .inl f201)), (a 207, .inl (t 0, 9, .inl f207)), (a 208, .inl (t 0, 9, .inl (y_1.2.1 0))), (a 209, .inl (t 0, 9, .inl (y_1.2.1 1)))]) [0, 1, 2, 3, 4] rfl
    have hD9 := hD.sub (ws' := [(a 200, .inr (12, [.int v200_0, .ref (a 201), .ref (a 202), .ref (a 203), .ref (a 204), .int v200_5, .ref (a 205), .int v200_7, .int v200_8, .int v200_9, .int v200_10, .int v200_11, .int v200_12, .int v200_13, .ref (a 206), .int v200_15, .ref (a 207), .int v200_17, .int v200_18, .int v200_19, .ref (a 208), .int (y_1.1 2), .ref (a 209), .int (y_1.1 3), .ref (a 210), .ref (a 211), .ref (a 212), .int v200_27, .int v200_28, .int v200_29, .ref (a 213), .ref (a 214), .ref (a 215), .int v200_33, .int v200_34, .int v200_35, .ref (a 216), .ref (a 217), .ref (a 218), .ref (a 219)])), (a 201, .inl (t 0, 841, .inl f201)), (a 207, .inl (t 0, 9, .inl f207)), (a 208, .inl (t 0, 9, .inl (y_1.2.1 0))), (a 209, .inl (t 0, 9, .inl (y_1.2.1 1)))]) [0, 1, 2, 3, 4] (by decide) rfl
    exact W.iret (v := (y_1.1 1)) hx hb hr (fun t9 ht hW => ⟨⟨(y_1.1 1), (fun k => [(y_1.1 2), (y_1.1 3)].getD k 0, fun k => [(y_1.2.1 0), (y_1.2.1 1)].getD k (fun _ => 0), fun k => [].getD k (fun _ => 0), fun _ => 0), rfl, ⟨h_3, h_4⟩, by rw [ht]; exact hP9, hD9⟩, hS.F ht⟩) hS.2.2 dX12_electedNow_48
  · skip
    have h_9 : rg 0 3 (y_1.1 0) := ⟨(h_2).1, Int.le_trans (c_nleR c_8 h_7) (by decide)⟩
    have h_10 : rg 1 4 (f201 4) := ⟨Int.le_trans (by decide) (c_nle c_8 h_2), (h_7).2⟩
    refine lv_aload_n hx hb dX12_electedNow_14 rfl (lv_at hl 2 rfl) ?_
    refine lv_iload_n hx hb dX12_electedNow_15 rfl (lv_at hl 0 rfl) ?_
    refine lv_aload_n hx hb dX12_electedNow_16 rfl (lv_at hl 2 rfl) ?_
    refine va_get (D := D) (ci := 12) (v := .ref (a 201)) (C := RX12) (T := TX12) (N := 40) hx hb hts iX12 hown hK hP 0 rfl rfl 1 (by decide) (hts _ m_1344) (fun _ h9 => h9) rfl dX12_electedNow_17 ?_
    refine lv_iconst (v := 1) hx hb dX12_electedNow_20 (by decide) ?_
    refine va_iald hx hb hK hP 1 0 rfl rfl (in_rg (rg_c (x := 1) (k := 1) (by decide)) (by decide) (by decide)) dX12_electedNow_21 ?_
    refine x_seti (f201 1) rfl ?_
    refine y_wVi (wr := []) hF (s_X12_sitter l D t a v200_0 v200_5 v200_7 v200_8 v200_9 v200_10 v200_11 v200_12 v200_13 v200_15 v200_17 v200_18 v200_19 (y_1.1 2) (y_1.1 3) v200_27 v200_28 v200_29 v200_33 v200_34 v200_35 f201 f207 (y_1.2.1 0) (y_1.2.1 1) (y_1.1 0) (f201 1) r200_5 r200_7 r200_8 r200_9 h_4 q201 H.size) m_1734 m_1736 m_s78 m_13 m_1737 hd_X12_sitter ⟨Nat.le_of_ble_eq_true rfl, Nat.le_of_ble_eq_true rfl⟩ hK hN hP hD hS hA 0 (ci := 12) rfl rfl rfl [0, 1, 2, 3, 4] [] rfl rfl (by decide) (by decide) (by decide) hl.1 rfl (Nat.le_of_ble_eq_true rfl) dX12_electedNow_22 ⟨Nat.zero_le _, Nat.zero_le _⟩ (fun r_12 u_11 H locs hu_11 hP hD hS => ?_)
    obtain ⟨hr_12, h_13⟩ := hu_11
    have hP : va_P D classes [(a 200, .inr (12, [.int v200_0, .ref (a 201), .ref (a 202), .ref (a 203), .ref (a 204), .int v200_5, .ref (a 205), .int v200_7, .int v200_8, .int v200_9, .int v200_10, .int v200_11, .int v200_12, .int v200_13, .ref (a 206), .int v200_15, .ref (a 207), .int v200_17, .int v200_18, .int v200_19, .ref (a 208), .int (u_11.1 0), .ref (a 209), .int (u_11.1 1), .ref (a 210), .ref (a 211), .ref (a 212), .int v200_27, .int v200_28, .int v200_29, .ref (a 213), .ref (a 214), .ref (a 215), .int v200_33, .int v200_34, .int v200_35, .ref (a 216), .ref (a 217), .ref (a 218), .ref (a 219)])), (a 201, .inl (t 0, 841, .inl f201)), (a 207, .inl (t 0, 9, .inl f207)), (a 208, .inl (t 0, 9, .inl (u_11.2.1 0))), (a 209, .inl (t 0, 9, .inl (u_11.2.1 1)))] H := hP
    have hD : va_D A [(a 200, .inr (12, [.int v200_0, .ref (a 201), .ref (a 202), .ref (a 203), .ref (a 204), .int v200_5, .ref (a 205), .int v200_7, .int v200_8, .int v200_9, .int v200_10, .int v200_11, .int v200_12, .int v200_13, .ref (a 206), .int v200_15, .ref (a 207), .int v200_17, .int v200_18, .int v200_19, .ref (a 208), .int (u_11.1 0), .ref (a 209), .int (u_11.1 1), .ref (a 210), .ref (a 211), .ref (a 212), .int v200_27, .int v200_28, .int v200_29, .ref (a 213), .ref (a 214), .ref (a 215), .int v200_33, .int v200_34, .int v200_35, .ref (a 216), .ref (a 217), .ref (a 218), .ref (a 219)])), (a 201, .inl (t 0, 841, .inl f201)), (a 207, .inl (t 0, 9, .inl f207)), (a 208, .inl (t 0, 9, .inl (u_11.2.1 0))), (a 209, .inl (t 0, 9, .inl (u_11.2.1 1)))] := hD
    refine lv_istore_n (lv' := [(3, .int r_12), (2, .int (y_1.1 0)), (1, .int (y_1.1 1)), (0, .ref (a 200))]) hx hb dX12_electedNow_25 rfl hl (by decide) rfl (fun ls hl => ?_)
    refine lv_iload_n hx hb dX12_electedNow_26 rfl (lv_at hl 2 rfl) ?_
    refine lv_iload_n hx hb dX12_electedNow_27 rfl (lv_at hl 0 rfl) ?_
    refine lv_iconst (v := (-1)) hx hb dX12_electedNow_28 (by decide) ?_
    refine lv_icmp_ne (tgt := 36) hx hb dX12_electedNow_29 (by decide) (fun c_14 => ?_) (fun c_14 => ?_)
    · skip
      have h_15 : rg 0 8 r_12 := rg_w (rg_neL hr_12 c_14 (by decide)) (by decide) (by decide)
      refine lv_iconst (v := 1) hx hb dX12_electedNow_36 (by decide) ?_
      refine lv_iload_n hx hb dX12_electedNow_37 rfl (lv_at hl 0 rfl) ?_
      refine lv_ishl hx hb dX12_electedNow_38 ?_
      refine lv_topi (fun x_16 ex_16 => ?_)
      have hx_16 : rg 1 256 x_16 := by rw [ex_16]; exact rg_shl1 (b := 8) h_15 (by decide) (by decide)
      refine lv_ior hx hb dX12_electedNow_39 ?_
      refine lv_topi (fun x_17 ex_17 => ?_)
      have hx_17 : rg 0 511 x_17 := by rw [ex_17]; exact rg_or (m := 9) h_3 (rg_w (c := 0) (d := 511) hx_16 (by decide) (by decide)) (by decide) (by decide)
      refine lv_istore_n (lv' := [(1, .int x_17), (3, .int r_12), (2, .int (y_1.1 0)), (0, .ref (a 200))]) hx hb dX12_electedNow_40 rfl hl (by decide) rfl (fun ls hl => ?_)
      obtain ⟨x_18, ex_18⟩ : ∃ y9 : Int32, y9 = (y_1.1 0) + 1 := ⟨_, rfl⟩
      have hx_18 : rg 1 4 x_18 := by rw [ex_18]; exact rg_add h_9 (rg_c (x := 1) (k := 1) (by decide)) (by decide) (by decide) (by decide) (by decide)
      have tx_18 : x_18.toInt = (y_1.1 0).toInt + 1 := by rw [ex_18]; exact inc_tk h_9 (by decide) (by decide) (by decide)
      refine lv_iinc (v := x_18) (lv' := [(2, .int x_18), (1, .int x_17), (3, .int r_12), (0, .ref (a 200))]) hx hb dX12_electedNow_41 hl (k := 2) rfl (by rw [ex_18]; rfl) (by decide) rfl (fun ls hl => ?_)
      refine lv_goto (tgt := 4) hx hb dX12_electedNow_44 (by decide) ?_
      exact ih_5 (fun k => [x_18, x_17, (u_11.1 0), (u_11.1 1)].getD k 0, fun k => [(u_11.2.1 0), (u_11.2.1 1)].getD k (fun _ => 0), fun k => [].getD k (fun _ => 0), fun k => [].getD k 0) _ _ ls ⟨(m_upk me_6 tx_18 (by decide)), (rg_w (c := 0) (d := 4) hx_18 (by decide) (by decide)), hx_17, h_13, hP, hD, hS, (lv_sub hl [0, 1, 3] rfl)⟩
    · skip
      have h_19 : rg (-1) (-1) r_12 := rg_eq c_14 (rg_c (x := (-1)) (k := (-1)) (by decide))
      refine lv_iconst (v := 0) hx hb dX12_electedNow_32 (by decide) ?_
      refine lv_goto (tgt := 39) hx hb dX12_electedNow_33 (by decide) ?_
      refine lv_ior hx hb dX12_electedNow_39 ?_
      refine lv_topi (fun x_20 ex_20 => ?_)
      have hx_20 : rg 0 511 x_20 := by rw [ex_20]; exact rg_or (m := 9) h_3 (rg_w (c := 0) (d := 511) (rg_c (x := 0) (k := 0) (by decide)) (by decide) (by decide)) (by decide) (by decide)
      refine lv_istore_n (lv' := [(1, .int x_20), (3, .int r_12), (2, .int (y_1.1 0)), (0, .ref (a 200))]) hx hb dX12_electedNow_40 rfl hl (by decide) rfl (fun ls hl => ?_)
      obtain ⟨x_21, ex_21⟩ : ∃ y9 : Int32, y9 = (y_1.1 0) + 1 := ⟨_, rfl⟩
      have hx_21 : rg 1 4 x_21 := by rw [ex_21]; exact rg_add h_9 (rg_c (x := 1) (k := 1) (by decide)) (by decide) (by decide) (by decide) (by decide)
      have tx_21 : x_21.toInt = (y_1.1 0).toInt + 1 := by rw [ex_21]; exact inc_tk h_9 (by decide) (by decide) (by decide)
      refine lv_iinc (v := x_21) (lv' := [(2, .int x_21), (1, .int x_20), (3, .int r_12), (0, .ref (a 200))]) hx hb dX12_electedNow_41 hl (k := 2) rfl (by rw [ex_21]; rfl) (by decide) rfl (fun ls hl => ?_)
      refine lv_goto (tgt := 4) hx hb dX12_electedNow_44 (by decide) ?_
      exact ih_5 (fun k => [x_21, x_20, (u_11.1 0), (u_11.1 1)].getD k 0, fun k => [(u_11.2.1 0), (u_11.2.1 1)].getD k (fun _ => 0), fun k => [].getD k (fun _ => 0), fun k => [].getD k 0) _ _ ls ⟨(m_upk me_6 tx_21 (by decide)), (rg_w (c := 0) (d := 4) hx_21 (by decide) (by decide)), hx_20, h_13, hP, hD, hS, (lv_sub hl [0, 1, 3] rfl)⟩

set_option maxHeartbeats 4000000 in
set_option maxRecDepth 100000 in
theorem s_X12_word (l : Launch) (D : va_G) (t : Nat → ClassId) (a : Nat → Nat) (v200_0 : Int32) (v200_5 : Int32) (v200_7 : Int32) (v200_8 : Int32) (v200_9 : Int32) (v200_10 : Int32) (v200_11 : Int32) (v200_12 : Int32) (v200_13 : Int32) (v200_15 : Int32) (v200_17 : Int32) (v200_18 : Int32) (v200_19 : Int32) (v200_21 : Int32) (v200_23 : Int32) (v200_27 : Int32) (v200_28 : Int32) (v200_29 : Int32) (v200_33 : Int32) (v200_34 : Int32) (v200_35 : Int32) (f201 : Nat → Int32) (p0 : Int32) (p1 : Int32) (r200_5 : rg 0 1600 v200_5) (r200_7 : rg 0 1600 v200_7) (r200_8 : rg 0 1600 v200_8) (r200_9 : rg 0 1600 v200_9) (r200_23 : rg 0 9 v200_23) (q201 : wR f201) : Met l yX12_word (wd yX12_word cX12_word 3 (some .int)) (RM 2 0 0) (PreP D (TY t) [.ref (a 200), .int p0, .int p1] [(a 200, .inr (12, [.int v200_0, .ref (a 201), .ref (a 202), .ref (a 203), .ref (a 204), .int v200_5, .ref (a 205), .int v200_7, .int v200_8, .int v200_9, .int v200_10, .int v200_11, .int v200_12, .int v200_13, .ref (a 206), .int v200_15, .ref (a 207), .int v200_17, .int v200_18, .int v200_19, .ref (a 208), .int v200_21, .ref (a 209), .int v200_23, .ref (a 210), .ref (a 211), .ref (a 212), .int v200_27, .int v200_28, .int v200_29, .ref (a 213), .ref (a 214), .ref (a 215), .int v200_33, .int v200_34, .int v200_35, .ref (a 216), .ref (a 217), .ref (a 218), .ref (a 219)])), (a 201, .inl (t 0, 841, .inl f201))]) (QP (fun _ => True)) 0 0 NoF := by
  refine Met.ofW (cc := cX12_word) (maxL := 3) (ret := (some .int)) (by decide) rfl ?_
  intro p e s m args below meth c s₁ B hml hv
  obtain ⟨rfl, hP, hK, hN⟩ := hv
  have hx := B.exec
  have hb := B.bytes
  have hr := B.returns
  have hts : ∀ w ∈ TB, w.before _ s = true := fun w h => atoms_spec (ws := wd yX12_word cX12_word 3 (some .int)) B.pre w (List.mem_cons_of_mem _ h)
  have hown : s.vm.findClass RX12 = some m.cls := findClass_of_methodNamed B.named
  have hlocks := B.notSynchronized
  have hF : CallFix p m c cX12_word 3 s _ TB RX12 := ⟨hx, hb, hml, hown, hts⟩
  have hl := lv_entry ([.ref (a 200), .int p0, .int p1]) (n := 3) (Nat.le_of_ble_eq_true rfl)
  rw [lg_entry_eq]
  generalize (lg_sl ([.ref (a 200), .int p0, .int p1]) ++ List.replicate (3 - (lg_sl ([.ref (a 200), .int p0, .int p1])).length) Slot.unset).toArray = ls at hl ⊢
  have hl : lv_has ls 3 [(0, .ref (a 200)), (1, .int p0), (2, .int p1)] := hl
  have hS : va_S NoF s.heap s.heap [] := va_S.rf
  have hP : va_P D classes [(a 200, .inr (12, [.int v200_0, .ref (a 201), .ref (a 202), .ref (a 203), .ref (a 204), .int v200_5, .ref (a 205), .int v200_7, .int v200_8, .int v200_9, .int v200_10, .int v200_11, .int v200_12, .int v200_13, .ref (a 206), .int v200_15, .ref (a 207), .int v200_17, .int v200_18, .int v200_19, .ref (a 208), .int v200_21, .ref (a 209), .int v200_23, .ref (a 210), .ref (a 211), .ref (a 212), .int v200_27, .int v200_28, .int v200_29, .ref (a 213), .ref (a 214), .ref (a 215), .int v200_33, .int v200_34, .int v200_35, .ref (a 216), .ref (a 217), .ref (a 218), .ref (a 219)])), (a 201, .inl (t 0, 841, .inl f201))] s.heap := hP
  refine lv_aload_n hx hb dX12_word_0 rfl (lv_at hl 0 rfl) ?_
  refine lv_iload_n hx hb dX12_word_1 rfl (lv_at hl 1 rfl) ?_
  refine lv_i2l hx hb dX12_word_2 rfl ?_
  refine y_pV hF (s_X12_isWord l D t a v200_0 v200_5 v200_7 v200_8 v200_9 v200_10 v200_11 v200_12 v200_13 v200_15 v200_17 v200_18 v200_19 v200_21 v200_23 v200_27 v200_28 v200_29 v200_33 v200_34 v200_35 f201 ((p0).toInt64) r200_5 r200_7 r200_8 r200_9 r200_23 q201) m_1607 m_1609 m_s57 m_13 m_1610 hd_X12_isWord ⟨Nat.le_of_ble_eq_true rfl, Nat.le_of_ble_eq_true rfl⟩ hK hN hP hS [0, 1] rfl 0 (ci := 12) rfl rfl rfl hl.1 rfl (Nat.le_of_ble_eq_true rfl) dX12_word_3 ⟨Nat.zero_le _, Nat.zero_le _⟩ (fun r_1 H locs hr_1 hP hS => ?_)
  refine lv_if_eq (tgt := 21) hx hb dX12_word_6 (by decide) (fun c_2 => ?_) (fun c_2 => ?_)
  · skip
    refine lv_bipush (v := (-2)) hx hb dX12_word_21 (by decide) ?_
    exact W.iret (v := (-2)) hx hb hr (fun t9 ht hW => ⟨⟨(-2), (), rfl, trivial, trivial⟩, hS.F ht⟩) hS.2.2 dX12_word_23
  · skip
    have o_3 := Or.resolve_left hr_1.2 c_2
    refine lv_iload_n hx hb dX12_word_9 rfl (lv_at hl 2 rfl) ?_
    refine lv_i2l hx hb dX12_word_10 rfl ?_
    refine lv_lconst (v := 0) hx hb dX12_word_11 rfl ?_
    refine lv_ldc2 (v := 5) hx hb hown (hts _ m_1611) dX12_word_12 ?_
    refine y_pS hF (s_X12_in l D t a ((p1).toInt64) 0 5) m_1469 m_1470 m_13 m_1471 hd_X12_in ⟨Nat.le_of_ble_eq_true rfl, Nat.le_of_ble_eq_true rfl⟩ hK hN hP hS [] rfl hl.1 rfl (Nat.le_of_ble_eq_true rfl) dX12_word_15 ⟨Nat.zero_le _, Nat.zero_le _⟩ (fun r_4 H locs hr_4 hP hS => ?_)
    refine lv_if_ne (tgt := 24) hx hb dX12_word_18 (by decide) (fun c_5 => ?_) (fun c_5 => ?_)
    · skip
      have o_6 := Or.resolve_left hr_4.2 c_5
      refine lv_iload_n hx hb dX12_word_24 rfl (lv_at hl 2 rfl) ?_
      refine lv_iconst (v := 4) hx hb dX12_word_25 (by decide) ?_
      refine lv_icmp_ge (tgt := 38) hx hb dX12_word_26 (by decide) (fun c_7 => ?_) (fun c_7 => ?_)
      · skip
        have h_8 : rg 4 5 p1 := ⟨Int.le_trans (by decide) (c_leR c_7 (rg_c (x := 4) (k := 4) (by decide))), ((in_cvi (p := 0) (q := 5) o_6 (rl_c (x := 0) (k := 0) (by decide)) (rl_c (x := 5) (k := 5) (by decide)) (by decide) (by decide))).2⟩
        refine lv_iload_n hx hb dX12_word_38 rfl (lv_at hl 2 rfl) ?_
        refine lv_iconst (v := 4) hx hb dX12_word_39 (by decide) ?_
        refine lv_icmp_ne (tgt := 55) hx hb dX12_word_40 (by decide) (fun c_9 => ?_) (fun c_9 => ?_)
        · skip
          have h_10 : rg 5 5 p1 := rg_w (rg_neL h_8 c_9 (by decide)) (by decide) (by decide)
          refine lv_aload_n hx hb dX12_word_55 rfl (lv_at hl 0 rfl) ?_
          refine va_get (D := D) (ci := 12) (v := .ref (a 201)) (C := RX12) (T := TX12) (N := 40) hx hb hts iX12 hown hK hP 0 rfl rfl 1 (by decide) (hts _ m_1344) (fun _ h9 => h9) rfl dX12_word_56 ?_
          refine lv_bipush (v := 11) hx hb dX12_word_59 (by decide) ?_
          refine va_iald hx hb hK hP 1 0 rfl rfl (in_rg (rg_c (x := 11) (k := 11) (by decide)) (by decide) (by decide)) dX12_word_61 ?_
          refine x_seti (f201 11) rfl ?_
          refine lv_iload_n hx hb dX12_word_62 rfl (lv_at hl 1 rfl) ?_
          refine y_pS hF (s_X12_bit l D t a (f201 11) p0) m_1616 m_1617 m_13 m_1618 hd_X12_bit ⟨Nat.le_of_ble_eq_true rfl, Nat.le_of_ble_eq_true rfl⟩ hK hN hP hS [] rfl hl.1 rfl (Nat.le_of_ble_eq_true rfl) dX12_word_63 ⟨Nat.zero_le _, Nat.zero_le _⟩ (fun r_11 H locs hr_11 hP hS => ?_)
          exact W.iret (v := r_11) hx hb hr (fun t9 ht hW => ⟨⟨r_11, (), rfl, trivial, trivial⟩, hS.F ht⟩) hS.2.2 dX12_word_66
        · skip
          have h_12 : rg 4 4 p1 := rg_eq c_9 (rg_c (x := 4) (k := 4) (by decide))
          refine lv_aload_n hx hb dX12_word_43 rfl (lv_at hl 0 rfl) ?_
          refine va_get (D := D) (ci := 12) (v := .ref (a 201)) (C := RX12) (T := TX12) (N := 40) hx hb hts iX12 hown hK hP 0 rfl rfl 1 (by decide) (hts _ m_1344) (fun _ h9 => h9) rfl dX12_word_44 ?_
          refine lv_bipush (v := 112) hx hb dX12_word_47 (by decide) ?_
          refine lv_iload_n hx hb dX12_word_49 rfl (lv_at hl 1 rfl) ?_
          refine lv_iadd hx hb dX12_word_50 ?_
          refine lv_topi (fun x_13 ex_13 => ?_)
          have hx_13 : rg 112 120 x_13 := by rw [ex_13]; exact rg_add (rg_c (x := 112) (k := 112) (by decide)) (rl_i o_3) (by decide) (by decide) (by decide) (by decide)
          refine va_iald hx hb hK hP 1 0 rfl rfl (in_rg hx_13 (by decide) (by decide)) dX12_word_51 ?_
          refine lv_topi (fun x_14 ex_14 => ?_)
          refine lv_goto (tgt := 66) hx hb dX12_word_52 (by decide) ?_
          exact W.iret (v := x_14) hx hb hr (fun t9 ht hW => ⟨⟨x_14, (), rfl, trivial, trivial⟩, hS.F ht⟩) hS.2.2 dX12_word_66
      · skip
        have h_15 : rg 0 3 p1 := ⟨((in_cvi (p := 0) (q := 5) o_6 (rl_c (x := 0) (k := 0) (by decide)) (rl_c (x := 5) (k := 5) (by decide)) (by decide) (by decide))).1, Int.le_trans (c_nleR c_7 (rg_c (x := 4) (k := 4) (by decide))) (by decide)⟩
        refine lv_aload_n hx hb dX12_word_29 rfl (lv_at hl 0 rfl) ?_
        refine lv_iload_n hx hb dX12_word_30 rfl (lv_at hl 1 rfl) ?_
        refine lv_iload_n hx hb dX12_word_31 rfl (lv_at hl 2 rfl) ?_
        refine y_pV hF (s_ofWord l D t a v200_0 v200_5 v200_7 v200_8 v200_9 v200_10 v200_11 v200_12 v200_13 v200_15 v200_17 v200_18 v200_19 v200_21 v200_23 v200_27 v200_28 v200_29 v200_33 v200_34 v200_35 f201 p0 p1 r200_5 r200_7 r200_8 r200_9 r200_23 q201 (rl_i o_3) h_15) m_1612 m_1614 m_s58 m_13 m_1615 hd_X12_ofWord ⟨Nat.le_of_ble_eq_true rfl, Nat.le_of_ble_eq_true rfl⟩ hK hN hP hS [0, 1] rfl 0 (ci := 12) rfl rfl rfl hl.1 rfl (Nat.le_of_ble_eq_true rfl) dX12_word_32 ⟨Nat.zero_le _, Nat.zero_le _⟩ (fun r_16 H locs hr_16 hP hS => ?_)
        refine lv_goto (tgt := 66) hx hb dX12_word_35 (by decide) ?_
        exact W.iret (v := r_16) hx hb hr (fun t9 ht hW => ⟨⟨r_16, (), rfl, trivial, trivial⟩, hS.F ht⟩) hS.2.2 dX12_word_66
    · skip
      refine lv_bipush (v := (-2)) hx hb dX12_word_21 (by decide) ?_
      exact W.iret (v := (-2)) hx hb hr (fun t9 ht hW => ⟨⟨(-2), (), rfl, trivial, trivial⟩, hS.F ht⟩) hS.2.2 dX12_word_23

set_option maxHeartbeats 4000000 in
set_option maxRecDepth 100000 in
theorem s_X12_speaker (l : Launch) (D : va_G) (t : Nat → ClassId) (a : Nat → Nat) (v200_0 : Int32) (v200_5 : Int32) (v200_7 : Int32) (v200_8 : Int32) (v200_9 : Int32) (v200_10 : Int32) (v200_11 : Int32) (v200_12 : Int32) (v200_13 : Int32) (v200_15 : Int32) (v200_17 : Int32) (v200_18 : Int32) (v200_19 : Int32) (v200_21 : Int32) (v200_23 : Int32) (v200_27 : Int32) (v200_28 : Int32) (v200_29 : Int32) (v200_33 : Int32) (v200_34 : Int32) (v200_35 : Int32) (f201 : Nat → Int32) (p0 : Int32) (p1 : Int32) (r200_5 : rg 0 1600 v200_5) (r200_7 : rg 0 1600 v200_7) (r200_8 : rg 0 1600 v200_8) (r200_9 : rg 0 1600 v200_9) (r200_23 : rg 0 9 v200_23) (q201 : wR f201) : Met l yX12_speaker (wd yX12_speaker cX12_speaker 3 (some .int)) (RM 2 0 0) (PreP D (TY t) [.ref (a 200), .int p0, .int p1] [(a 200, .inr (12, [.int v200_0, .ref (a 201), .ref (a 202), .ref (a 203), .ref (a 204), .int v200_5, .ref (a 205), .int v200_7, .int v200_8, .int v200_9, .int v200_10, .int v200_11, .int v200_12, .int v200_13, .ref (a 206), .int v200_15, .ref (a 207), .int v200_17, .int v200_18, .int v200_19, .ref (a 208), .int v200_21, .ref (a 209), .int v200_23, .ref (a 210), .ref (a 211), .ref (a 212), .int v200_27, .int v200_28, .int v200_29, .ref (a 213), .ref (a 214), .ref (a 215), .int v200_33, .int v200_34, .int v200_35, .ref (a 216), .ref (a 217), .ref (a 218), .ref (a 219)])), (a 201, .inl (t 0, 841, .inl f201))]) (QP (fun _ => True)) 0 0 NoF := by
  refine Met.ofW (cc := cX12_speaker) (maxL := 3) (ret := (some .int)) (by decide) rfl ?_
  intro p e s m args below meth c s₁ B hml hv
  obtain ⟨rfl, hP, hK, hN⟩ := hv
  have hx := B.exec
  have hb := B.bytes
  have hr := B.returns
  have hts : ∀ w ∈ TB, w.before _ s = true := fun w h => atoms_spec (ws := wd yX12_speaker cX12_speaker 3 (some .int)) B.pre w (List.mem_cons_of_mem _ h)
  have hown : s.vm.findClass RX12 = some m.cls := findClass_of_methodNamed B.named
  have hlocks := B.notSynchronized
  have hF : CallFix p m c cX12_speaker 3 s _ TB RX12 := ⟨hx, hb, hml, hown, hts⟩
  have hl := lv_entry ([.ref (a 200), .int p0, .int p1]) (n := 3) (Nat.le_of_ble_eq_true rfl)
  rw [lg_entry_eq]
  generalize (lg_sl ([.ref (a 200), .int p0, .int p1]) ++ List.replicate (3 - (lg_sl ([.ref (a 200), .int p0, .int p1])).length) Slot.unset).toArray = ls at hl ⊢
  have hl : lv_has ls 3 [(0, .ref (a 200)), (1, .int p0), (2, .int p1)] := hl
  have hS : va_S NoF s.heap s.heap [] := va_S.rf
  have hP : va_P D classes [(a 200, .inr (12, [.int v200_0, .ref (a 201), .ref (a 202), .ref (a 203), .ref (a 204), .int v200_5, .ref (a 205), .int v200_7, .int v200_8, .int v200_9, .int v200_10, .int v200_11, .int v200_12, .int v200_13, .ref (a 206), .int v200_15, .ref (a 207), .int v200_17, .int v200_18, .int v200_19, .ref (a 208), .int v200_21, .ref (a 209), .int v200_23, .ref (a 210), .ref (a 211), .ref (a 212), .int v200_27, .int v200_28, .int v200_29, .ref (a 213), .ref (a 214), .ref (a 215), .int v200_33, .int v200_34, .int v200_35, .ref (a 216), .ref (a 217), .ref (a 218), .ref (a 219)])), (a 201, .inl (t 0, 841, .inl f201))] s.heap := hP
  refine lv_aload_n hx hb dX12_speaker_0 rfl (lv_at hl 0 rfl) ?_
  refine lv_iload_n hx hb dX12_speaker_1 rfl (lv_at hl 1 rfl) ?_
  refine y_pV hF (s_X12_isSpeaker l D t a v200_0 v200_5 v200_7 v200_8 v200_9 v200_10 v200_11 v200_12 v200_13 v200_15 v200_17 v200_18 v200_19 v200_21 v200_23 v200_27 v200_28 v200_29 v200_33 v200_34 v200_35 f201 p0 r200_5 r200_7 r200_8 r200_9 r200_23 q201) m_1623 m_1625 m_s59 m_13 m_1626 hd_X12_isSpeaker ⟨Nat.le_of_ble_eq_true rfl, Nat.le_of_ble_eq_true rfl⟩ hK hN hP hS [0, 1] rfl 0 (ci := 12) rfl rfl rfl hl.1 rfl (Nat.le_of_ble_eq_true rfl) dX12_speaker_2 ⟨Nat.zero_le _, Nat.zero_le _⟩ (fun r_1 H locs hr_1 hP hS => ?_)
  refine lv_if_eq (tgt := 29) hx hb dX12_speaker_5 (by decide) (fun c_2 => ?_) (fun c_2 => ?_)
  · skip
    refine lv_bipush (v := (-2)) hx hb dX12_speaker_29 (by decide) ?_
    exact W.iret (v := (-2)) hx hb hr (fun t9 ht hW => ⟨⟨(-2), (), rfl, trivial, trivial⟩, hS.F ht⟩) hS.2.2 dX12_speaker_31
  · skip
    have o_3 := Or.resolve_left hr_1.2 c_2
    refine lv_iload_n hx hb dX12_speaker_8 rfl (lv_at hl 2 rfl) ?_
    refine lv_i2l hx hb dX12_speaker_9 rfl ?_
    refine lv_lconst (v := 0) hx hb dX12_speaker_10 rfl ?_
    refine lv_ldc2 (v := 3) hx hb hown (hts _ m_1627) dX12_speaker_11 ?_
    refine y_pS hF (s_X12_in l D t a ((p1).toInt64) 0 3) m_1469 m_1470 m_13 m_1471 hd_X12_in ⟨Nat.le_of_ble_eq_true rfl, Nat.le_of_ble_eq_true rfl⟩ hK hN hP hS [] rfl hl.1 rfl (Nat.le_of_ble_eq_true rfl) dX12_speaker_14 ⟨Nat.zero_le _, Nat.zero_le _⟩ (fun r_4 H locs hr_4 hP hS => ?_)
    refine lv_if_eq (tgt := 29) hx hb dX12_speaker_17 (by decide) (fun c_5 => ?_) (fun c_5 => ?_)
    · skip
      refine lv_bipush (v := (-2)) hx hb dX12_speaker_29 (by decide) ?_
      exact W.iret (v := (-2)) hx hb hr (fun t9 ht hW => ⟨⟨(-2), (), rfl, trivial, trivial⟩, hS.F ht⟩) hS.2.2 dX12_speaker_31
    · skip
      have o_6 := Or.resolve_left hr_4.2 c_5
      refine lv_aload_n hx hb dX12_speaker_20 rfl (lv_at hl 0 rfl) ?_
      refine lv_iload_n hx hb dX12_speaker_21 rfl (lv_at hl 1 rfl) ?_
      refine lv_iload_n hx hb dX12_speaker_22 rfl (lv_at hl 2 rfl) ?_
      refine y_pV hF (s_ofSpeaker l D t a v200_0 v200_5 v200_7 v200_8 v200_9 v200_10 v200_11 v200_12 v200_13 v200_15 v200_17 v200_18 v200_19 v200_21 v200_23 v200_27 v200_28 v200_29 v200_33 v200_34 v200_35 f201 p0 p1 r200_5 r200_7 r200_8 r200_9 r200_23 q201 o_3 (in_cvi (p := 0) (q := 3) o_6 (rl_c (x := 0) (k := 0) (by decide)) (rl_c (x := 3) (k := 3) (by decide)) (by decide) (by decide))) m_1628 m_1630 m_s60 m_13 m_1631 hd_X12_ofSpeaker ⟨Nat.le_of_ble_eq_true rfl, Nat.le_of_ble_eq_true rfl⟩ hK hN hP hS [0, 1] rfl 0 (ci := 12) rfl rfl rfl hl.1 rfl (Nat.le_of_ble_eq_true rfl) dX12_speaker_23 ⟨Nat.zero_le _, Nat.zero_le _⟩ (fun r_7 H locs hr_7 hP hS => ?_)
      refine lv_goto (tgt := 31) hx hb dX12_speaker_26 (by decide) ?_
      exact W.iret (v := r_7) hx hb hr (fun t9 ht hW => ⟨⟨r_7, (), rfl, trivial, trivial⟩, hS.F ht⟩) hS.2.2 dX12_speaker_31

set_option maxHeartbeats 4000000 in
set_option maxRecDepth 100000 in
theorem s_X12_district (l : Launch) (D : va_G) (t : Nat → ClassId) (a : Nat → Nat) (v200_0 : Int32) (v200_5 : Int32) (v200_7 : Int32) (v200_8 : Int32) (v200_9 : Int32) (v200_10 : Int32) (v200_11 : Int32) (v200_12 : Int32) (v200_13 : Int32) (v200_15 : Int32) (v200_17 : Int32) (v200_18 : Int32) (v200_19 : Int32) (v200_21 : Int32) (v200_23 : Int32) (v200_27 : Int32) (v200_28 : Int32) (v200_29 : Int32) (v200_33 : Int32) (v200_34 : Int32) (v200_35 : Int32) (f201 : Nat → Int32) (f207 : Nat → Int32) (p0 : Int32) (p1 : Int32) (r200_5 : rg 0 1600 v200_5) (r200_7 : rg 0 1600 v200_7) (r200_8 : rg 0 1600 v200_8) (r200_9 : rg 0 1600 v200_9) (r200_23 : rg 0 9 v200_23) (q201 : wR f201) (sz : Nat) : Met l yX12_district (wd yX12_district cX12_district 3 (some .int)) (RM 3 0 0) (PreW D (TY t) [.ref (a 200), .int p0, .int p1] [(a 200, .inr (12, [.int v200_0, .ref (a 201), .ref (a 202), .ref (a 203), .ref (a 204), .int v200_5, .ref (a 205), .int v200_7, .int v200_8, .int v200_9, .int v200_10, .int v200_11, .int v200_12, .int v200_13, .ref (a 206), .int v200_15, .ref (a 207), .int v200_17, .int v200_18, .int v200_19, .ref (a 208), .int v200_21, .ref (a 209), .int v200_23, .ref (a 210), .ref (a 211), .ref (a 212), .int v200_27, .int v200_28, .int v200_29, .ref (a 213), .ref (a 214), .ref (a 215), .int v200_33, .int v200_34, .int v200_35, .ref (a 216), .ref (a 217), .ref (a 218), .ref (a 219)])), (a 201, .inl (t 0, 841, .inl f201)), (a 207, .inl (t 0, 9, .inl f207))] sz) (va_Qi (fun (_ : Int32) (_ : US) => True) (fun (u : US) t9 => va_P D classes ((fun u : US => [(a 200, .inr (12, [.int v200_0, .ref (a 201), .ref (a 202), .ref (a 203), .ref (a 204), .int v200_5, .ref (a 205), .int v200_7, .int v200_8, .int v200_9, .int v200_10, .int v200_11, .int v200_12, .int v200_13, .ref (a 206), .int (u.1 0), .ref (a 207), .int (u.1 1), .int (u.1 2), .int v200_19, .ref (a 208), .int v200_21, .ref (a 209), .int v200_23, .ref (a 210), .ref (a 211), .ref (a 212), .int v200_27, .int v200_28, .int v200_29, .ref (a 213), .ref (a 214), .ref (a 215), .int v200_33, .int v200_34, .int v200_35, .ref (a 216), .ref (a 217), .ref (a 218), .ref (a 219)])), (a 201, .inl (t 0, 841, .inl f201)), (a 207, .inl (t 0, 9, .inl (u.2.1 0)))]) u) t9.heap ∧ va_D (va_A [(a 200, .inr (12, [.int v200_0, .ref (a 201), .ref (a 202), .ref (a 203), .ref (a 204), .int v200_5, .ref (a 205), .int v200_7, .int v200_8, .int v200_9, .int v200_10, .int v200_11, .int v200_12, .int v200_13, .ref (a 206), .int v200_15, .ref (a 207), .int v200_17, .int v200_18, .int v200_19, .ref (a 208), .int v200_21, .ref (a 209), .int v200_23, .ref (a 210), .ref (a 211), .ref (a 212), .int v200_27, .int v200_28, .int v200_29, .ref (a 213), .ref (a 214), .ref (a 215), .int v200_33, .int v200_34, .int v200_35, .ref (a 216), .ref (a 217), .ref (a 218), .ref (a 219)])), (a 201, .inl (t 0, 841, .inl f201)), (a 207, .inl (t 0, 9, .inl f207))] sz) ((fun u : US => [(a 200, .inr (12, [.int v200_0, .ref (a 201), .ref (a 202), .ref (a 203), .ref (a 204), .int v200_5, .ref (a 205), .int v200_7, .int v200_8, .int v200_9, .int v200_10, .int v200_11, .int v200_12, .int v200_13, .ref (a 206), .int (u.1 0), .ref (a 207), .int (u.1 1), .int (u.1 2), .int v200_19, .ref (a 208), .int v200_21, .ref (a 209), .int v200_23, .ref (a 210), .ref (a 211), .ref (a 212), .int v200_27, .int v200_28, .int v200_29, .ref (a 213), .ref (a 214), .ref (a 215), .int v200_33, .int v200_34, .int v200_35, .ref (a 216), .ref (a 217), .ref (a 218), .ref (a 219)])), (a 201, .inl (t 0, 841, .inl f201)), (a 207, .inl (t 0, 9, .inl (u.2.1 0)))]) u)) (va_A [(a 200, .inr (12, [.int v200_0, .ref (a 201), .ref (a 202), .ref (a 203), .ref (a 204), .int v200_5, .ref (a 205), .int v200_7, .int v200_8, .int v200_9, .int v200_10, .int v200_11, .int v200_12, .int v200_13, .ref (a 206), .int v200_15, .ref (a 207), .int v200_17, .int v200_18, .int v200_19, .ref (a 208), .int v200_21, .ref (a 209), .int v200_23, .ref (a 210), .ref (a 211), .ref (a 212), .int v200_27, .int v200_28, .int v200_29, .ref (a 213), .ref (a 214), .ref (a 215), .int v200_33, .int v200_34, .int v200_35, .ref (a 216), .ref (a 217), .ref (a 218), .ref (a 219)])), (a 201, .inl (t 0, 841, .inl f201)), (a 207, .inl (t 0, 9, .inl f207))] sz)) 0 0 (va_A [(a 200, .inr (12, [.int v200_0, .ref (a 201), .ref (a 202), .ref (a 203), .ref (a 204), .int v200_5, .ref (a 205), .int v200_7, .int v200_8, .int v200_9, .int v200_10, .int v200_11, .int v200_12, .int v200_13, .ref (a 206), .int v200_15, .ref (a 207), .int v200_17, .int v200_18, .int v200_19, .ref (a 208), .int v200_21, .ref (a 209), .int v200_23, .ref (a 210), .ref (a 211), .ref (a 212), .int v200_27, .int v200_28, .int v200_29, .ref (a 213), .ref (a 214), .ref (a 215), .int v200_33, .int v200_34, .int v200_35, .ref (a 216), .ref (a 217), .ref (a 218), .ref (a 219)])), (a 201, .inl (t 0, 841, .inl f201)), (a 207, .inl (t 0, 9, .inl f207))] sz) := by
  refine Met.ofW (cc := cX12_district) (maxL := 3) (ret := (some .int)) (by decide) rfl ?_
  intro p e s m args below meth c s₁ B hml hv
  obtain ⟨rfl, hsz, hP, hK, hD0, hN⟩ := hv
  have hx := B.exec
  have hb := B.bytes
  have hr := B.returns
  have hts : ∀ w ∈ TB, w.before _ s = true := fun w h => atoms_spec (ws := wd yX12_district cX12_district 3 (some .int)) B.pre w (List.mem_cons_of_mem _ h)
  have hown : s.vm.findClass RX12 = some m.cls := findClass_of_methodNamed B.named
  have hlocks := B.notSynchronized
  have hF : CallFix p m c cX12_district 3 s _ TB RX12 := ⟨hx, hb, hml, hown, hts⟩
  have hl := lv_entry ([.ref (a 200), .int p0, .int p1]) (n := 3) (Nat.le_of_ble_eq_true rfl)
  rw [lg_entry_eq]
  generalize (lg_sl ([.ref (a 200), .int p0, .int p1]) ++ List.replicate (3 - (lg_sl ([.ref (a 200), .int p0, .int p1])).length) Slot.unset).toArray = ls at hl ⊢
  have hl : lv_has ls 3 [(0, .ref (a 200)), (1, .int p0), (2, .int p1)] := hl
  subst hsz
  have hD := hD0.self (sz := s.heap.size)
  generalize hAe : va_A [(a 200, .inr (12, [.int v200_0, .ref (a 201), .ref (a 202), .ref (a 203), .ref (a 204), .int v200_5, .ref (a 205), .int v200_7, .int v200_8, .int v200_9, .int v200_10, .int v200_11, .int v200_12, .int v200_13, .ref (a 206), .int v200_15, .ref (a 207), .int v200_17, .int v200_18, .int v200_19, .ref (a 208), .int v200_21, .ref (a 209), .int v200_23, .ref (a 210), .ref (a 211), .ref (a 212), .int v200_27, .int v200_28, .int v200_29, .ref (a 213), .ref (a 214), .ref (a 215), .int v200_33, .int v200_34, .int v200_35, .ref (a 216), .ref (a 217), .ref (a 218), .ref (a 219)])), (a 201, .inl (t 0, 841, .inl f201)), (a 207, .inl (t 0, 9, .inl f207))] s.heap.size = A at hD ⊢
  have hA : ∀ q : Nat, s.heap.size ≤ q → A q := fun q h => by rw [← hAe]; exact Or.inr h
  have hS : va_S A s.heap s.heap [] := va_S.rf
  have hP : va_P D classes [(a 200, .inr (12, [.int v200_0, .ref (a 201), .ref (a 202), .ref (a 203), .ref (a 204), .int v200_5, .ref (a 205), .int v200_7, .int v200_8, .int v200_9, .int v200_10, .int v200_11, .int v200_12, .int v200_13, .ref (a 206), .int v200_15, .ref (a 207), .int v200_17, .int v200_18, .int v200_19, .ref (a 208), .int v200_21, .ref (a 209), .int v200_23, .ref (a 210), .ref (a 211), .ref (a 212), .int v200_27, .int v200_28, .int v200_29, .ref (a 213), .ref (a 214), .ref (a 215), .int v200_33, .int v200_34, .int v200_35, .ref (a 216), .ref (a 217), .ref (a 218), .ref (a 219)])), (a 201, .inl (t 0, 841, .inl f201)), (a 207, .inl (t 0, 9, .inl f207))] s.heap := hP
  refine lv_aload_n hx hb dX12_district_0 rfl (lv_at hl 0 rfl) ?_
  refine lv_iload_n hx hb dX12_district_1 rfl (lv_at hl 1 rfl) ?_
  refine y_pV hF (s_X12_isDistrict l D t a v200_0 v200_5 v200_7 v200_8 v200_9 v200_10 v200_11 v200_12 v200_13 v200_15 v200_17 v200_18 v200_19 v200_21 v200_23 v200_27 v200_28 v200_29 v200_33 v200_34 v200_35 f201 p0 r200_5 r200_7 r200_8 r200_9 r200_23 q201) m_1636 m_1638 m_s61 m_13 m_1639 hd_X12_isDistrict ⟨Nat.le_of_ble_eq_true rfl, Nat.le_of_ble_eq_true rfl⟩ hK hN hP hS [0, 1] rfl 0 (ci := 12) rfl rfl rfl hl.1 rfl (Nat.le_of_ble_eq_true rfl) dX12_district_2 ⟨Nat.zero_le _, Nat.zero_le _⟩ (fun r_1 H locs hr_1 hP hS => ?_)
  refine lv_if_eq (tgt := 20) hx hb dX12_district_5 (by decide) (fun c_2 => ?_) (fun c_2 => ?_)
  · skip
    refine lv_bipush (v := (-2)) hx hb dX12_district_20 (by decide) ?_
    have hP9 := hP.sub (ws' := [(a 200, .inr (12, [.int v200_0, .ref (a 201), .ref (a 202), .ref (a 203), .ref (a 204), .int v200_5, .ref (a 205), .int v200_7, .int v200_8, .int v200_9, .int v200_10, .int v200_11, .int v200_12, .int v200_13, .ref (a 206), .int v200_15, .ref (a 207), .int v200_17, .int v200_18, .int v200_19, .ref (a 208), .int v200_21, .ref (a 209), .int v200_23, .ref (a 210), .ref (a 211), .ref (a 212), .int v200_27, .int v200_28, .int v200_29, .ref (a 213), .ref (a 214), .ref (a 215), .int v200_33, .int v200_34, .int v200_35, .ref (a 216), .ref (a 217), .ref (a 218), .ref (a 219)])), (a 201, .inl (t 0, 841, .inl f201)), (a 207, .inl (t 0, 9, .inl f207))]) [0, 1, 2] rfl
    have hD9 := hD.sub (ws' := [(a 200, .inr (12, [.int v200_0, .ref (a 201), .ref (a 202), .ref (a 203), .ref (a 204), .int v200_5, .ref (a 205), .int v200_7, .int v200_8, .int v200_9, .int v200_10, .int v200_11, .int v200_12, .int v200_13, .ref (a 206), .int v200_15, .ref (a 207), .int v200_17, .int v200_18, .int v200_19, .ref (a 208), .int v200_21, .ref (a 209), .int v200_23, .ref (a 210), .ref (a 211), .ref (a 212), .int v200_27, .int v200_28, .int v200_29, .ref (a 213), .ref (a 214), .ref (a 215), .int v200_33, .int v200_34, .int v200_35, .ref (a 216), .ref (a 217), .ref (a 218), .ref (a 219)])), (a 201, .inl (t 0, 841, .inl f201)), (a 207, .inl (t 0, 9, .inl f207))]) [0, 1, 2] (by decide) rfl
    exact W.iret (v := (-2)) hx hb hr (fun t9 ht hW => ⟨⟨(-2), (fun k => [v200_15, v200_17, v200_18].getD k 0, fun k => [f207].getD k (fun _ => 0), fun k => [].getD k (fun _ => 0), fun _ => 0), rfl, trivial, by rw [ht]; exact hP9, hD9⟩, hS.F ht⟩) hS.2.2 dX12_district_22
  · skip
    have o_3 := Or.resolve_left hr_1.2 c_2
    refine lv_iload_n hx hb dX12_district_8 rfl (lv_at hl 2 rfl) ?_
    refine lv_i2l hx hb dX12_district_9 rfl ?_
    refine lv_lconst (v := 0) hx hb dX12_district_10 rfl ?_
    refine lv_ldc2 (v := 2) hx hb hown (hts _ m_1468) dX12_district_11 ?_
    refine y_pS hF (s_X12_in l D t a ((p1).toInt64) 0 2) m_1469 m_1470 m_13 m_1471 hd_X12_in ⟨Nat.le_of_ble_eq_true rfl, Nat.le_of_ble_eq_true rfl⟩ hK hN hP hS [] rfl hl.1 rfl (Nat.le_of_ble_eq_true rfl) dX12_district_14 ⟨Nat.zero_le _, Nat.zero_le _⟩ (fun r_4 H locs hr_4 hP hS => ?_)
    refine lv_if_ne (tgt := 23) hx hb dX12_district_17 (by decide) (fun c_5 => ?_) (fun c_5 => ?_)
    · skip
      have o_6 := Or.resolve_left hr_4.2 c_5
      refine lv_aload_n hx hb dX12_district_23 rfl (lv_at hl 0 rfl) ?_
      refine y_wV (wr := []) hF (s_X12_asItIs l D t a v200_0 v200_5 v200_7 v200_8 v200_9 v200_10 v200_11 v200_12 v200_13 v200_15 v200_17 v200_18 v200_19 v200_21 v200_23 v200_27 v200_28 v200_29 v200_33 v200_34 v200_35 f201 f207 r200_5 r200_7 r200_8 r200_9 r200_23 q201 H.size) m_1640 m_1642 m_s62 m_13 m_1643 hd_X12_asItIs ⟨Nat.le_of_ble_eq_true rfl, Nat.le_of_ble_eq_true rfl⟩ hK hN hP hD hS hA 0 (ci := 12) rfl rfl rfl [0, 1, 2] [] rfl rfl (by decide) (by decide) (by decide) hl.1 rfl (Nat.le_of_ble_eq_true rfl) dX12_district_24 ⟨Nat.zero_le _, Nat.zero_le _⟩ (fun u_7 H locs hu_7 hP hD hS => ?_)
      have hP : va_P D classes [(a 200, .inr (12, [.int v200_0, .ref (a 201), .ref (a 202), .ref (a 203), .ref (a 204), .int v200_5, .ref (a 205), .int v200_7, .int v200_8, .int v200_9, .int v200_10, .int v200_11, .int v200_12, .int v200_13, .ref (a 206), .int (u_7.1 0), .ref (a 207), .int (u_7.1 1), .int (u_7.1 2), .int v200_19, .ref (a 208), .int v200_21, .ref (a 209), .int v200_23, .ref (a 210), .ref (a 211), .ref (a 212), .int v200_27, .int v200_28, .int v200_29, .ref (a 213), .ref (a 214), .ref (a 215), .int v200_33, .int v200_34, .int v200_35, .ref (a 216), .ref (a 217), .ref (a 218), .ref (a 219)])), (a 201, .inl (t 0, 841, .inl f201)), (a 207, .inl (t 0, 9, .inl (u_7.2.1 0)))] H := hP
      have hD : va_D A [(a 200, .inr (12, [.int v200_0, .ref (a 201), .ref (a 202), .ref (a 203), .ref (a 204), .int v200_5, .ref (a 205), .int v200_7, .int v200_8, .int v200_9, .int v200_10, .int v200_11, .int v200_12, .int v200_13, .ref (a 206), .int (u_7.1 0), .ref (a 207), .int (u_7.1 1), .int (u_7.1 2), .int v200_19, .ref (a 208), .int v200_21, .ref (a 209), .int v200_23, .ref (a 210), .ref (a 211), .ref (a 212), .int v200_27, .int v200_28, .int v200_29, .ref (a 213), .ref (a 214), .ref (a 215), .int v200_33, .int v200_34, .int v200_35, .ref (a 216), .ref (a 217), .ref (a 218), .ref (a 219)])), (a 201, .inl (t 0, 841, .inl f201)), (a 207, .inl (t 0, 9, .inl (u_7.2.1 0)))] := hD
      refine lv_iload_n hx hb dX12_district_27 rfl (lv_at hl 2 rfl) ?_
      refine lv_if_ne (tgt := 43) hx hb dX12_district_28 (by decide) (fun c_9 => ?_) (fun c_9 => ?_)
      · skip
        have h_10 : rg 1 2 p1 := rg_w (rg_neL (in_cvi (p := 0) (q := 2) o_6 (rl_c (x := 0) (k := 0) (by decide)) (rl_c (x := 2) (k := 2) (by decide)) (by decide) (by decide)) c_9 (by decide)) (by decide) (by decide)
        refine lv_iload_n hx hb dX12_district_43 rfl (lv_at hl 2 rfl) ?_
        refine lv_iconst (v := 1) hx hb dX12_district_44 (by decide) ?_
        refine lv_icmp_ne (tgt := 56) hx hb dX12_district_45 (by decide) (fun c_11 => ?_) (fun c_11 => ?_)
        · skip
          have h_12 : rg 2 2 p1 := rg_w (rg_neL h_10 c_11 (by decide)) (by decide) (by decide)
          refine lv_aload_n hx hb dX12_district_56 rfl (lv_at hl 0 rfl) ?_
          refine lv_iload_n hx hb dX12_district_57 rfl (lv_at hl 1 rfl) ?_
          refine y_pV hF (s_X12_votesOfAll l D t a v200_0 v200_5 v200_7 v200_8 v200_9 v200_10 v200_11 v200_12 v200_13 (u_7.1 0) (u_7.1 1) (u_7.1 2) v200_19 v200_21 v200_23 v200_27 v200_28 v200_29 v200_33 v200_34 v200_35 f201 (u_7.2.1 0) p0 r200_5 r200_7 r200_8 r200_9 r200_23 q201) m_1656 m_1658 m_s66 m_13 m_1659 hd_X12_votesOfAll ⟨Nat.le_of_ble_eq_true rfl, Nat.le_of_ble_eq_true rfl⟩ hK hN hP hS [0, 1, 2] rfl 0 (ci := 12) rfl rfl rfl hl.1 rfl (Nat.le_of_ble_eq_true rfl) dX12_district_58 ⟨Nat.zero_le _, Nat.zero_le _⟩ (fun r_13 H locs hr_13 hP hS => ?_)
          have hP9 := hP.sub (ws' := [(a 200, .inr (12, [.int v200_0, .ref (a 201), .ref (a 202), .ref (a 203), .ref (a 204), .int v200_5, .ref (a 205), .int v200_7, .int v200_8, .int v200_9, .int v200_10, .int v200_11, .int v200_12, .int v200_13, .ref (a 206), .int (u_7.1 0), .ref (a 207), .int (u_7.1 1), .int (u_7.1 2), .int v200_19, .ref (a 208), .int v200_21, .ref (a 209), .int v200_23, .ref (a 210), .ref (a 211), .ref (a 212), .int v200_27, .int v200_28, .int v200_29, .ref (a 213), .ref (a 214), .ref (a 215), .int v200_33, .int v200_34, .int v200_35, .ref (a 216), .ref (a 217), .ref (a 218), .ref (a 219)])), (a 201, .inl (t 0, 841, .inl f201)), (a 207, .inl (t 0, 9, .inl (u_7.2.1 0)))]) [0, 1, 2] rfl
          have hD9 := hD.sub (ws' := [(a 200, .inr (12, [.int v200_0, .ref (a 201), .ref (a 202), .ref (a 203), .ref (a 204), .int v200_5, .ref (a 205), .int v200_7, .int v200_8, .int v200_9, .int v200_10, .int v200_11, .int v200_12, .int v200_13, .ref (a 206), .int (u_7.1 0), .ref (a 207), .int (u_7.1 1), .int (u_7.1 2), .int v200_19, .ref (a 208), .int v200_21, .ref (a 209), .int v200_23, .ref (a 210), .ref (a 211), .ref (a 212), .int v200_27, .int v200_28, .int v200_29, .ref (a 213), .ref (a 214), .ref (a 215), .int v200_33, .int v200_34, .int v200_35, .ref (a 216), .ref (a 217), .ref (a 218), .ref (a 219)])), (a 201, .inl (t 0, 841, .inl f201)), (a 207, .inl (t 0, 9, .inl (u_7.2.1 0)))]) [0, 1, 2] (by decide) rfl
          exact W.iret (v := r_13) hx hb hr (fun t9 ht hW => ⟨⟨r_13, (fun k => [(u_7.1 0), (u_7.1 1), (u_7.1 2)].getD k 0, fun k => [(u_7.2.1 0)].getD k (fun _ => 0), fun k => [].getD k (fun _ => 0), fun _ => 0), rfl, trivial, by rw [ht]; exact hP9, hD9⟩, hS.F ht⟩) hS.2.2 dX12_district_61
        · skip
          have h_14 : rg 1 1 p1 := rg_eq c_11 (rg_c (x := 1) (k := 1) (by decide))
          refine lv_aload_n hx hb dX12_district_48 rfl (lv_at hl 0 rfl) ?_
          refine lv_iload_n hx hb dX12_district_49 rfl (lv_at hl 1 rfl) ?_
          refine y_pV hF (s_X12_standingIn l D t a v200_0 v200_5 v200_7 v200_8 v200_9 v200_10 v200_11 v200_12 v200_13 (u_7.1 0) (u_7.1 1) (u_7.1 2) v200_19 v200_21 v200_23 v200_27 v200_28 v200_29 v200_33 v200_34 v200_35 f201 p0 r200_5 r200_7 r200_8 r200_9 r200_23 q201) m_1652 m_1654 m_s65 m_13 m_1655 hd_X12_standingIn ⟨Nat.le_of_ble_eq_true rfl, Nat.le_of_ble_eq_true rfl⟩ hK hN hP hS [0, 1] rfl 0 (ci := 12) rfl rfl rfl hl.1 rfl (Nat.le_of_ble_eq_true rfl) dX12_district_50 ⟨Nat.zero_le _, Nat.zero_le _⟩ (fun r_15 H locs hr_15 hP hS => ?_)
          refine lv_goto (tgt := 61) hx hb dX12_district_53 (by decide) ?_
          have hP9 := hP.sub (ws' := [(a 200, .inr (12, [.int v200_0, .ref (a 201), .ref (a 202), .ref (a 203), .ref (a 204), .int v200_5, .ref (a 205), .int v200_7, .int v200_8, .int v200_9, .int v200_10, .int v200_11, .int v200_12, .int v200_13, .ref (a 206), .int (u_7.1 0), .ref (a 207), .int (u_7.1 1), .int (u_7.1 2), .int v200_19, .ref (a 208), .int v200_21, .ref (a 209), .int v200_23, .ref (a 210), .ref (a 211), .ref (a 212), .int v200_27, .int v200_28, .int v200_29, .ref (a 213), .ref (a 214), .ref (a 215), .int v200_33, .int v200_34, .int v200_35, .ref (a 216), .ref (a 217), .ref (a 218), .ref (a 219)])), (a 201, .inl (t 0, 841, .inl f201)), (a 207, .inl (t 0, 9, .inl (u_7.2.1 0)))]) [0, 1, 2] rfl
          have hD9 := hD.sub (ws' := [(a 200, .inr (12, [.int v200_0, .ref (a 201), .ref (a 202), .ref (a 203), .ref (a 204), .int v200_5, .ref (a 205), .int v200_7, .int v200_8, .int v200_9, .int v200_10, .int v200_11, .int v200_12, .int v200_13, .ref (a 206), .int (u_7.1 0), .ref (a 207), .int (u_7.1 1), .int (u_7.1 2), .int v200_19, .ref (a 208), .int v200_21, .ref (a 209), .int v200_23, .ref (a 210), .ref (a 211), .ref (a 212), .int v200_27, .int v200_28, .int v200_29, .ref (a 213), .ref (a 214), .ref (a 215), .int v200_33, .int v200_34, .int v200_35, .ref (a 216), .ref (a 217), .ref (a 218), .ref (a 219)])), (a 201, .inl (t 0, 841, .inl f201)), (a 207, .inl (t 0, 9, .inl (u_7.2.1 0)))]) [0, 1, 2] (by decide) rfl
          exact W.iret (v := r_15) hx hb hr (fun t9 ht hW => ⟨⟨r_15, (fun k => [(u_7.1 0), (u_7.1 1), (u_7.1 2)].getD k 0, fun k => [(u_7.2.1 0)].getD k (fun _ => 0), fun k => [].getD k (fun _ => 0), fun _ => 0), rfl, trivial, by rw [ht]; exact hP9, hD9⟩, hS.F ht⟩) hS.2.2 dX12_district_61
      · skip
        have h_16 : rg 0 0 p1 := rg_eq c_9 (rg_c (x := 0) (k := 0) (by decide))
        refine lv_aload_n hx hb dX12_district_31 rfl (lv_at hl 0 rfl) ?_
        refine va_get (D := D) (ci := 12) (v := .ref (a 201)) (C := RX12) (T := TX12) (N := 40) hx hb hts iX12 hown hK hP 0 rfl rfl 1 (by decide) (hts _ m_1344) (fun _ h9 => h9) rfl dX12_district_32 ?_
        refine lv_bipush (v := 12) hx hb dX12_district_35 (by decide) ?_
        refine lv_iload_n hx hb dX12_district_37 rfl (lv_at hl 1 rfl) ?_
        refine lv_iadd hx hb dX12_district_38 ?_
        refine lv_topi (fun x_17 ex_17 => ?_)
        have hx_17 : rg 12 15 x_17 := by rw [ex_17]; exact rg_add (rg_c (x := 12) (k := 12) (by decide)) o_3 (by decide) (by decide) (by decide) (by decide)
        refine va_iald hx hb hK hP 1 0 rfl rfl (in_rg hx_17 (by decide) (by decide)) dX12_district_39 ?_
        refine lv_topi (fun x_18 ex_18 => ?_)
        refine lv_goto (tgt := 61) hx hb dX12_district_40 (by decide) ?_
        have hP9 := hP.sub (ws' := [(a 200, .inr (12, [.int v200_0, .ref (a 201), .ref (a 202), .ref (a 203), .ref (a 204), .int v200_5, .ref (a 205), .int v200_7, .int v200_8, .int v200_9, .int v200_10, .int v200_11, .int v200_12, .int v200_13, .ref (a 206), .int (u_7.1 0), .ref (a 207), .int (u_7.1 1), .int (u_7.1 2), .int v200_19, .ref (a 208), .int v200_21, .ref (a 209), .int v200_23, .ref (a 210), .ref (a 211), .ref (a 212), .int v200_27, .int v200_28, .int v200_29, .ref (a 213), .ref (a 214), .ref (a 215), .int v200_33, .int v200_34, .int v200_35, .ref (a 216), .ref (a 217), .ref (a 218), .ref (a 219)])), (a 201, .inl (t 0, 841, .inl f201)), (a 207, .inl (t 0, 9, .inl (u_7.2.1 0)))]) [0, 1, 2] rfl
        have hD9 := hD.sub (ws' := [(a 200, .inr (12, [.int v200_0, .ref (a 201), .ref (a 202), .ref (a 203), .ref (a 204), .int v200_5, .ref (a 205), .int v200_7, .int v200_8, .int v200_9, .int v200_10, .int v200_11, .int v200_12, .int v200_13, .ref (a 206), .int (u_7.1 0), .ref (a 207), .int (u_7.1 1), .int (u_7.1 2), .int v200_19, .ref (a 208), .int v200_21, .ref (a 209), .int v200_23, .ref (a 210), .ref (a 211), .ref (a 212), .int v200_27, .int v200_28, .int v200_29, .ref (a 213), .ref (a 214), .ref (a 215), .int v200_33, .int v200_34, .int v200_35, .ref (a 216), .ref (a 217), .ref (a 218), .ref (a 219)])), (a 201, .inl (t 0, 841, .inl f201)), (a 207, .inl (t 0, 9, .inl (u_7.2.1 0)))]) [0, 1, 2] (by decide) rfl
        exact W.iret (v := x_18) hx hb hr (fun t9 ht hW => ⟨⟨x_18, (fun k => [(u_7.1 0), (u_7.1 1), (u_7.1 2)].getD k 0, fun k => [(u_7.2.1 0)].getD k (fun _ => 0), fun k => [].getD k (fun _ => 0), fun _ => 0), rfl, trivial, by rw [ht]; exact hP9, hD9⟩, hS.F ht⟩) hS.2.2 dX12_district_61
    · skip
      refine lv_bipush (v := (-2)) hx hb dX12_district_20 (by decide) ?_
      have hP9 := hP.sub (ws' := [(a 200, .inr (12, [.int v200_0, .ref (a 201), .ref (a 202), .ref (a 203), .ref (a 204), .int v200_5, .ref (a 205), .int v200_7, .int v200_8, .int v200_9, .int v200_10, .int v200_11, .int v200_12, .int v200_13, .ref (a 206), .int v200_15, .ref (a 207), .int v200_17, .int v200_18, .int v200_19, .ref (a 208), .int v200_21, .ref (a 209), .int v200_23, .ref (a 210), .ref (a 211), .ref (a 212), .int v200_27, .int v200_28, .int v200_29, .ref (a 213), .ref (a 214), .ref (a 215), .int v200_33, .int v200_34, .int v200_35, .ref (a 216), .ref (a 217), .ref (a 218), .ref (a 219)])), (a 201, .inl (t 0, 841, .inl f201)), (a 207, .inl (t 0, 9, .inl f207))]) [0, 1, 2] rfl
      have hD9 := hD.sub (ws' := [(a 200, .inr (12, [.int v200_0, .ref (a 201), .ref (a 202), .ref (a 203), .ref (a 204), .int v200_5, .ref (a 205), .int v200_7, .int v200_8, .int v200_9, .int v200_10, .int v200_11, .int v200_12, .int v200_13, .ref (a 206), .int v200_15, .ref (a 207), .int v200_17, .int v200_18, .int v200_19, .ref (a 208), .int v200_21, .ref (a 209), .int v200_23, .ref (a 210), .ref (a 211), .ref (a 212), .int v200_27, .int v200_28, .int v200_29, .ref (a 213), .ref (a 214), .ref (a 215), .int v200_33, .int v200_34, .int v200_35, .ref (a 216), .ref (a 217), .ref (a 218), .ref (a 219)])), (a 201, .inl (t 0, 841, .inl f201)), (a 207, .inl (t 0, 9, .inl f207))]) [0, 1, 2] (by decide) rfl
      exact W.iret (v := (-2)) hx hb hr (fun t9 ht hW => ⟨⟨(-2), (fun k => [v200_15, v200_17, v200_18].getD k 0, fun k => [f207].getD k (fun _ => 0), fun k => [].getD k (fun _ => 0), fun _ => 0), rfl, trivial, by rw [ht]; exact hP9, hD9⟩, hS.F ht⟩) hS.2.2 dX12_district_22

set_option maxHeartbeats 4000000 in
set_option maxRecDepth 100000 in
theorem s_X12_likes (l : Launch) (D : va_G) (t : Nat → ClassId) (a : Nat → Nat) (v200_0 : Int32) (v200_5 : Int32) (v200_7 : Int32) (v200_8 : Int32) (v200_9 : Int32) (v200_10 : Int32) (v200_11 : Int32) (v200_12 : Int32) (v200_13 : Int32) (v200_15 : Int32) (v200_17 : Int32) (v200_18 : Int32) (v200_19 : Int32) (v200_21 : Int32) (v200_23 : Int32) (v200_27 : Int32) (v200_28 : Int32) (v200_29 : Int32) (v200_33 : Int32) (v200_34 : Int32) (v200_35 : Int32) (f201 : Nat → Int32) (p0 : Int32) (p1 : Int32) (r200_5 : rg 0 1600 v200_5) (r200_7 : rg 0 1600 v200_7) (r200_8 : rg 0 1600 v200_8) (r200_9 : rg 0 1600 v200_9) (r200_23 : rg 0 9 v200_23) (q201 : wR f201) : Met l yX12_likes (wd yX12_likes cX12_likes 3 (some .int)) (RM 2 0 0) (PreP D (TY t) [.ref (a 200), .int p0, .int p1] [(a 200, .inr (12, [.int v200_0, .ref (a 201), .ref (a 202), .ref (a 203), .ref (a 204), .int v200_5, .ref (a 205), .int v200_7, .int v200_8, .int v200_9, .int v200_10, .int v200_11, .int v200_12, .int v200_13, .ref (a 206), .int v200_15, .ref (a 207), .int v200_17, .int v200_18, .int v200_19, .ref (a 208), .int v200_21, .ref (a 209), .int v200_23, .ref (a 210), .ref (a 211), .ref (a 212), .int v200_27, .int v200_28, .int v200_29, .ref (a 213), .ref (a 214), .ref (a 215), .int v200_33, .int v200_34, .int v200_35, .ref (a 216), .ref (a 217), .ref (a 218), .ref (a 219)])), (a 201, .inl (t 0, 841, .inl f201))]) (QP (fun r => rg (-2) 9 r)) 0 0 NoF := by
  refine Met.ofW (cc := cX12_likes) (maxL := 3) (ret := (some .int)) (by decide) rfl ?_
  intro p e s m args below meth c s₁ B hml hv
  obtain ⟨rfl, hP, hK, hN⟩ := hv
  have hx := B.exec
  have hb := B.bytes
  have hr := B.returns
  have hts : ∀ w ∈ TB, w.before _ s = true := fun w h => atoms_spec (ws := wd yX12_likes cX12_likes 3 (some .int)) B.pre w (List.mem_cons_of_mem _ h)
  have hown : s.vm.findClass RX12 = some m.cls := findClass_of_methodNamed B.named
  have hlocks := B.notSynchronized
  have hF : CallFix p m c cX12_likes 3 s _ TB RX12 := ⟨hx, hb, hml, hown, hts⟩
  have hl := lv_entry ([.ref (a 200), .int p0, .int p1]) (n := 3) (Nat.le_of_ble_eq_true rfl)
  rw [lg_entry_eq]
  generalize (lg_sl ([.ref (a 200), .int p0, .int p1]) ++ List.replicate (3 - (lg_sl ([.ref (a 200), .int p0, .int p1])).length) Slot.unset).toArray = ls at hl ⊢
  have hl : lv_has ls 3 [(0, .ref (a 200)), (1, .int p0), (2, .int p1)] := hl
  have hS : va_S NoF s.heap s.heap [] := va_S.rf
  have hP : va_P D classes [(a 200, .inr (12, [.int v200_0, .ref (a 201), .ref (a 202), .ref (a 203), .ref (a 204), .int v200_5, .ref (a 205), .int v200_7, .int v200_8, .int v200_9, .int v200_10, .int v200_11, .int v200_12, .int v200_13, .ref (a 206), .int v200_15, .ref (a 207), .int v200_17, .int v200_18, .int v200_19, .ref (a 208), .int v200_21, .ref (a 209), .int v200_23, .ref (a 210), .ref (a 211), .ref (a 212), .int v200_27, .int v200_28, .int v200_29, .ref (a 213), .ref (a 214), .ref (a 215), .int v200_33, .int v200_34, .int v200_35, .ref (a 216), .ref (a 217), .ref (a 218), .ref (a 219)])), (a 201, .inl (t 0, 841, .inl f201))] s.heap := hP
  refine lv_aload_n hx hb dX12_likes_0 rfl (lv_at hl 0 rfl) ?_
  refine lv_iload_n hx hb dX12_likes_1 rfl (lv_at hl 1 rfl) ?_
  refine y_pV hF (s_X12_isSpeaker l D t a v200_0 v200_5 v200_7 v200_8 v200_9 v200_10 v200_11 v200_12 v200_13 v200_15 v200_17 v200_18 v200_19 v200_21 v200_23 v200_27 v200_28 v200_29 v200_33 v200_34 v200_35 f201 p0 r200_5 r200_7 r200_8 r200_9 r200_23 q201) m_1623 m_1625 m_s59 m_13 m_1626 hd_X12_isSpeaker ⟨Nat.le_of_ble_eq_true rfl, Nat.le_of_ble_eq_true rfl⟩ hK hN hP hS [0, 1] rfl 0 (ci := 12) rfl rfl rfl hl.1 rfl (Nat.le_of_ble_eq_true rfl) dX12_likes_2 ⟨Nat.zero_le _, Nat.zero_le _⟩ (fun r_1 H locs hr_1 hP hS => ?_)
  refine lv_if_eq (tgt := 26) hx hb dX12_likes_5 (by decide) (fun c_2 => ?_) (fun c_2 => ?_)
  · skip
    refine lv_bipush (v := (-2)) hx hb dX12_likes_26 (by decide) ?_
    exact W.iret (v := (-2)) hx hb hr (fun t9 ht hW => ⟨⟨(-2), (), rfl, (rg_w (c := (-2)) (d := 9) (rg_c (x := (-2)) (k := (-2)) (by decide)) (by decide) (by decide)), trivial⟩, hS.F ht⟩) hS.2.2 dX12_likes_28
  · skip
    have o_3 := Or.resolve_left hr_1.2 c_2
    refine lv_aload_n hx hb dX12_likes_8 rfl (lv_at hl 0 rfl) ?_
    refine lv_iload_n hx hb dX12_likes_9 rfl (lv_at hl 2 rfl) ?_
    refine lv_i2l hx hb dX12_likes_10 rfl ?_
    refine y_pV hF (s_X12_isWord l D t a v200_0 v200_5 v200_7 v200_8 v200_9 v200_10 v200_11 v200_12 v200_13 v200_15 v200_17 v200_18 v200_19 v200_21 v200_23 v200_27 v200_28 v200_29 v200_33 v200_34 v200_35 f201 ((p1).toInt64) r200_5 r200_7 r200_8 r200_9 r200_23 q201) m_1607 m_1609 m_s57 m_13 m_1610 hd_X12_isWord ⟨Nat.le_of_ble_eq_true rfl, Nat.le_of_ble_eq_true rfl⟩ hK hN hP hS [0, 1] rfl 0 (ci := 12) rfl rfl rfl hl.1 rfl (Nat.le_of_ble_eq_true rfl) dX12_likes_11 ⟨Nat.zero_le _, Nat.zero_le _⟩ (fun r_4 H locs hr_4 hP hS => ?_)
    refine lv_if_eq (tgt := 26) hx hb dX12_likes_14 (by decide) (fun c_5 => ?_) (fun c_5 => ?_)
    · skip
      refine lv_bipush (v := (-2)) hx hb dX12_likes_26 (by decide) ?_
      exact W.iret (v := (-2)) hx hb hr (fun t9 ht hW => ⟨⟨(-2), (), rfl, (rg_w (c := (-2)) (d := 9) (rg_c (x := (-2)) (k := (-2)) (by decide)) (by decide) (by decide)), trivial⟩, hS.F ht⟩) hS.2.2 dX12_likes_28
    · skip
      have o_6 := Or.resolve_left hr_4.2 c_5
      refine lv_aload_n hx hb dX12_likes_17 rfl (lv_at hl 0 rfl) ?_
      refine lv_iload_n hx hb dX12_likes_18 rfl (lv_at hl 1 rfl) ?_
      refine lv_iload_n hx hb dX12_likes_19 rfl (lv_at hl 2 rfl) ?_
      refine y_pV hF (s_X12_likesOf l D t a v200_0 v200_5 v200_7 v200_8 v200_9 v200_10 v200_11 v200_12 v200_13 v200_15 v200_17 v200_18 v200_19 v200_21 v200_23 v200_27 v200_28 v200_29 v200_33 v200_34 v200_35 f201 p0 p1 r200_5 r200_7 r200_8 r200_9 r200_23 q201 o_3 (rl_i o_6)) m_1664 m_1666 m_s67 m_13 m_1667 hd_X12_likesOf ⟨Nat.le_of_ble_eq_true rfl, Nat.le_of_ble_eq_true rfl⟩ hK hN hP hS [0, 1] rfl 0 (ci := 12) rfl rfl rfl hl.1 rfl (Nat.le_of_ble_eq_true rfl) dX12_likes_20 ⟨Nat.zero_le _, Nat.zero_le _⟩ (fun r_7 H locs hr_7 hP hS => ?_)
      refine lv_goto (tgt := 28) hx hb dX12_likes_23 (by decide) ?_
      exact W.iret (v := r_7) hx hb hr (fun t9 ht hW => ⟨⟨r_7, (), rfl, (rg_w (c := (-2)) (d := 9) hr_7 (by decide) (by decide)), trivial⟩, hS.F ht⟩) hS.2.2 dX12_likes_28

