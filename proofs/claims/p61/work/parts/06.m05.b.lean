set_option maxHeartbeats 4000000 in
set_option maxRecDepth 100000 in
theorem s_X12_beatsOf (l : Launch) (D : va_G) (t : Nat → ClassId) (a : Nat → Nat) (v200_0 : Int32) (v200_5 : Int32) (v200_7 : Int32) (v200_8 : Int32) (v200_9 : Int32) (v200_10 : Int32) (v200_11 : Int32) (v200_12 : Int32) (v200_13 : Int32) (v200_15 : Int32) (v200_17 : Int32) (v200_18 : Int32) (v200_19 : Int32) (v200_21 : Int32) (v200_23 : Int32) (v200_27 : Int32) (v200_28 : Int32) (v200_29 : Int32) (v200_33 : Int32) (v200_34 : Int32) (v200_35 : Int32) (f201 : Nat → Int32) (f207 : Nat → Int32) (p0 : Int32) (p1 : Int32) (r200_5 : rg 0 1600 v200_5) (r200_7 : rg 0 1600 v200_7) (r200_8 : rg 0 1600 v200_8) (r200_9 : rg 0 1600 v200_9) (r200_23 : rg 0 9 v200_23) (q201 : wR f201) (rp0 : rg 0 8 p0) (rp1 : rg 0 8 p1) : Met l yX12_beatsOf (wd yX12_beatsOf cX12_beatsOf 5 (some .int)) (RM 3 0 0) (PreP D (TY t) [.ref (a 200), .int p0, .int p1] [(a 200, .inr (12, [.int v200_0, .ref (a 201), .ref (a 202), .ref (a 203), .ref (a 204), .int v200_5, .ref (a 205), .int v200_7, .int v200_8, .int v200_9, .int v200_10, .int v200_11, .int v200_12, .int v200_13, .ref (a 206), .int v200_15, .ref (a 207), .int v200_17, .int v200_18, .int v200_19, .ref (a 208), .int v200_21, .ref (a 209), .int v200_23, .ref (a 210), .ref (a 211), .ref (a 212), .int v200_27, .int v200_28, .int v200_29, .ref (a 213), .ref (a 214), .ref (a 215), .int v200_33, .int v200_34, .int v200_35, .ref (a 216), .ref (a 217), .ref (a 218), .ref (a 219)])), (a 201, .inl (t 0, 841, .inl f201)), (a 207, .inl (t 0, 9, .inl f207))]) (QP (fun _ => True)) 0 0 NoF := by
  refine Met.ofW (cc := cX12_beatsOf) (maxL := 5) (ret := (some .int)) (by decide) rfl ?_
  intro p e s m args below meth c s₁ B hml hv
  obtain ⟨rfl, hP, hK, hN⟩ := hv
  have hx := B.exec
  have hb := B.bytes
  have hr := B.returns
  have hts : ∀ w ∈ TB, w.before _ s = true := fun w h => atoms_spec (ws := wd yX12_beatsOf cX12_beatsOf 5 (some .int)) B.pre w (List.mem_cons_of_mem _ h)
  have hown : s.vm.findClass RX12 = some m.cls := findClass_of_methodNamed B.named
  have hlocks := B.notSynchronized
  have hF : CallFix p m c cX12_beatsOf 5 s _ TB RX12 := ⟨hx, hb, hml, hown, hts⟩
  have hl := lv_entry ([.ref (a 200), .int p0, .int p1]) (n := 5) (Nat.le_of_ble_eq_true rfl)
  rw [lg_entry_eq]
  generalize (lg_sl ([.ref (a 200), .int p0, .int p1]) ++ List.replicate (5 - (lg_sl ([.ref (a 200), .int p0, .int p1])).length) Slot.unset).toArray = ls at hl ⊢
  have hl : lv_has ls 5 [(0, .ref (a 200)), (1, .int p0), (2, .int p1)] := hl
  have hS : va_S NoF s.heap s.heap [] := va_S.rf
  have hP : va_P D classes [(a 200, .inr (12, [.int v200_0, .ref (a 201), .ref (a 202), .ref (a 203), .ref (a 204), .int v200_5, .ref (a 205), .int v200_7, .int v200_8, .int v200_9, .int v200_10, .int v200_11, .int v200_12, .int v200_13, .ref (a 206), .int v200_15, .ref (a 207), .int v200_17, .int v200_18, .int v200_19, .ref (a 208), .int v200_21, .ref (a 209), .int v200_23, .ref (a 210), .ref (a 211), .ref (a 212), .int v200_27, .int v200_28, .int v200_29, .ref (a 213), .ref (a 214), .ref (a 215), .int v200_33, .int v200_34, .int v200_35, .ref (a 216), .ref (a 217), .ref (a 218), .ref (a 219)])), (a 201, .inl (t 0, 841, .inl f201)), (a 207, .inl (t 0, 9, .inl f207))] s.heap := hP
  refine lv_iconst (v := 0) hx hb dX12_beatsOf_0 (by decide) ?_
  refine lv_istore_n (lv' := [(3, .int 0), (0, .ref (a 200)), (1, .int p0), (2, .int p1)]) hx hb dX12_beatsOf_1 rfl hl (by decide) rfl (fun ls hl => ?_)
  refine lv_iconst (v := 0) hx hb dX12_beatsOf_2 (by decide) ?_
  refine lv_istore (lv' := [(4, .int 0), (3, .int 0), (0, .ref (a 200)), (1, .int p0), (2, .int p1)]) hx hb dX12_beatsOf_3 hl (by decide) rfl (fun ls hl => ?_)
  refine loopW (α := US) (fun n y_1 H locs ls => 9 < (y_1.1 0).toInt + (n : Int) ∧ rg 0 9 (y_1.1 0) ∧ va_P D classes [(a 200, .inr (12, [.int v200_0, .ref (a 201), .ref (a 202), .ref (a 203), .ref (a 204), .int v200_5, .ref (a 205), .int v200_7, .int v200_8, .int v200_9, .int v200_10, .int v200_11, .int v200_12, .int v200_13, .ref (a 206), .int v200_15, .ref (a 207), .int v200_17, .int v200_18, .int v200_19, .ref (a 208), .int v200_21, .ref (a 209), .int v200_23, .ref (a 210), .ref (a 211), .ref (a 212), .int v200_27, .int v200_28, .int v200_29, .ref (a 213), .ref (a 214), .ref (a 215), .int v200_33, .int v200_34, .int v200_35, .ref (a 216), .ref (a 217), .ref (a 218), .ref (a 219)])), (a 201, .inl (t 0, 841, .inl f201)), (a 207, .inl (t 0, 9, .inl f207))] H ∧ va_S NoF s.heap H locs ∧ lv_has ls 5 [(4, .int (y_1.1 0)), (3, .int (y_1.1 1)), (0, .ref (a 200)), (1, .int p0), (2, .int p1)]) 5 (fun y_1 => []) (fun _ _ _ _ h9 => m_0 h9.1 h9.2.1) (fun n ih_3 y_1 H locs ls hI => ?_) 10 (fun k => [0, 0].getD k 0, fun k => [].getD k (fun _ => 0), fun k => [].getD k (fun _ => 0), fun k => [].getD k 0) ⟨(m_i (rg_c (x := 0) (k := 0) (by decide)) (by decide)), (rg_w (c := 0) (d := 9) (rg_c (x := 0) (k := 0) (by decide)) (by decide) (by decide)), hP, hS, (lv_sub hl [0, 1, 2, 3, 4] rfl)⟩
  obtain ⟨me_4, h_2, hP, hS, hl⟩ := hI
  refine lv_iload hx hb dX12_beatsOf_5 (lv_at hl 0 rfl) ?_
  refine lv_aload_n hx hb dX12_beatsOf_7 rfl (lv_at hl 2 rfl) ?_
  refine va_get (D := D) (ci := 12) (v := .ref (a 201)) (C := RX12) (T := TX12) (N := 40) hx hb hts iX12 hown hK hP 0 rfl rfl 1 (by decide) (hts _ m_1344) (fun _ h9 => h9) rfl dX12_beatsOf_8 ?_
  refine lv_bipush (v := 6) hx hb dX12_beatsOf_11 (by decide) ?_
  refine va_iald hx hb hK hP 1 0 rfl rfl (in_rg (rg_c (x := 6) (k := 6) (by decide)) (by decide) (by decide)) dX12_beatsOf_13 ?_
  refine x_seti (f201 6) rfl ?_
  have h_5 : rg 0 9 (f201 6) := q201 6 (by decide)
  refine lv_icmp_ge (tgt := 84) hx hb dX12_beatsOf_14 (by decide) (fun c_6 => ?_) (fun c_6 => ?_)
  · skip
    refine lv_iload_n hx hb dX12_beatsOf_84 rfl (lv_at hl 1 rfl) ?_
    exact W.iret (v := (y_1.1 1)) hx hb hr (fun t9 ht hW => ⟨⟨(y_1.1 1), (), rfl, trivial, trivial⟩, hS.F ht⟩) hS.2.2 dX12_beatsOf_85
  · skip
    have h_7 : rg 0 8 (y_1.1 0) := ⟨(h_2).1, Int.le_trans (c_nleR c_6 h_5) (by decide)⟩
    have h_8 : rg 1 9 (f201 6) := ⟨Int.le_trans (by decide) (c_nle c_6 h_2), (h_5).2⟩
    refine lv_iload_n hx hb dX12_beatsOf_17 rfl (lv_at hl 1 rfl) ?_
    refine lv_aload_n hx hb dX12_beatsOf_18 rfl (lv_at hl 2 rfl) ?_
    refine va_get (D := D) (ci := 12) (v := .ref (a 207)) (C := RX12) (T := TX12) (N := 40) hx hb hts iX12 hown hK hP 0 rfl rfl 16 (by decide) (hts _ m_1359) (fun _ h9 => h9) rfl dX12_beatsOf_19 ?_
    refine lv_iload hx hb dX12_beatsOf_22 (lv_at hl 0 rfl) ?_
    refine va_iald hx hb hK hP 2 0 rfl rfl (in_rg h_7 (by decide) (by decide)) dX12_beatsOf_24 ?_
    refine lv_topi (fun x_9 ex_9 => ?_)
    refine lv_aload_n hx hb dX12_beatsOf_25 rfl (lv_at hl 2 rfl) ?_
    refine lv_iload_n hx hb dX12_beatsOf_26 rfl (lv_at hl 3 rfl) ?_
    refine lv_iconst (v := 1) hx hb dX12_beatsOf_27 (by decide) ?_
    refine y_pV hF (s_ofWord1 l D t a v200_0 v200_5 v200_7 v200_8 v200_9 v200_10 v200_11 v200_12 v200_13 v200_15 v200_17 v200_18 v200_19 v200_21 v200_23 v200_27 v200_28 v200_29 v200_33 v200_34 v200_35 f201 p0 1 r200_5 r200_7 r200_8 r200_9 r200_23 q201 rp0 (rg_c (x := 1) (k := 1) (by decide))) m_1612 m_1614 m_s58 m_13 m_1615 hd_X12_ofWord ⟨Nat.le_of_ble_eq_true rfl, Nat.le_of_ble_eq_true rfl⟩ hK hN hP hS [0, 1] rfl 0 (ci := 12) rfl rfl rfl hl.1 rfl (Nat.le_of_ble_eq_true rfl) dX12_beatsOf_28 ⟨Nat.zero_le _, Nat.zero_le _⟩ (fun r_10 H locs hr_10 hP hS => ?_)
    refine lv_icmp_ne (tgt := 75) hx hb dX12_beatsOf_31 (by decide) (fun c_11 => ?_) (fun c_11 => ?_)
    · skip
      refine lv_iconst (v := 0) hx hb dX12_beatsOf_75 (by decide) ?_
      refine lv_iadd hx hb dX12_beatsOf_76 ?_
      refine lv_topi (fun x_12 ex_12 => ?_)
      refine lv_istore_n (lv' := [(3, .int x_12), (4, .int (y_1.1 0)), (0, .ref (a 200)), (1, .int p0), (2, .int p1)]) hx hb dX12_beatsOf_77 rfl hl (by decide) rfl (fun ls hl => ?_)
      obtain ⟨x_13, ex_13⟩ : ∃ y9 : Int32, y9 = (y_1.1 0) + 1 := ⟨_, rfl⟩
      have hx_13 : rg 1 9 x_13 := by rw [ex_13]; exact rg_add h_7 (rg_c (x := 1) (k := 1) (by decide)) (by decide) (by decide) (by decide) (by decide)
      have tx_13 : x_13.toInt = (y_1.1 0).toInt + 1 := by rw [ex_13]; exact inc_tk h_7 (by decide) (by decide) (by decide)
      refine lv_iinc (v := x_13) (lv' := [(4, .int x_13), (3, .int x_12), (0, .ref (a 200)), (1, .int p0), (2, .int p1)]) hx hb dX12_beatsOf_78 hl (k := 1) rfl (by rw [ex_13]; rfl) (by decide) rfl (fun ls hl => ?_)
      refine lv_goto (tgt := 5) hx hb dX12_beatsOf_81 (by decide) ?_
      exact ih_3 (fun k => [x_13, x_12].getD k 0, fun k => [].getD k (fun _ => 0), fun k => [].getD k (fun _ => 0), fun k => [].getD k 0) _ _ ls ⟨(m_upk me_4 tx_13 (by decide)), (rg_w (c := 0) (d := 9) hx_13 (by decide) (by decide)), hP, hS, (lv_sub hl [0, 1, 2, 3, 4] rfl)⟩
    · skip
      have h_14 : rg 0 3 x_9 := rg_eq c_11 hr_10
      refine lv_aload_n hx hb dX12_beatsOf_34 rfl (lv_at hl 2 rfl) ?_
      refine lv_iload hx hb dX12_beatsOf_35 (lv_at hl 0 rfl) ?_
      refine lv_iload_n hx hb dX12_beatsOf_37 rfl (lv_at hl 3 rfl) ?_
      refine y_pV hF (s_X12_isLiked l D t a v200_0 v200_5 v200_7 v200_8 v200_9 v200_10 v200_11 v200_12 v200_13 v200_15 v200_17 v200_18 v200_19 v200_21 v200_23 v200_27 v200_28 v200_29 v200_33 v200_34 v200_35 f201 (y_1.1 0) p0 r200_5 r200_7 r200_8 r200_9 r200_23 q201 h_7 rp0) m_1679 m_1681 m_s69 m_13 m_1682 hd_X12_isLiked ⟨Nat.le_of_ble_eq_true rfl, Nat.le_of_ble_eq_true rfl⟩ hK hN hP hS [0, 1] rfl 0 (ci := 12) rfl rfl rfl hl.1 rfl (Nat.le_of_ble_eq_true rfl) dX12_beatsOf_38 ⟨Nat.zero_le _, Nat.zero_le _⟩ (fun r_15 H locs hr_15 hP hS => ?_)
      refine lv_if_eq (tgt := 75) hx hb dX12_beatsOf_41 (by decide) (fun c_16 => ?_) (fun c_16 => ?_)
      · skip
        have h_17 : rg 0 0 r_15 := rg_eq c_16 (rg_c (x := 0) (k := 0) (by decide))
        refine lv_iconst (v := 0) hx hb dX12_beatsOf_75 (by decide) ?_
        refine lv_iadd hx hb dX12_beatsOf_76 ?_
        refine lv_topi (fun x_18 ex_18 => ?_)
        refine lv_istore_n (lv' := [(3, .int x_18), (4, .int (y_1.1 0)), (0, .ref (a 200)), (1, .int p0), (2, .int p1)]) hx hb dX12_beatsOf_77 rfl hl (by decide) rfl (fun ls hl => ?_)
        obtain ⟨x_19, ex_19⟩ : ∃ y9 : Int32, y9 = (y_1.1 0) + 1 := ⟨_, rfl⟩
        have hx_19 : rg 1 9 x_19 := by rw [ex_19]; exact rg_add h_7 (rg_c (x := 1) (k := 1) (by decide)) (by decide) (by decide) (by decide) (by decide)
        have tx_19 : x_19.toInt = (y_1.1 0).toInt + 1 := by rw [ex_19]; exact inc_tk h_7 (by decide) (by decide) (by decide)
        refine lv_iinc (v := x_19) (lv' := [(4, .int x_19), (3, .int x_18), (0, .ref (a 200)), (1, .int p0), (2, .int p1)]) hx hb dX12_beatsOf_78 hl (k := 1) rfl (by rw [ex_19]; rfl) (by decide) rfl (fun ls hl => ?_)
        refine lv_goto (tgt := 5) hx hb dX12_beatsOf_81 (by decide) ?_
        exact ih_3 (fun k => [x_19, x_18].getD k 0, fun k => [].getD k (fun _ => 0), fun k => [].getD k (fun _ => 0), fun k => [].getD k 0) _ _ ls ⟨(m_upk me_4 tx_19 (by decide)), (rg_w (c := 0) (d := 9) hx_19 (by decide) (by decide)), hP, hS, (lv_sub hl [0, 1, 2, 3, 4] rfl)⟩
      · skip
        have h_20 : rg 1 1 r_15 := rg_w (rg_neL hr_15 c_16 (by decide)) (by decide) (by decide)
        refine lv_aload_n hx hb dX12_beatsOf_44 rfl (lv_at hl 2 rfl) ?_
        refine lv_iload hx hb dX12_beatsOf_45 (lv_at hl 0 rfl) ?_
        refine lv_iload_n hx hb dX12_beatsOf_47 rfl (lv_at hl 4 rfl) ?_
        refine y_pV hF (s_X12_isLiked l D t a v200_0 v200_5 v200_7 v200_8 v200_9 v200_10 v200_11 v200_12 v200_13 v200_15 v200_17 v200_18 v200_19 v200_21 v200_23 v200_27 v200_28 v200_29 v200_33 v200_34 v200_35 f201 (y_1.1 0) p1 r200_5 r200_7 r200_8 r200_9 r200_23 q201 h_7 rp1) m_1679 m_1681 m_s69 m_13 m_1682 hd_X12_isLiked ⟨Nat.le_of_ble_eq_true rfl, Nat.le_of_ble_eq_true rfl⟩ hK hN hP hS [0, 1] rfl 0 (ci := 12) rfl rfl rfl hl.1 rfl (Nat.le_of_ble_eq_true rfl) dX12_beatsOf_48 ⟨Nat.zero_le _, Nat.zero_le _⟩ (fun r_21 H locs hr_21 hP hS => ?_)
        refine lv_if_eq (tgt := 65) hx hb dX12_beatsOf_51 (by decide) (fun c_22 => ?_) (fun c_22 => ?_)
        · skip
          have h_23 : rg 0 0 r_21 := rg_eq c_22 (rg_c (x := 0) (k := 0) (by decide))
          refine lv_aload_n hx hb dX12_beatsOf_65 rfl (lv_at hl 2 rfl) ?_
          refine lv_iload hx hb dX12_beatsOf_66 (lv_at hl 0 rfl) ?_
          refine lv_iconst (v := 1) hx hb dX12_beatsOf_68 (by decide) ?_
          refine y_pV hF (s_ofSpeaker1 l D t a v200_0 v200_5 v200_7 v200_8 v200_9 v200_10 v200_11 v200_12 v200_13 v200_15 v200_17 v200_18 v200_19 v200_21 v200_23 v200_27 v200_28 v200_29 v200_33 v200_34 v200_35 f201 (y_1.1 0) 1 r200_5 r200_7 r200_8 r200_9 r200_23 q201 h_7 (rg_c (x := 1) (k := 1) (by decide))) m_1628 m_1630 m_s60 m_13 m_1631 hd_X12_ofSpeaker ⟨Nat.le_of_ble_eq_true rfl, Nat.le_of_ble_eq_true rfl⟩ hK hN hP hS [0, 1] rfl 0 (ci := 12) rfl rfl rfl hl.1 rfl (Nat.le_of_ble_eq_true rfl) dX12_beatsOf_69 ⟨Nat.zero_le _, Nat.zero_le _⟩ (fun r_24 H locs hr_24 hP hS => ?_)
          refine lv_goto (tgt := 76) hx hb dX12_beatsOf_72 (by decide) ?_
          refine lv_iadd hx hb dX12_beatsOf_76 ?_
          refine lv_topi (fun x_25 ex_25 => ?_)
          refine lv_istore_n (lv' := [(3, .int x_25), (4, .int (y_1.1 0)), (0, .ref (a 200)), (1, .int p0), (2, .int p1)]) hx hb dX12_beatsOf_77 rfl hl (by decide) rfl (fun ls hl => ?_)
          obtain ⟨x_26, ex_26⟩ : ∃ y9 : Int32, y9 = (y_1.1 0) + 1 := ⟨_, rfl⟩
          have hx_26 : rg 1 9 x_26 := by rw [ex_26]; exact rg_add h_7 (rg_c (x := 1) (k := 1) (by decide)) (by decide) (by decide) (by decide) (by decide)
          have tx_26 : x_26.toInt = (y_1.1 0).toInt + 1 := by rw [ex_26]; exact inc_tk h_7 (by decide) (by decide) (by decide)
          refine lv_iinc (v := x_26) (lv' := [(4, .int x_26), (3, .int x_25), (0, .ref (a 200)), (1, .int p0), (2, .int p1)]) hx hb dX12_beatsOf_78 hl (k := 1) rfl (by rw [ex_26]; rfl) (by decide) rfl (fun ls hl => ?_)
          refine lv_goto (tgt := 5) hx hb dX12_beatsOf_81 (by decide) ?_
          exact ih_3 (fun k => [x_26, x_25].getD k 0, fun k => [].getD k (fun _ => 0), fun k => [].getD k (fun _ => 0), fun k => [].getD k 0) _ _ ls ⟨(m_upk me_4 tx_26 (by decide)), (rg_w (c := 0) (d := 9) hx_26 (by decide) (by decide)), hP, hS, (lv_sub hl [0, 1, 2, 3, 4] rfl)⟩
        · skip
          have h_27 : rg 1 1 r_21 := rg_w (rg_neL hr_21 c_22 (by decide)) (by decide) (by decide)
          refine lv_aload_n hx hb dX12_beatsOf_54 rfl (lv_at hl 2 rfl) ?_
          refine lv_iload hx hb dX12_beatsOf_55 (lv_at hl 0 rfl) ?_
          refine lv_iload_n hx hb dX12_beatsOf_57 rfl (lv_at hl 3 rfl) ?_
          refine lv_iload_n hx hb dX12_beatsOf_58 rfl (lv_at hl 4 rfl) ?_
          refine y_pV hF (s_X12_isAhead l D t a v200_0 v200_5 v200_7 v200_8 v200_9 v200_10 v200_11 v200_12 v200_13 v200_15 v200_17 v200_18 v200_19 v200_21 v200_23 v200_27 v200_28 v200_29 v200_33 v200_34 v200_35 f201 (y_1.1 0) p0 p1 r200_5 r200_7 r200_8 r200_9 r200_23 q201 h_7 rp0 rp1) m_1683 m_1685 m_s70 m_13 m_1686 hd_X12_isAhead ⟨Nat.le_of_ble_eq_true rfl, Nat.le_of_ble_eq_true rfl⟩ hK hN hP hS [0, 1] rfl 0 (ci := 12) rfl rfl rfl hl.1 rfl (Nat.le_of_ble_eq_true rfl) dX12_beatsOf_59 ⟨Nat.zero_le _, Nat.zero_le _⟩ (fun r_28 H locs hr_28 hP hS => ?_)
          refine lv_if_eq (tgt := 75) hx hb dX12_beatsOf_62 (by decide) (fun c_29 => ?_) (fun c_29 => ?_)
          · skip
            have h_30 : rg 0 0 r_28 := rg_eq c_29 (rg_c (x := 0) (k := 0) (by decide))
            refine lv_iconst (v := 0) hx hb dX12_beatsOf_75 (by decide) ?_
            refine lv_iadd hx hb dX12_beatsOf_76 ?_
            refine lv_topi (fun x_31 ex_31 => ?_)
            refine lv_istore_n (lv' := [(3, .int x_31), (4, .int (y_1.1 0)), (0, .ref (a 200)), (1, .int p0), (2, .int p1)]) hx hb dX12_beatsOf_77 rfl hl (by decide) rfl (fun ls hl => ?_)
            obtain ⟨x_32, ex_32⟩ : ∃ y9 : Int32, y9 = (y_1.1 0) + 1 := ⟨_, rfl⟩
            have hx_32 : rg 1 9 x_32 := by rw [ex_32]; exact rg_add h_7 (rg_c (x := 1) (k := 1) (by decide)) (by decide) (by decide) (by decide) (by decide)
            have tx_32 : x_32.toInt = (y_1.1 0).toInt + 1 := by rw [ex_32]; exact inc_tk h_7 (by decide) (by decide) (by decide)
            refine lv_iinc (v := x_32) (lv' := [(4, .int x_32), (3, .int x_31), (0, .ref (a 200)), (1, .int p0), (2, .int p1)]) hx hb dX12_beatsOf_78 hl (k := 1) rfl (by rw [ex_32]; rfl) (by decide) rfl (fun ls hl => ?_)
            refine lv_goto (tgt := 5) hx hb dX12_beatsOf_81 (by decide) ?_
            exact ih_3 (fun k => [x_32, x_31].getD k 0, fun k => [].getD k (fun _ => 0), fun k => [].getD k (fun _ => 0), fun k => [].getD k 0) _ _ ls ⟨(m_upk me_4 tx_32 (by decide)), (rg_w (c := 0) (d := 9) hx_32 (by decide) (by decide)), hP, hS, (lv_sub hl [0, 1, 2, 3, 4] rfl)⟩
          · skip
            have h_33 : rg 1 1 r_28 := rg_w (rg_neL hr_28 c_29 (by decide)) (by decide) (by decide)
            refine lv_aload_n hx hb dX12_beatsOf_65 rfl (lv_at hl 2 rfl) ?_
            refine lv_iload hx hb dX12_beatsOf_66 (lv_at hl 0 rfl) ?_
            refine lv_iconst (v := 1) hx hb dX12_beatsOf_68 (by decide) ?_
            refine y_pV hF (s_ofSpeaker1 l D t a v200_0 v200_5 v200_7 v200_8 v200_9 v200_10 v200_11 v200_12 v200_13 v200_15 v200_17 v200_18 v200_19 v200_21 v200_23 v200_27 v200_28 v200_29 v200_33 v200_34 v200_35 f201 (y_1.1 0) 1 r200_5 r200_7 r200_8 r200_9 r200_23 q201 h_7 (rg_c (x := 1) (k := 1) (by decide))) m_1628 m_1630 m_s60 m_13 m_1631 hd_X12_ofSpeaker ⟨Nat.le_of_ble_eq_true rfl, Nat.le_of_ble_eq_true rfl⟩ hK hN hP hS [0, 1] rfl 0 (ci := 12) rfl rfl rfl hl.1 rfl (Nat.le_of_ble_eq_true rfl) dX12_beatsOf_69 ⟨Nat.zero_le _, Nat.zero_le _⟩ (fun r_34 H locs hr_34 hP hS => ?_)
            refine lv_goto (tgt := 76) hx hb dX12_beatsOf_72 (by decide) ?_
            refine lv_iadd hx hb dX12_beatsOf_76 ?_
            refine lv_topi (fun x_35 ex_35 => ?_)
            refine lv_istore_n (lv' := [(3, .int x_35), (4, .int (y_1.1 0)), (0, .ref (a 200)), (1, .int p0), (2, .int p1)]) hx hb dX12_beatsOf_77 rfl hl (by decide) rfl (fun ls hl => ?_)
            obtain ⟨x_36, ex_36⟩ : ∃ y9 : Int32, y9 = (y_1.1 0) + 1 := ⟨_, rfl⟩
            have hx_36 : rg 1 9 x_36 := by rw [ex_36]; exact rg_add h_7 (rg_c (x := 1) (k := 1) (by decide)) (by decide) (by decide) (by decide) (by decide)
            have tx_36 : x_36.toInt = (y_1.1 0).toInt + 1 := by rw [ex_36]; exact inc_tk h_7 (by decide) (by decide) (by decide)
            refine lv_iinc (v := x_36) (lv' := [(4, .int x_36), (3, .int x_35), (0, .ref (a 200)), (1, .int p0), (2, .int p1)]) hx hb dX12_beatsOf_78 hl (k := 1) rfl (by rw [ex_36]; rfl) (by decide) rfl (fun ls hl => ?_)
            refine lv_goto (tgt := 5) hx hb dX12_beatsOf_81 (by decide) ?_
            exact ih_3 (fun k => [x_36, x_35].getD k 0, fun k => [].getD k (fun _ => 0), fun k => [].getD k (fun _ => 0), fun k => [].getD k 0) _ _ ls ⟨(m_upk me_4 tx_36 (by decide)), (rg_w (c := 0) (d := 9) hx_36 (by decide) (by decide)), hP, hS, (lv_sub hl [0, 1, 2, 3, 4] rfl)⟩

set_option maxHeartbeats 4000000 in
set_option maxRecDepth 100000 in
theorem s_X12_beats (l : Launch) (D : va_G) (t : Nat → ClassId) (a : Nat → Nat) (v200_0 : Int32) (v200_5 : Int32) (v200_7 : Int32) (v200_8 : Int32) (v200_9 : Int32) (v200_10 : Int32) (v200_11 : Int32) (v200_12 : Int32) (v200_13 : Int32) (v200_15 : Int32) (v200_17 : Int32) (v200_18 : Int32) (v200_19 : Int32) (v200_21 : Int32) (v200_23 : Int32) (v200_27 : Int32) (v200_28 : Int32) (v200_29 : Int32) (v200_33 : Int32) (v200_34 : Int32) (v200_35 : Int32) (f201 : Nat → Int32) (f207 : Nat → Int32) (p0 : Int32) (p1 : Int32) (r200_5 : rg 0 1600 v200_5) (r200_7 : rg 0 1600 v200_7) (r200_8 : rg 0 1600 v200_8) (r200_9 : rg 0 1600 v200_9) (r200_23 : rg 0 9 v200_23) (q201 : wR f201) (sz : Nat) : Met l yX12_beats (wd yX12_beats cX12_beats 3 (some .int)) (RM 4 0 0) (PreW D (TY t) [.ref (a 200), .int p0, .int p1] [(a 200, .inr (12, [.int v200_0, .ref (a 201), .ref (a 202), .ref (a 203), .ref (a 204), .int v200_5, .ref (a 205), .int v200_7, .int v200_8, .int v200_9, .int v200_10, .int v200_11, .int v200_12, .int v200_13, .ref (a 206), .int v200_15, .ref (a 207), .int v200_17, .int v200_18, .int v200_19, .ref (a 208), .int v200_21, .ref (a 209), .int v200_23, .ref (a 210), .ref (a 211), .ref (a 212), .int v200_27, .int v200_28, .int v200_29, .ref (a 213), .ref (a 214), .ref (a 215), .int v200_33, .int v200_34, .int v200_35, .ref (a 216), .ref (a 217), .ref (a 218), .ref (a 219)])), (a 201, .inl (t 0, 841, .inl f201)), (a 207, .inl (t 0, 9, .inl f207))] sz) (va_Qi (fun (_ : Int32) (_ : US) => True) (fun (u : US) t9 => va_P D classes ((fun u : US => [(a 200, .inr (12, [.int v200_0, .ref (a 201), .ref (a 202), .ref (a 203), .ref (a 204), .int v200_5, .ref (a 205), .int v200_7, .int v200_8, .int v200_9, .int v200_10, .int v200_11, .int v200_12, .int v200_13, .ref (a 206), .int (u.1 0), .ref (a 207), .int (u.1 1), .int (u.1 2), .int v200_19, .ref (a 208), .int v200_21, .ref (a 209), .int v200_23, .ref (a 210), .ref (a 211), .ref (a 212), .int v200_27, .int v200_28, .int v200_29, .ref (a 213), .ref (a 214), .ref (a 215), .int v200_33, .int v200_34, .int v200_35, .ref (a 216), .ref (a 217), .ref (a 218), .ref (a 219)])), (a 201, .inl (t 0, 841, .inl f201)), (a 207, .inl (t 0, 9, .inl (u.2.1 0)))]) u) t9.heap ∧ va_D (va_A [(a 200, .inr (12, [.int v200_0, .ref (a 201), .ref (a 202), .ref (a 203), .ref (a 204), .int v200_5, .ref (a 205), .int v200_7, .int v200_8, .int v200_9, .int v200_10, .int v200_11, .int v200_12, .int v200_13, .ref (a 206), .int v200_15, .ref (a 207), .int v200_17, .int v200_18, .int v200_19, .ref (a 208), .int v200_21, .ref (a 209), .int v200_23, .ref (a 210), .ref (a 211), .ref (a 212), .int v200_27, .int v200_28, .int v200_29, .ref (a 213), .ref (a 214), .ref (a 215), .int v200_33, .int v200_34, .int v200_35, .ref (a 216), .ref (a 217), .ref (a 218), .ref (a 219)])), (a 201, .inl (t 0, 841, .inl f201)), (a 207, .inl (t 0, 9, .inl f207))] sz) ((fun u : US => [(a 200, .inr (12, [.int v200_0, .ref (a 201), .ref (a 202), .ref (a 203), .ref (a 204), .int v200_5, .ref (a 205), .int v200_7, .int v200_8, .int v200_9, .int v200_10, .int v200_11, .int v200_12, .int v200_13, .ref (a 206), .int (u.1 0), .ref (a 207), .int (u.1 1), .int (u.1 2), .int v200_19, .ref (a 208), .int v200_21, .ref (a 209), .int v200_23, .ref (a 210), .ref (a 211), .ref (a 212), .int v200_27, .int v200_28, .int v200_29, .ref (a 213), .ref (a 214), .ref (a 215), .int v200_33, .int v200_34, .int v200_35, .ref (a 216), .ref (a 217), .ref (a 218), .ref (a 219)])), (a 201, .inl (t 0, 841, .inl f201)), (a 207, .inl (t 0, 9, .inl (u.2.1 0)))]) u)) (va_A [(a 200, .inr (12, [.int v200_0, .ref (a 201), .ref (a 202), .ref (a 203), .ref (a 204), .int v200_5, .ref (a 205), .int v200_7, .int v200_8, .int v200_9, .int v200_10, .int v200_11, .int v200_12, .int v200_13, .ref (a 206), .int v200_15, .ref (a 207), .int v200_17, .int v200_18, .int v200_19, .ref (a 208), .int v200_21, .ref (a 209), .int v200_23, .ref (a 210), .ref (a 211), .ref (a 212), .int v200_27, .int v200_28, .int v200_29, .ref (a 213), .ref (a 214), .ref (a 215), .int v200_33, .int v200_34, .int v200_35, .ref (a 216), .ref (a 217), .ref (a 218), .ref (a 219)])), (a 201, .inl (t 0, 841, .inl f201)), (a 207, .inl (t 0, 9, .inl f207))] sz)) 0 0 (va_A [(a 200, .inr (12, [.int v200_0, .ref (a 201), .ref (a 202), .ref (a 203), .ref (a 204), .int v200_5, .ref (a 205), .int v200_7, .int v200_8, .int v200_9, .int v200_10, .int v200_11, .int v200_12, .int v200_13, .ref (a 206), .int v200_15, .ref (a 207), .int v200_17, .int v200_18, .int v200_19, .ref (a 208), .int v200_21, .ref (a 209), .int v200_23, .ref (a 210), .ref (a 211), .ref (a 212), .int v200_27, .int v200_28, .int v200_29, .ref (a 213), .ref (a 214), .ref (a 215), .int v200_33, .int v200_34, .int v200_35, .ref (a 216), .ref (a 217), .ref (a 218), .ref (a 219)])), (a 201, .inl (t 0, 841, .inl f201)), (a 207, .inl (t 0, 9, .inl f207))] sz) := by
  refine Met.ofW (cc := cX12_beats) (maxL := 3) (ret := (some .int)) (by decide) rfl ?_
  intro p e s m args below meth c s₁ B hml hv
  obtain ⟨rfl, hsz, hP, hK, hD0, hN⟩ := hv
  have hx := B.exec
  have hb := B.bytes
  have hr := B.returns
  have hts : ∀ w ∈ TB, w.before _ s = true := fun w h => atoms_spec (ws := wd yX12_beats cX12_beats 3 (some .int)) B.pre w (List.mem_cons_of_mem _ h)
  have hown : s.vm.findClass RX12 = some m.cls := findClass_of_methodNamed B.named
  have hlocks := B.notSynchronized
  have hF : CallFix p m c cX12_beats 3 s _ TB RX12 := ⟨hx, hb, hml, hown, hts⟩
  have hl := lv_entry ([.ref (a 200), .int p0, .int p1]) (n := 3) (Nat.le_of_ble_eq_true rfl)
  rw [lg_entry_eq]
  generalize (lg_sl ([.ref (a 200), .int p0, .int p1]) ++ List.replicate (3 - (lg_sl ([.ref (a 200), .int p0, .int p1])).length) Slot.unset).toArray = ls at hl ⊢
  have hl : lv_has ls 3 [(0, .ref (a 200)), (1, .int p0), (2, .int p1)] := hl
  subst hsz
  have hD := hD0.self (sz := s.heap.size)
  generalize hAe : va_A [(a 200, .inr (12, [.int v200_0, .ref (a 201), .ref (a 202), .ref (a 203), .ref (a 204), .int v200_5, .ref (a 205), .int v200_7, .int v200_8, .int v200_9, .int v200_10, .int v200_11, .int v200_12, .int v200_13, .ref (a 206), .int v200_15, .ref (a 207), .int v200_17, .int v200_18, .int v200_19, .ref (a 208), .int v200_21, .ref (a 209), .int v200_23, .ref (a 210), .ref (a 211), .ref (a 212), .int v200_27, .int v200_28, .int v200_29, .ref (a 213), .ref (a 214), .ref (a 215), .int v200_33, .int v200_34, .int v200_35, .ref (a 216), .ref (a 217), .ref (a 218), .ref (a 219)])), (a 201, .inl (t 0, 841, .inl f201)), (a 207, .inl (t 0, 9, .inl f207))] s.heap.size = A at hD ⊢
  have hA : ∀ q : Nat, s.heap.size ≤ q → A q := fun q h => by rw [← hAe]; exact Or.inr h
  have hS : va_S A s.heap s.heap [] := va_S.rf
  have hP : va_P D classes [(a 200, .inr (12, [.int v200_0, .ref (a 201), .ref (a 202), .ref (a 203), .ref (a 204), .int v200_5, .ref (a 205), .int v200_7, .int v200_8, .int v200_9, .int v200_10, .int v200_11, .int v200_12, .int v200_13, .ref (a 206), .int v200_15, .ref (a 207), .int v200_17, .int v200_18, .int v200_19, .ref (a 208), .int v200_21, .ref (a 209), .int v200_23, .ref (a 210), .ref (a 211), .ref (a 212), .int v200_27, .int v200_28, .int v200_29, .ref (a 213), .ref (a 214), .ref (a 215), .int v200_33, .int v200_34, .int v200_35, .ref (a 216), .ref (a 217), .ref (a 218), .ref (a 219)])), (a 201, .inl (t 0, 841, .inl f201)), (a 207, .inl (t 0, 9, .inl f207))] s.heap := hP
  refine lv_aload_n hx hb dX12_beats_0 rfl (lv_at hl 0 rfl) ?_
  refine lv_iload_n hx hb dX12_beats_1 rfl (lv_at hl 1 rfl) ?_
  refine lv_i2l hx hb dX12_beats_2 rfl ?_
  refine y_pV hF (s_X12_isWord l D t a v200_0 v200_5 v200_7 v200_8 v200_9 v200_10 v200_11 v200_12 v200_13 v200_15 v200_17 v200_18 v200_19 v200_21 v200_23 v200_27 v200_28 v200_29 v200_33 v200_34 v200_35 f201 ((p0).toInt64) r200_5 r200_7 r200_8 r200_9 r200_23 q201) m_1607 m_1609 m_s57 m_13 m_1610 hd_X12_isWord ⟨Nat.le_of_ble_eq_true rfl, Nat.le_of_ble_eq_true rfl⟩ hK hN hP hS [0, 1] rfl 0 (ci := 12) rfl rfl rfl hl.1 rfl (Nat.le_of_ble_eq_true rfl) dX12_beats_3 ⟨Nat.zero_le _, Nat.zero_le _⟩ (fun r_1 H locs hr_1 hP hS => ?_)
  refine lv_if_eq (tgt := 54) hx hb dX12_beats_6 (by decide) (fun c_2 => ?_) (fun c_2 => ?_)
  · skip
    refine lv_bipush (v := (-2)) hx hb dX12_beats_54 (by decide) ?_
    have hP9 := hP.sub (ws' := [(a 200, .inr (12, [.int v200_0, .ref (a 201), .ref (a 202), .ref (a 203), .ref (a 204), .int v200_5, .ref (a 205), .int v200_7, .int v200_8, .int v200_9, .int v200_10, .int v200_11, .int v200_12, .int v200_13, .ref (a 206), .int v200_15, .ref (a 207), .int v200_17, .int v200_18, .int v200_19, .ref (a 208), .int v200_21, .ref (a 209), .int v200_23, .ref (a 210), .ref (a 211), .ref (a 212), .int v200_27, .int v200_28, .int v200_29, .ref (a 213), .ref (a 214), .ref (a 215), .int v200_33, .int v200_34, .int v200_35, .ref (a 216), .ref (a 217), .ref (a 218), .ref (a 219)])), (a 201, .inl (t 0, 841, .inl f201)), (a 207, .inl (t 0, 9, .inl f207))]) [0, 1, 2] rfl
    have hD9 := hD.sub (ws' := [(a 200, .inr (12, [.int v200_0, .ref (a 201), .ref (a 202), .ref (a 203), .ref (a 204), .int v200_5, .ref (a 205), .int v200_7, .int v200_8, .int v200_9, .int v200_10, .int v200_11, .int v200_12, .int v200_13, .ref (a 206), .int v200_15, .ref (a 207), .int v200_17, .int v200_18, .int v200_19, .ref (a 208), .int v200_21, .ref (a 209), .int v200_23, .ref (a 210), .ref (a 211), .ref (a 212), .int v200_27, .int v200_28, .int v200_29, .ref (a 213), .ref (a 214), .ref (a 215), .int v200_33, .int v200_34, .int v200_35, .ref (a 216), .ref (a 217), .ref (a 218), .ref (a 219)])), (a 201, .inl (t 0, 841, .inl f201)), (a 207, .inl (t 0, 9, .inl f207))]) [0, 1, 2] (by decide) rfl
    exact W.iret (v := (-2)) hx hb hr (fun t9 ht hW => ⟨⟨(-2), (fun k => [v200_15, v200_17, v200_18].getD k 0, fun k => [f207].getD k (fun _ => 0), fun k => [].getD k (fun _ => 0), fun _ => 0), rfl, trivial, by rw [ht]; exact hP9, hD9⟩, hS.F ht⟩) hS.2.2 dX12_beats_56
  · skip
    have o_3 := Or.resolve_left hr_1.2 c_2
    refine lv_aload_n hx hb dX12_beats_9 rfl (lv_at hl 0 rfl) ?_
    refine lv_iload_n hx hb dX12_beats_10 rfl (lv_at hl 2 rfl) ?_
    refine lv_i2l hx hb dX12_beats_11 rfl ?_
    refine y_pV hF (s_X12_isWord l D t a v200_0 v200_5 v200_7 v200_8 v200_9 v200_10 v200_11 v200_12 v200_13 v200_15 v200_17 v200_18 v200_19 v200_21 v200_23 v200_27 v200_28 v200_29 v200_33 v200_34 v200_35 f201 ((p1).toInt64) r200_5 r200_7 r200_8 r200_9 r200_23 q201) m_1607 m_1609 m_s57 m_13 m_1610 hd_X12_isWord ⟨Nat.le_of_ble_eq_true rfl, Nat.le_of_ble_eq_true rfl⟩ hK hN hP hS [0, 1] rfl 0 (ci := 12) rfl rfl rfl hl.1 rfl (Nat.le_of_ble_eq_true rfl) dX12_beats_12 ⟨Nat.zero_le _, Nat.zero_le _⟩ (fun r_4 H locs hr_4 hP hS => ?_)
    refine lv_if_eq (tgt := 54) hx hb dX12_beats_15 (by decide) (fun c_5 => ?_) (fun c_5 => ?_)
    · skip
      refine lv_bipush (v := (-2)) hx hb dX12_beats_54 (by decide) ?_
      have hP9 := hP.sub (ws' := [(a 200, .inr (12, [.int v200_0, .ref (a 201), .ref (a 202), .ref (a 203), .ref (a 204), .int v200_5, .ref (a 205), .int v200_7, .int v200_8, .int v200_9, .int v200_10, .int v200_11, .int v200_12, .int v200_13, .ref (a 206), .int v200_15, .ref (a 207), .int v200_17, .int v200_18, .int v200_19, .ref (a 208), .int v200_21, .ref (a 209), .int v200_23, .ref (a 210), .ref (a 211), .ref (a 212), .int v200_27, .int v200_28, .int v200_29, .ref (a 213), .ref (a 214), .ref (a 215), .int v200_33, .int v200_34, .int v200_35, .ref (a 216), .ref (a 217), .ref (a 218), .ref (a 219)])), (a 201, .inl (t 0, 841, .inl f201)), (a 207, .inl (t 0, 9, .inl f207))]) [0, 1, 2] rfl
      have hD9 := hD.sub (ws' := [(a 200, .inr (12, [.int v200_0, .ref (a 201), .ref (a 202), .ref (a 203), .ref (a 204), .int v200_5, .ref (a 205), .int v200_7, .int v200_8, .int v200_9, .int v200_10, .int v200_11, .int v200_12, .int v200_13, .ref (a 206), .int v200_15, .ref (a 207), .int v200_17, .int v200_18, .int v200_19, .ref (a 208), .int v200_21, .ref (a 209), .int v200_23, .ref (a 210), .ref (a 211), .ref (a 212), .int v200_27, .int v200_28, .int v200_29, .ref (a 213), .ref (a 214), .ref (a 215), .int v200_33, .int v200_34, .int v200_35, .ref (a 216), .ref (a 217), .ref (a 218), .ref (a 219)])), (a 201, .inl (t 0, 841, .inl f201)), (a 207, .inl (t 0, 9, .inl f207))]) [0, 1, 2] (by decide) rfl
      exact W.iret (v := (-2)) hx hb hr (fun t9 ht hW => ⟨⟨(-2), (fun k => [v200_15, v200_17, v200_18].getD k 0, fun k => [f207].getD k (fun _ => 0), fun k => [].getD k (fun _ => 0), fun _ => 0), rfl, trivial, by rw [ht]; exact hP9, hD9⟩, hS.F ht⟩) hS.2.2 dX12_beats_56
    · skip
      have o_6 := Or.resolve_left hr_4.2 c_5
      refine lv_iload_n hx hb dX12_beats_18 rfl (lv_at hl 1 rfl) ?_
      refine lv_iload_n hx hb dX12_beats_19 rfl (lv_at hl 2 rfl) ?_
      refine lv_icmp_eq (tgt := 54) hx hb dX12_beats_20 (by decide) (fun c_7 => ?_) (fun c_7 => ?_)
      · skip
        refine lv_bipush (v := (-2)) hx hb dX12_beats_54 (by decide) ?_
        have hP9 := hP.sub (ws' := [(a 200, .inr (12, [.int v200_0, .ref (a 201), .ref (a 202), .ref (a 203), .ref (a 204), .int v200_5, .ref (a 205), .int v200_7, .int v200_8, .int v200_9, .int v200_10, .int v200_11, .int v200_12, .int v200_13, .ref (a 206), .int v200_15, .ref (a 207), .int v200_17, .int v200_18, .int v200_19, .ref (a 208), .int v200_21, .ref (a 209), .int v200_23, .ref (a 210), .ref (a 211), .ref (a 212), .int v200_27, .int v200_28, .int v200_29, .ref (a 213), .ref (a 214), .ref (a 215), .int v200_33, .int v200_34, .int v200_35, .ref (a 216), .ref (a 217), .ref (a 218), .ref (a 219)])), (a 201, .inl (t 0, 841, .inl f201)), (a 207, .inl (t 0, 9, .inl f207))]) [0, 1, 2] rfl
        have hD9 := hD.sub (ws' := [(a 200, .inr (12, [.int v200_0, .ref (a 201), .ref (a 202), .ref (a 203), .ref (a 204), .int v200_5, .ref (a 205), .int v200_7, .int v200_8, .int v200_9, .int v200_10, .int v200_11, .int v200_12, .int v200_13, .ref (a 206), .int v200_15, .ref (a 207), .int v200_17, .int v200_18, .int v200_19, .ref (a 208), .int v200_21, .ref (a 209), .int v200_23, .ref (a 210), .ref (a 211), .ref (a 212), .int v200_27, .int v200_28, .int v200_29, .ref (a 213), .ref (a 214), .ref (a 215), .int v200_33, .int v200_34, .int v200_35, .ref (a 216), .ref (a 217), .ref (a 218), .ref (a 219)])), (a 201, .inl (t 0, 841, .inl f201)), (a 207, .inl (t 0, 9, .inl f207))]) [0, 1, 2] (by decide) rfl
        exact W.iret (v := (-2)) hx hb hr (fun t9 ht hW => ⟨⟨(-2), (fun k => [v200_15, v200_17, v200_18].getD k 0, fun k => [f207].getD k (fun _ => 0), fun k => [].getD k (fun _ => 0), fun _ => 0), rfl, trivial, by rw [ht]; exact hP9, hD9⟩, hS.F ht⟩) hS.2.2 dX12_beats_56
      · skip
        refine lv_aload_n hx hb dX12_beats_23 rfl (lv_at hl 0 rfl) ?_
        refine lv_iload_n hx hb dX12_beats_24 rfl (lv_at hl 1 rfl) ?_
        refine lv_iconst (v := 1) hx hb dX12_beats_25 (by decide) ?_
        refine y_pV hF (s_ofWord1 l D t a v200_0 v200_5 v200_7 v200_8 v200_9 v200_10 v200_11 v200_12 v200_13 v200_15 v200_17 v200_18 v200_19 v200_21 v200_23 v200_27 v200_28 v200_29 v200_33 v200_34 v200_35 f201 p0 1 r200_5 r200_7 r200_8 r200_9 r200_23 q201 (rl_i o_3) (rg_c (x := 1) (k := 1) (by decide))) m_1612 m_1614 m_s58 m_13 m_1615 hd_X12_ofWord ⟨Nat.le_of_ble_eq_true rfl, Nat.le_of_ble_eq_true rfl⟩ hK hN hP hS [0, 1] rfl 0 (ci := 12) rfl rfl rfl hl.1 rfl (Nat.le_of_ble_eq_true rfl) dX12_beats_26 ⟨Nat.zero_le _, Nat.zero_le _⟩ (fun r_8 H locs hr_8 hP hS => ?_)
        refine lv_aload_n hx hb dX12_beats_29 rfl (lv_at hl 0 rfl) ?_
        refine lv_iload_n hx hb dX12_beats_30 rfl (lv_at hl 2 rfl) ?_
        refine lv_iconst (v := 1) hx hb dX12_beats_31 (by decide) ?_
        refine y_pV hF (s_ofWord1 l D t a v200_0 v200_5 v200_7 v200_8 v200_9 v200_10 v200_11 v200_12 v200_13 v200_15 v200_17 v200_18 v200_19 v200_21 v200_23 v200_27 v200_28 v200_29 v200_33 v200_34 v200_35 f201 p1 1 r200_5 r200_7 r200_8 r200_9 r200_23 q201 (rl_i o_6) (rg_c (x := 1) (k := 1) (by decide))) m_1612 m_1614 m_s58 m_13 m_1615 hd_X12_ofWord ⟨Nat.le_of_ble_eq_true rfl, Nat.le_of_ble_eq_true rfl⟩ hK hN hP hS [0, 1] rfl 0 (ci := 12) rfl rfl rfl hl.1 rfl (Nat.le_of_ble_eq_true rfl) dX12_beats_32 ⟨Nat.zero_le _, Nat.zero_le _⟩ (fun r_9 H locs hr_9 hP hS => ?_)
        refine lv_icmp_ne (tgt := 54) hx hb dX12_beats_35 (by decide) (fun c_10 => ?_) (fun c_10 => ?_)
        · skip
          refine lv_bipush (v := (-2)) hx hb dX12_beats_54 (by decide) ?_
          have hP9 := hP.sub (ws' := [(a 200, .inr (12, [.int v200_0, .ref (a 201), .ref (a 202), .ref (a 203), .ref (a 204), .int v200_5, .ref (a 205), .int v200_7, .int v200_8, .int v200_9, .int v200_10, .int v200_11, .int v200_12, .int v200_13, .ref (a 206), .int v200_15, .ref (a 207), .int v200_17, .int v200_18, .int v200_19, .ref (a 208), .int v200_21, .ref (a 209), .int v200_23, .ref (a 210), .ref (a 211), .ref (a 212), .int v200_27, .int v200_28, .int v200_29, .ref (a 213), .ref (a 214), .ref (a 215), .int v200_33, .int v200_34, .int v200_35, .ref (a 216), .ref (a 217), .ref (a 218), .ref (a 219)])), (a 201, .inl (t 0, 841, .inl f201)), (a 207, .inl (t 0, 9, .inl f207))]) [0, 1, 2] rfl
          have hD9 := hD.sub (ws' := [(a 200, .inr (12, [.int v200_0, .ref (a 201), .ref (a 202), .ref (a 203), .ref (a 204), .int v200_5, .ref (a 205), .int v200_7, .int v200_8, .int v200_9, .int v200_10, .int v200_11, .int v200_12, .int v200_13, .ref (a 206), .int v200_15, .ref (a 207), .int v200_17, .int v200_18, .int v200_19, .ref (a 208), .int v200_21, .ref (a 209), .int v200_23, .ref (a 210), .ref (a 211), .ref (a 212), .int v200_27, .int v200_28, .int v200_29, .ref (a 213), .ref (a 214), .ref (a 215), .int v200_33, .int v200_34, .int v200_35, .ref (a 216), .ref (a 217), .ref (a 218), .ref (a 219)])), (a 201, .inl (t 0, 841, .inl f201)), (a 207, .inl (t 0, 9, .inl f207))]) [0, 1, 2] (by decide) rfl
          exact W.iret (v := (-2)) hx hb hr (fun t9 ht hW => ⟨⟨(-2), (fun k => [v200_15, v200_17, v200_18].getD k 0, fun k => [f207].getD k (fun _ => 0), fun k => [].getD k (fun _ => 0), fun _ => 0), rfl, trivial, by rw [ht]; exact hP9, hD9⟩, hS.F ht⟩) hS.2.2 dX12_beats_56
        · skip
          refine lv_aload_n hx hb dX12_beats_38 rfl (lv_at hl 0 rfl) ?_
          refine lv_iload_n hx hb dX12_beats_39 rfl (lv_at hl 1 rfl) ?_
          refine y_pV hF (s_X12_isDead l D t a v200_0 v200_5 v200_7 v200_8 v200_9 v200_10 v200_11 v200_12 v200_13 v200_15 v200_17 v200_18 v200_19 v200_21 v200_23 v200_27 v200_28 v200_29 v200_33 v200_34 v200_35 f201 p0 r200_5 r200_7 r200_8 r200_9 r200_23 q201) m_1750 m_1752 m_s79 m_13 m_1753 hd_X12_isDead ⟨Nat.le_of_ble_eq_true rfl, Nat.le_of_ble_eq_true rfl⟩ hK hN hP hS [0, 1] rfl 0 (ci := 12) rfl rfl rfl hl.1 rfl (Nat.le_of_ble_eq_true rfl) dX12_beats_40 ⟨Nat.zero_le _, Nat.zero_le _⟩ (fun r_11 H locs hr_11 hP hS => ?_)
          refine lv_if_ne (tgt := 54) hx hb dX12_beats_43 (by decide) (fun c_12 => ?_) (fun c_12 => ?_)
          · skip
            have h_13 : rg 1 1 r_11 := rg_w (rg_neL hr_11 c_12 (by decide)) (by decide) (by decide)
            refine lv_bipush (v := (-2)) hx hb dX12_beats_54 (by decide) ?_
            have hP9 := hP.sub (ws' := [(a 200, .inr (12, [.int v200_0, .ref (a 201), .ref (a 202), .ref (a 203), .ref (a 204), .int v200_5, .ref (a 205), .int v200_7, .int v200_8, .int v200_9, .int v200_10, .int v200_11, .int v200_12, .int v200_13, .ref (a 206), .int v200_15, .ref (a 207), .int v200_17, .int v200_18, .int v200_19, .ref (a 208), .int v200_21, .ref (a 209), .int v200_23, .ref (a 210), .ref (a 211), .ref (a 212), .int v200_27, .int v200_28, .int v200_29, .ref (a 213), .ref (a 214), .ref (a 215), .int v200_33, .int v200_34, .int v200_35, .ref (a 216), .ref (a 217), .ref (a 218), .ref (a 219)])), (a 201, .inl (t 0, 841, .inl f201)), (a 207, .inl (t 0, 9, .inl f207))]) [0, 1, 2] rfl
            have hD9 := hD.sub (ws' := [(a 200, .inr (12, [.int v200_0, .ref (a 201), .ref (a 202), .ref (a 203), .ref (a 204), .int v200_5, .ref (a 205), .int v200_7, .int v200_8, .int v200_9, .int v200_10, .int v200_11, .int v200_12, .int v200_13, .ref (a 206), .int v200_15, .ref (a 207), .int v200_17, .int v200_18, .int v200_19, .ref (a 208), .int v200_21, .ref (a 209), .int v200_23, .ref (a 210), .ref (a 211), .ref (a 212), .int v200_27, .int v200_28, .int v200_29, .ref (a 213), .ref (a 214), .ref (a 215), .int v200_33, .int v200_34, .int v200_35, .ref (a 216), .ref (a 217), .ref (a 218), .ref (a 219)])), (a 201, .inl (t 0, 841, .inl f201)), (a 207, .inl (t 0, 9, .inl f207))]) [0, 1, 2] (by decide) rfl
            exact W.iret (v := (-2)) hx hb hr (fun t9 ht hW => ⟨⟨(-2), (fun k => [v200_15, v200_17, v200_18].getD k 0, fun k => [f207].getD k (fun _ => 0), fun k => [].getD k (fun _ => 0), fun _ => 0), rfl, trivial, by rw [ht]; exact hP9, hD9⟩, hS.F ht⟩) hS.2.2 dX12_beats_56
          · skip
            have h_14 : rg 0 0 r_11 := rg_eq c_12 (rg_c (x := 0) (k := 0) (by decide))
            refine lv_aload_n hx hb dX12_beats_46 rfl (lv_at hl 0 rfl) ?_
            refine lv_iload_n hx hb dX12_beats_47 rfl (lv_at hl 2 rfl) ?_
            refine y_pV hF (s_X12_isDead l D t a v200_0 v200_5 v200_7 v200_8 v200_9 v200_10 v200_11 v200_12 v200_13 v200_15 v200_17 v200_18 v200_19 v200_21 v200_23 v200_27 v200_28 v200_29 v200_33 v200_34 v200_35 f201 p1 r200_5 r200_7 r200_8 r200_9 r200_23 q201) m_1750 m_1752 m_s79 m_13 m_1753 hd_X12_isDead ⟨Nat.le_of_ble_eq_true rfl, Nat.le_of_ble_eq_true rfl⟩ hK hN hP hS [0, 1] rfl 0 (ci := 12) rfl rfl rfl hl.1 rfl (Nat.le_of_ble_eq_true rfl) dX12_beats_48 ⟨Nat.zero_le _, Nat.zero_le _⟩ (fun r_15 H locs hr_15 hP hS => ?_)
            refine lv_if_eq (tgt := 57) hx hb dX12_beats_51 (by decide) (fun c_16 => ?_) (fun c_16 => ?_)
            · skip
              have h_17 : rg 0 0 r_15 := rg_eq c_16 (rg_c (x := 0) (k := 0) (by decide))
              refine lv_aload_n hx hb dX12_beats_57 rfl (lv_at hl 0 rfl) ?_
              refine y_wV (wr := []) hF (s_X12_asItIs l D t a v200_0 v200_5 v200_7 v200_8 v200_9 v200_10 v200_11 v200_12 v200_13 v200_15 v200_17 v200_18 v200_19 v200_21 v200_23 v200_27 v200_28 v200_29 v200_33 v200_34 v200_35 f201 f207 r200_5 r200_7 r200_8 r200_9 r200_23 q201 H.size) m_1640 m_1642 m_s62 m_13 m_1643 hd_X12_asItIs ⟨Nat.le_of_ble_eq_true rfl, Nat.le_of_ble_eq_true rfl⟩ hK hN hP hD hS hA 0 (ci := 12) rfl rfl rfl [0, 1, 2] [] rfl rfl (by decide) (by decide) (by decide) hl.1 rfl (Nat.le_of_ble_eq_true rfl) dX12_beats_58 ⟨Nat.zero_le _, Nat.zero_le _⟩ (fun u_18 H locs hu_18 hP hD hS => ?_)
              have hP : va_P D classes [(a 200, .inr (12, [.int v200_0, .ref (a 201), .ref (a 202), .ref (a 203), .ref (a 204), .int v200_5, .ref (a 205), .int v200_7, .int v200_8, .int v200_9, .int v200_10, .int v200_11, .int v200_12, .int v200_13, .ref (a 206), .int (u_18.1 0), .ref (a 207), .int (u_18.1 1), .int (u_18.1 2), .int v200_19, .ref (a 208), .int v200_21, .ref (a 209), .int v200_23, .ref (a 210), .ref (a 211), .ref (a 212), .int v200_27, .int v200_28, .int v200_29, .ref (a 213), .ref (a 214), .ref (a 215), .int v200_33, .int v200_34, .int v200_35, .ref (a 216), .ref (a 217), .ref (a 218), .ref (a 219)])), (a 201, .inl (t 0, 841, .inl f201)), (a 207, .inl (t 0, 9, .inl (u_18.2.1 0)))] H := hP
              have hD : va_D A [(a 200, .inr (12, [.int v200_0, .ref (a 201), .ref (a 202), .ref (a 203), .ref (a 204), .int v200_5, .ref (a 205), .int v200_7, .int v200_8, .int v200_9, .int v200_10, .int v200_11, .int v200_12, .int v200_13, .ref (a 206), .int (u_18.1 0), .ref (a 207), .int (u_18.1 1), .int (u_18.1 2), .int v200_19, .ref (a 208), .int v200_21, .ref (a 209), .int v200_23, .ref (a 210), .ref (a 211), .ref (a 212), .int v200_27, .int v200_28, .int v200_29, .ref (a 213), .ref (a 214), .ref (a 215), .int v200_33, .int v200_34, .int v200_35, .ref (a 216), .ref (a 217), .ref (a 218), .ref (a 219)])), (a 201, .inl (t 0, 841, .inl f201)), (a 207, .inl (t 0, 9, .inl (u_18.2.1 0)))] := hD
              refine lv_aload_n hx hb dX12_beats_61 rfl (lv_at hl 0 rfl) ?_
              refine lv_iload_n hx hb dX12_beats_62 rfl (lv_at hl 1 rfl) ?_
              refine lv_iload_n hx hb dX12_beats_63 rfl (lv_at hl 2 rfl) ?_
              refine y_pV hF (s_X12_beatsOf l D t a v200_0 v200_5 v200_7 v200_8 v200_9 v200_10 v200_11 v200_12 v200_13 (u_18.1 0) (u_18.1 1) (u_18.1 2) v200_19 v200_21 v200_23 v200_27 v200_28 v200_29 v200_33 v200_34 v200_35 f201 (u_18.2.1 0) p0 p1 r200_5 r200_7 r200_8 r200_9 r200_23 q201 (rl_i o_3) (rl_i o_6)) m_1754 m_1756 m_s80 m_13 m_1757 hd_X12_beatsOf ⟨Nat.le_of_ble_eq_true rfl, Nat.le_of_ble_eq_true rfl⟩ hK hN hP hS [0, 1, 2] rfl 0 (ci := 12) rfl rfl rfl hl.1 rfl (Nat.le_of_ble_eq_true rfl) dX12_beats_64 ⟨Nat.zero_le _, Nat.zero_le _⟩ (fun r_20 H locs hr_20 hP hS => ?_)
              have hP9 := hP.sub (ws' := [(a 200, .inr (12, [.int v200_0, .ref (a 201), .ref (a 202), .ref (a 203), .ref (a 204), .int v200_5, .ref (a 205), .int v200_7, .int v200_8, .int v200_9, .int v200_10, .int v200_11, .int v200_12, .int v200_13, .ref (a 206), .int (u_18.1 0), .ref (a 207), .int (u_18.1 1), .int (u_18.1 2), .int v200_19, .ref (a 208), .int v200_21, .ref (a 209), .int v200_23, .ref (a 210), .ref (a 211), .ref (a 212), .int v200_27, .int v200_28, .int v200_29, .ref (a 213), .ref (a 214), .ref (a 215), .int v200_33, .int v200_34, .int v200_35, .ref (a 216), .ref (a 217), .ref (a 218), .ref (a 219)])), (a 201, .inl (t 0, 841, .inl f201)), (a 207, .inl (t 0, 9, .inl (u_18.2.1 0)))]) [0, 1, 2] rfl
              have hD9 := hD.sub (ws' := [(a 200, .inr (12, [.int v200_0, .ref (a 201), .ref (a 202), .ref (a 203), .ref (a 204), .int v200_5, .ref (a 205), .int v200_7, .int v200_8, .int v200_9, .int v200_10, .int v200_11, .int v200_12, .int v200_13, .ref (a 206), .int (u_18.1 0), .ref (a 207), .int (u_18.1 1), .int (u_18.1 2), .int v200_19, .ref (a 208), .int v200_21, .ref (a 209), .int v200_23, .ref (a 210), .ref (a 211), .ref (a 212), .int v200_27, .int v200_28, .int v200_29, .ref (a 213), .ref (a 214), .ref (a 215), .int v200_33, .int v200_34, .int v200_35, .ref (a 216), .ref (a 217), .ref (a 218), .ref (a 219)])), (a 201, .inl (t 0, 841, .inl f201)), (a 207, .inl (t 0, 9, .inl (u_18.2.1 0)))]) [0, 1, 2] (by decide) rfl
              exact W.iret (v := r_20) hx hb hr (fun t9 ht hW => ⟨⟨r_20, (fun k => [(u_18.1 0), (u_18.1 1), (u_18.1 2)].getD k 0, fun k => [(u_18.2.1 0)].getD k (fun _ => 0), fun k => [].getD k (fun _ => 0), fun _ => 0), rfl, trivial, by rw [ht]; exact hP9, hD9⟩, hS.F ht⟩) hS.2.2 dX12_beats_67
            · skip
              have h_21 : rg 1 1 r_15 := rg_w (rg_neL hr_15 c_16 (by decide)) (by decide) (by decide)
              refine lv_bipush (v := (-2)) hx hb dX12_beats_54 (by decide) ?_
              have hP9 := hP.sub (ws' := [(a 200, .inr (12, [.int v200_0, .ref (a 201), .ref (a 202), .ref (a 203), .ref (a 204), .int v200_5, .ref (a 205), .int v200_7, .int v200_8, .int v200_9, .int v200_10, .int v200_11, .int v200_12, .int v200_13, .ref (a 206), .int v200_15, .ref (a 207), .int v200_17, .int v200_18, .int v200_19, .ref (a 208), .int v200_21, .ref (a 209), .int v200_23, .ref (a 210), .ref (a 211), .ref (a 212), .int v200_27, .int v200_28, .int v200_29, .ref (a 213), .ref (a 214), .ref (a 215), .int v200_33, .int v200_34, .int v200_35, .ref (a 216), .ref (a 217), .ref (a 218), .ref (a 219)])), (a 201, .inl (t 0, 841, .inl f201)), (a 207, .inl (t 0, 9, .inl f207))]) [0, 1, 2] rfl
              have hD9 := hD.sub (ws' := [(a 200, .inr (12, [.int v200_0, .ref (a 201), .ref (a 202), .ref (a 203), .ref (a 204), .int v200_5, .ref (a 205), .int v200_7, .int v200_8, .int v200_9, .int v200_10, .int v200_11, .int v200_12, .int v200_13, .ref (a 206), .int v200_15, .ref (a 207), .int v200_17, .int v200_18, .int v200_19, .ref (a 208), .int v200_21, .ref (a 209), .int v200_23, .ref (a 210), .ref (a 211), .ref (a 212), .int v200_27, .int v200_28, .int v200_29, .ref (a 213), .ref (a 214), .ref (a 215), .int v200_33, .int v200_34, .int v200_35, .ref (a 216), .ref (a 217), .ref (a 218), .ref (a 219)])), (a 201, .inl (t 0, 841, .inl f201)), (a 207, .inl (t 0, 9, .inl f207))]) [0, 1, 2] (by decide) rfl
              exact W.iret (v := (-2)) hx hb hr (fun t9 ht hW => ⟨⟨(-2), (fun k => [v200_15, v200_17, v200_18].getD k 0, fun k => [f207].getD k (fun _ => 0), fun k => [].getD k (fun _ => 0), fun _ => 0), rfl, trivial, by rw [ht]; exact hP9, hD9⟩, hS.F ht⟩) hS.2.2 dX12_beats_56

set_option maxHeartbeats 4000000 in
set_option maxRecDepth 100000 in
theorem s_X12_best (l : Launch) (D : va_G) (t : Nat → ClassId) (a : Nat → Nat) (v200_0 : Int32) (v200_5 : Int32) (v200_7 : Int32) (v200_8 : Int32) (v200_9 : Int32) (v200_10 : Int32) (v200_11 : Int32) (v200_12 : Int32) (v200_13 : Int32) (v200_15 : Int32) (v200_17 : Int32) (v200_18 : Int32) (v200_19 : Int32) (v200_21 : Int32) (v200_23 : Int32) (v200_27 : Int32) (v200_28 : Int32) (v200_29 : Int32) (v200_33 : Int32) (v200_34 : Int32) (v200_35 : Int32) (f201 : Nat → Int32) (f207 : Nat → Int32) (p0 : Int32) (r200_5 : rg 0 1600 v200_5) (r200_7 : rg 0 1600 v200_7) (r200_8 : rg 0 1600 v200_8) (r200_9 : rg 0 1600 v200_9) (r200_23 : rg 0 9 v200_23) (q201 : wR f201) (sz : Nat) : Met l yX12_best (wd yX12_best cX12_best 6 (some .int)) (RM 4 0 0) (PreW D (TY t) [.ref (a 200), .int p0] [(a 200, .inr (12, [.int v200_0, .ref (a 201), .ref (a 202), .ref (a 203), .ref (a 204), .int v200_5, .ref (a 205), .int v200_7, .int v200_8, .int v200_9, .int v200_10, .int v200_11, .int v200_12, .int v200_13, .ref (a 206), .int v200_15, .ref (a 207), .int v200_17, .int v200_18, .int v200_19, .ref (a 208), .int v200_21, .ref (a 209), .int v200_23, .ref (a 210), .ref (a 211), .ref (a 212), .int v200_27, .int v200_28, .int v200_29, .ref (a 213), .ref (a 214), .ref (a 215), .int v200_33, .int v200_34, .int v200_35, .ref (a 216), .ref (a 217), .ref (a 218), .ref (a 219)])), (a 201, .inl (t 0, 841, .inl f201)), (a 207, .inl (t 0, 9, .inl f207))] sz) (va_Qi (fun (r : Int32) (_ : US) => rg (-2) 8 r) (fun (u : US) t9 => va_P D classes ((fun u : US => [(a 200, .inr (12, [.int v200_0, .ref (a 201), .ref (a 202), .ref (a 203), .ref (a 204), .int v200_5, .ref (a 205), .int v200_7, .int v200_8, .int v200_9, .int v200_10, .int v200_11, .int v200_12, .int v200_13, .ref (a 206), .int (u.1 0), .ref (a 207), .int (u.1 1), .int (u.1 2), .int v200_19, .ref (a 208), .int v200_21, .ref (a 209), .int v200_23, .ref (a 210), .ref (a 211), .ref (a 212), .int v200_27, .int v200_28, .int v200_29, .ref (a 213), .ref (a 214), .ref (a 215), .int v200_33, .int v200_34, .int v200_35, .ref (a 216), .ref (a 217), .ref (a 218), .ref (a 219)])), (a 201, .inl (t 0, 841, .inl f201)), (a 207, .inl (t 0, 9, .inl (u.2.1 0)))]) u) t9.heap ∧ va_D (va_A [(a 200, .inr (12, [.int v200_0, .ref (a 201), .ref (a 202), .ref (a 203), .ref (a 204), .int v200_5, .ref (a 205), .int v200_7, .int v200_8, .int v200_9, .int v200_10, .int v200_11, .int v200_12, .int v200_13, .ref (a 206), .int v200_15, .ref (a 207), .int v200_17, .int v200_18, .int v200_19, .ref (a 208), .int v200_21, .ref (a 209), .int v200_23, .ref (a 210), .ref (a 211), .ref (a 212), .int v200_27, .int v200_28, .int v200_29, .ref (a 213), .ref (a 214), .ref (a 215), .int v200_33, .int v200_34, .int v200_35, .ref (a 216), .ref (a 217), .ref (a 218), .ref (a 219)])), (a 201, .inl (t 0, 841, .inl f201)), (a 207, .inl (t 0, 9, .inl f207))] sz) ((fun u : US => [(a 200, .inr (12, [.int v200_0, .ref (a 201), .ref (a 202), .ref (a 203), .ref (a 204), .int v200_5, .ref (a 205), .int v200_7, .int v200_8, .int v200_9, .int v200_10, .int v200_11, .int v200_12, .int v200_13, .ref (a 206), .int (u.1 0), .ref (a 207), .int (u.1 1), .int (u.1 2), .int v200_19, .ref (a 208), .int v200_21, .ref (a 209), .int v200_23, .ref (a 210), .ref (a 211), .ref (a 212), .int v200_27, .int v200_28, .int v200_29, .ref (a 213), .ref (a 214), .ref (a 215), .int v200_33, .int v200_34, .int v200_35, .ref (a 216), .ref (a 217), .ref (a 218), .ref (a 219)])), (a 201, .inl (t 0, 841, .inl f201)), (a 207, .inl (t 0, 9, .inl (u.2.1 0)))]) u)) (va_A [(a 200, .inr (12, [.int v200_0, .ref (a 201), .ref (a 202), .ref (a 203), .ref (a 204), .int v200_5, .ref (a 205), .int v200_7, .int v200_8, .int v200_9, .int v200_10, .int v200_11, .int v200_12, .int v200_13, .ref (a 206), .int v200_15, .ref (a 207), .int v200_17, .int v200_18, .int v200_19, .ref (a 208), .int v200_21, .ref (a 209), .int v200_23, .ref (a 210), .ref (a 211), .ref (a 212), .int v200_27, .int v200_28, .int v200_29, .ref (a 213), .ref (a 214), .ref (a 215), .int v200_33, .int v200_34, .int v200_35, .ref (a 216), .ref (a 217), .ref (a 218), .ref (a 219)])), (a 201, .inl (t 0, 841, .inl f201)), (a 207, .inl (t 0, 9, .inl f207))] sz)) 0 0 (va_A [(a 200, .inr (12, [.int v200_0, .ref (a 201), .ref (a 202), .ref (a 203), .ref (a 204), .int v200_5, .ref (a 205), .int v200_7, .int v200_8, .int v200_9, .int v200_10, .int v200_11, .int v200_12, .int v200_13, .ref (a 206), .int v200_15, .ref (a 207), .int v200_17, .int v200_18, .int v200_19, .ref (a 208), .int v200_21, .ref (a 209), .int v200_23, .ref (a 210), .ref (a 211), .ref (a 212), .int v200_27, .int v200_28, .int v200_29, .ref (a 213), .ref (a 214), .ref (a 215), .int v200_33, .int v200_34, .int v200_35, .ref (a 216), .ref (a 217), .ref (a 218), .ref (a 219)])), (a 201, .inl (t 0, 841, .inl f201)), (a 207, .inl (t 0, 9, .inl f207))] sz) := by
  refine Met.ofW (cc := cX12_best) (maxL := 6) (ret := (some .int)) (by decide) rfl ?_
  intro p e s m args below meth c s₁ B hml hv
  obtain ⟨rfl, hsz, hP, hK, hD0, hN⟩ := hv
  have hx := B.exec
  have hb := B.bytes
  have hr := B.returns
  have hts : ∀ w ∈ TB, w.before _ s = true := fun w h => atoms_spec (ws := wd yX12_best cX12_best 6 (some .int)) B.pre w (List.mem_cons_of_mem _ h)
  have hown : s.vm.findClass RX12 = some m.cls := findClass_of_methodNamed B.named
  have hlocks := B.notSynchronized
  have hF : CallFix p m c cX12_best 6 s _ TB RX12 := ⟨hx, hb, hml, hown, hts⟩
  have hl := lv_entry ([.ref (a 200), .int p0]) (n := 6) (Nat.le_of_ble_eq_true rfl)
  rw [lg_entry_eq]
  generalize (lg_sl ([.ref (a 200), .int p0]) ++ List.replicate (6 - (lg_sl ([.ref (a 200), .int p0])).length) Slot.unset).toArray = ls at hl ⊢
  have hl : lv_has ls 6 [(0, .ref (a 200)), (1, .int p0)] := hl
  subst hsz
  have hD := hD0.self (sz := s.heap.size)
  generalize hAe : va_A [(a 200, .inr (12, [.int v200_0, .ref (a 201), .ref (a 202), .ref (a 203), .ref (a 204), .int v200_5, .ref (a 205), .int v200_7, .int v200_8, .int v200_9, .int v200_10, .int v200_11, .int v200_12, .int v200_13, .ref (a 206), .int v200_15, .ref (a 207), .int v200_17, .int v200_18, .int v200_19, .ref (a 208), .int v200_21, .ref (a 209), .int v200_23, .ref (a 210), .ref (a 211), .ref (a 212), .int v200_27, .int v200_28, .int v200_29, .ref (a 213), .ref (a 214), .ref (a 215), .int v200_33, .int v200_34, .int v200_35, .ref (a 216), .ref (a 217), .ref (a 218), .ref (a 219)])), (a 201, .inl (t 0, 841, .inl f201)), (a 207, .inl (t 0, 9, .inl f207))] s.heap.size = A at hD ⊢
  have hA : ∀ q : Nat, s.heap.size ≤ q → A q := fun q h => by rw [← hAe]; exact Or.inr h
  have hS : va_S A s.heap s.heap [] := va_S.rf
  have hP : va_P D classes [(a 200, .inr (12, [.int v200_0, .ref (a 201), .ref (a 202), .ref (a 203), .ref (a 204), .int v200_5, .ref (a 205), .int v200_7, .int v200_8, .int v200_9, .int v200_10, .int v200_11, .int v200_12, .int v200_13, .ref (a 206), .int v200_15, .ref (a 207), .int v200_17, .int v200_18, .int v200_19, .ref (a 208), .int v200_21, .ref (a 209), .int v200_23, .ref (a 210), .ref (a 211), .ref (a 212), .int v200_27, .int v200_28, .int v200_29, .ref (a 213), .ref (a 214), .ref (a 215), .int v200_33, .int v200_34, .int v200_35, .ref (a 216), .ref (a 217), .ref (a 218), .ref (a 219)])), (a 201, .inl (t 0, 841, .inl f201)), (a 207, .inl (t 0, 9, .inl f207))] s.heap := hP
  refine lv_aload_n hx hb dX12_best_0 rfl (lv_at hl 0 rfl) ?_
  refine lv_iload_n hx hb dX12_best_1 rfl (lv_at hl 1 rfl) ?_
  refine y_pV hF (s_X12_isDistrict l D t a v200_0 v200_5 v200_7 v200_8 v200_9 v200_10 v200_11 v200_12 v200_13 v200_15 v200_17 v200_18 v200_19 v200_21 v200_23 v200_27 v200_28 v200_29 v200_33 v200_34 v200_35 f201 p0 r200_5 r200_7 r200_8 r200_9 r200_23 q201) m_1636 m_1638 m_s61 m_13 m_1639 hd_X12_isDistrict ⟨Nat.le_of_ble_eq_true rfl, Nat.le_of_ble_eq_true rfl⟩ hK hN hP hS [0, 1] rfl 0 (ci := 12) rfl rfl rfl hl.1 rfl (Nat.le_of_ble_eq_true rfl) dX12_best_2 ⟨Nat.zero_le _, Nat.zero_le _⟩ (fun r_1 H locs hr_1 hP hS => ?_)
  refine lv_if_ne (tgt := 11) hx hb dX12_best_5 (by decide) (fun c_2 => ?_) (fun c_2 => ?_)
  · skip
    have o_3 := Or.resolve_left hr_1.2 c_2
    refine lv_aload_n hx hb dX12_best_11 rfl (lv_at hl 0 rfl) ?_
    refine y_wV (wr := []) hF (s_X12_asItIs l D t a v200_0 v200_5 v200_7 v200_8 v200_9 v200_10 v200_11 v200_12 v200_13 v200_15 v200_17 v200_18 v200_19 v200_21 v200_23 v200_27 v200_28 v200_29 v200_33 v200_34 v200_35 f201 f207 r200_5 r200_7 r200_8 r200_9 r200_23 q201 H.size) m_1640 m_1642 m_s62 m_13 m_1643 hd_X12_asItIs ⟨Nat.le_of_ble_eq_true rfl, Nat.le_of_ble_eq_true rfl⟩ hK hN hP hD hS hA 0 (ci := 12) rfl rfl rfl [0, 1, 2] [] rfl rfl (by decide) (by decide) (by decide) hl.1 rfl (Nat.le_of_ble_eq_true rfl) dX12_best_12 ⟨Nat.zero_le _, Nat.zero_le _⟩ (fun u_4 H locs hu_4 hP hD hS => ?_)
    have hP : va_P D classes [(a 200, .inr (12, [.int v200_0, .ref (a 201), .ref (a 202), .ref (a 203), .ref (a 204), .int v200_5, .ref (a 205), .int v200_7, .int v200_8, .int v200_9, .int v200_10, .int v200_11, .int v200_12, .int v200_13, .ref (a 206), .int (u_4.1 0), .ref (a 207), .int (u_4.1 1), .int (u_4.1 2), .int v200_19, .ref (a 208), .int v200_21, .ref (a 209), .int v200_23, .ref (a 210), .ref (a 211), .ref (a 212), .int v200_27, .int v200_28, .int v200_29, .ref (a 213), .ref (a 214), .ref (a 215), .int v200_33, .int v200_34, .int v200_35, .ref (a 216), .ref (a 217), .ref (a 218), .ref (a 219)])), (a 201, .inl (t 0, 841, .inl f201)), (a 207, .inl (t 0, 9, .inl (u_4.2.1 0)))] H := hP
    have hD : va_D A [(a 200, .inr (12, [.int v200_0, .ref (a 201), .ref (a 202), .ref (a 203), .ref (a 204), .int v200_5, .ref (a 205), .int v200_7, .int v200_8, .int v200_9, .int v200_10, .int v200_11, .int v200_12, .int v200_13, .ref (a 206), .int (u_4.1 0), .ref (a 207), .int (u_4.1 1), .int (u_4.1 2), .int v200_19, .ref (a 208), .int v200_21, .ref (a 209), .int v200_23, .ref (a 210), .ref (a 211), .ref (a 212), .int v200_27, .int v200_28, .int v200_29, .ref (a 213), .ref (a 214), .ref (a 215), .int v200_33, .int v200_34, .int v200_35, .ref (a 216), .ref (a 217), .ref (a 218), .ref (a 219)])), (a 201, .inl (t 0, 841, .inl f201)), (a 207, .inl (t 0, 9, .inl (u_4.2.1 0)))] := hD
    refine lv_aload_n hx hb dX12_best_15 rfl (lv_at hl 0 rfl) ?_
    refine lv_iload_n hx hb dX12_best_16 rfl (lv_at hl 1 rfl) ?_
    refine y_pV hF (s_X12_standingIn l D t a v200_0 v200_5 v200_7 v200_8 v200_9 v200_10 v200_11 v200_12 v200_13 (u_4.1 0) (u_4.1 1) (u_4.1 2) v200_19 v200_21 v200_23 v200_27 v200_28 v200_29 v200_33 v200_34 v200_35 f201 p0 r200_5 r200_7 r200_8 r200_9 r200_23 q201) m_1652 m_1654 m_s65 m_13 m_1655 hd_X12_standingIn ⟨Nat.le_of_ble_eq_true rfl, Nat.le_of_ble_eq_true rfl⟩ hK hN hP hS [0, 1] rfl 0 (ci := 12) rfl rfl rfl hl.1 rfl (Nat.le_of_ble_eq_true rfl) dX12_best_17 ⟨Nat.zero_le _, Nat.zero_le _⟩ (fun r_6 H locs hr_6 hP hS => ?_)
    refine lv_istore_n (lv' := [(2, .int r_6), (0, .ref (a 200)), (1, .int p0)]) hx hb dX12_best_20 rfl hl (by decide) rfl (fun ls hl => ?_)
    refine lv_iconst (v := 0) hx hb dX12_best_21 (by decide) ?_
    refine lv_istore_n (lv' := [(3, .int 0), (2, .int r_6), (0, .ref (a 200)), (1, .int p0)]) hx hb dX12_best_22 rfl hl (by decide) rfl (fun ls hl => ?_)
    refine loopW (α := US) (fun n y_7 H locs ls => 9 < (y_7.1 0).toInt + (n : Int) ∧ rg 0 9 (y_7.1 0) ∧ va_P D classes [(a 200, .inr (12, [.int v200_0, .ref (a 201), .ref (a 202), .ref (a 203), .ref (a 204), .int v200_5, .ref (a 205), .int v200_7, .int v200_8, .int v200_9, .int v200_10, .int v200_11, .int v200_12, .int v200_13, .ref (a 206), .int (u_4.1 0), .ref (a 207), .int (u_4.1 1), .int (u_4.1 2), .int v200_19, .ref (a 208), .int v200_21, .ref (a 209), .int v200_23, .ref (a 210), .ref (a 211), .ref (a 212), .int v200_27, .int v200_28, .int v200_29, .ref (a 213), .ref (a 214), .ref (a 215), .int v200_33, .int v200_34, .int v200_35, .ref (a 216), .ref (a 217), .ref (a 218), .ref (a 219)])), (a 201, .inl (t 0, 841, .inl f201)), (a 207, .inl (t 0, 9, .inl (u_4.2.1 0)))] H ∧ va_D A [(a 200, .inr (12, [.int v200_0, .ref (a 201), .ref (a 202), .ref (a 203), .ref (a 204), .int v200_5, .ref (a 205), .int v200_7, .int v200_8, .int v200_9, .int v200_10, .int v200_11, .int v200_12, .int v200_13, .ref (a 206), .int (u_4.1 0), .ref (a 207), .int (u_4.1 1), .int (u_4.1 2), .int v200_19, .ref (a 208), .int v200_21, .ref (a 209), .int v200_23, .ref (a 210), .ref (a 211), .ref (a 212), .int v200_27, .int v200_28, .int v200_29, .ref (a 213), .ref (a 214), .ref (a 215), .int v200_33, .int v200_34, .int v200_35, .ref (a 216), .ref (a 217), .ref (a 218), .ref (a 219)])), (a 201, .inl (t 0, 841, .inl f201)), (a 207, .inl (t 0, 9, .inl (u_4.2.1 0)))] ∧ va_S A s.heap H locs ∧ lv_has ls 6 [(3, .int (y_7.1 0)), (2, .int r_6), (0, .ref (a 200)), (1, .int p0)]) 23 (fun y_7 => []) (fun _ _ _ _ h9 => m_0 h9.1 h9.2.1) (fun n ih_9 y_7 H locs ls hI => ?_) 10 (fun k => [0].getD k 0, fun k => [].getD k (fun _ => 0), fun k => [].getD k (fun _ => 0), fun k => [].getD k 0) ⟨(m_i (rg_c (x := 0) (k := 0) (by decide)) (by decide)), (rg_w (c := 0) (d := 9) (rg_c (x := 0) (k := 0) (by decide)) (by decide) (by decide)), hP, hD, hS, (lv_sub hl [0, 1, 2, 3] rfl)⟩
    obtain ⟨me_10, h_8, hP, hD, hS, hl⟩ := hI
    refine lv_iload_n hx hb dX12_best_23 rfl (lv_at hl 0 rfl) ?_
    refine lv_aload_n hx hb dX12_best_24 rfl (lv_at hl 2 rfl) ?_
    refine va_get (D := D) (ci := 12) (v := .ref (a 201)) (C := RX12) (T := TX12) (N := 40) hx hb hts iX12 hown hK hP 0 rfl rfl 1 (by decide) (hts _ m_1344) (fun _ h9 => h9) rfl dX12_best_25 ?_
    refine lv_iconst (v := 5) hx hb dX12_best_28 (by decide) ?_
    refine va_iald hx hb hK hP 1 0 rfl rfl (in_rg (rg_c (x := 5) (k := 5) (by decide)) (by decide) (by decide)) dX12_best_29 ?_
    refine x_seti (f201 5) rfl ?_
    have h_11 : rg 0 9 (f201 5) := q201 5 (by decide)
    refine lv_icmp_ge (tgt := 126) hx hb dX12_best_30 (by decide) (fun c_12 => ?_) (fun c_12 => ?_)
    · skip
      refine lv_iconst (v := (-1)) hx hb dX12_best_126 (by decide) ?_
      have hP9 := hP.sub (ws' := [(a 200, .inr (12, [.int v200_0, .ref (a 201), .ref (a 202), .ref (a 203), .ref (a 204), .int v200_5, .ref (a 205), .int v200_7, .int v200_8, .int v200_9, .int v200_10, .int v200_11, .int v200_12, .int v200_13, .ref (a 206), .int (u_4.1 0), .ref (a 207), .int (u_4.1 1), .int (u_4.1 2), .int v200_19, .ref (a 208), .int v200_21, .ref (a 209), .int v200_23, .ref (a 210), .ref (a 211), .ref (a 212), .int v200_27, .int v200_28, .int v200_29, .ref (a 213), .ref (a 214), .ref (a 215), .int v200_33, .int v200_34, .int v200_35, .ref (a 216), .ref (a 217), .ref (a 218), .ref (a 219)])), (a 201, .inl (t 0, 841, .inl f201)), (a 207, .inl (t 0, 9, .inl (u_4.2.1 0)))]) [0, 1, 2] rfl
      have hD9 := hD.sub (ws' := [(a 200, .inr (12, [.int v200_0, .ref (a 201), .ref (a 202), .ref (a 203), .ref (a 204), .int v200_5, .ref (a 205), .int v200_7, .int v200_8, .int v200_9, .int v200_10, .int v200_11, .int v200_12, .int v200_13, .ref (a 206), .int (u_4.1 0), .ref (a 207), .int (u_4.1 1), .int (u_4.1 2), .int v200_19, .ref (a 208), .int v200_21, .ref (a 209), .int v200_23, .ref (a 210), .ref (a 211), .ref (a 212), .int v200_27, .int v200_28, .int v200_29, .ref (a 213), .ref (a 214), .ref (a 215), .int v200_33, .int v200_34, .int v200_35, .ref (a 216), .ref (a 217), .ref (a 218), .ref (a 219)])), (a 201, .inl (t 0, 841, .inl f201)), (a 207, .inl (t 0, 9, .inl (u_4.2.1 0)))]) [0, 1, 2] (by decide) rfl
      exact W.iret (v := (-1)) hx hb hr (fun t9 ht hW => ⟨⟨(-1), (fun k => [(u_4.1 0), (u_4.1 1), (u_4.1 2)].getD k 0, fun k => [(u_4.2.1 0)].getD k (fun _ => 0), fun k => [].getD k (fun _ => 0), fun _ => 0), rfl, (rg_w (c := (-2)) (d := 8) (rg_c (x := (-1)) (k := (-1)) (by decide)) (by decide) (by decide)), by rw [ht]; exact hP9, hD9⟩, hS.F ht⟩) hS.2.2 dX12_best_127
    · skip
      have h_13 : rg 0 8 (y_7.1 0) := ⟨(h_8).1, Int.le_trans (c_nleR c_12 h_11) (by decide)⟩
      have h_14 : rg 1 9 (f201 5) := ⟨Int.le_trans (by decide) (c_nle c_12 h_8), (h_11).2⟩
      refine lv_iload_n hx hb dX12_best_33 rfl (lv_at hl 1 rfl) ?_
      refine lv_iload_n hx hb dX12_best_34 rfl (lv_at hl 0 rfl) ?_
      refine y_pS hF (s_X12_bit l D t a r_6 (y_7.1 0)) m_1616 m_1617 m_13 m_1618 hd_X12_bit ⟨Nat.le_of_ble_eq_true rfl, Nat.le_of_ble_eq_true rfl⟩ hK hN hP hS [] rfl hl.1 rfl (Nat.le_of_ble_eq_true rfl) dX12_best_35 ⟨Nat.zero_le _, Nat.zero_le _⟩ (fun r_15 H locs hr_15 hP hS => ?_)
      refine lv_iconst (v := 1) hx hb dX12_best_38 (by decide) ?_
      refine lv_icmp_ne (tgt := 46) hx hb dX12_best_39 (by decide) (fun c_16 => ?_) (fun c_16 => ?_)
      · skip
        have h_17 : rg 0 0 r_15 := rg_w (rg_neR hr_15 c_16 (by decide)) (by decide) (by decide)
        refine lv_iconst (v := 0) hx hb dX12_best_46 (by decide) ?_
        refine lv_istore (lv' := [(4, .int 0), (3, .int (y_7.1 0)), (2, .int r_6), (0, .ref (a 200)), (1, .int p0)]) hx hb dX12_best_47 hl (by decide) rfl (fun ls hl => ?_)
        refine lv_iconst (v := 0) hx hb dX12_best_49 (by decide) ?_
        refine lv_istore (lv' := [(5, .int 0), (4, .int 0), (3, .int (y_7.1 0)), (2, .int r_6), (0, .ref (a 200)), (1, .int p0)]) hx hb dX12_best_50 hl (by decide) rfl (fun ls hl => ?_)
        refine loopW (α := US) (fun n y_18 H locs ls => 9 < (y_18.1 0).toInt + (n : Int) ∧ rg 0 9 (y_18.1 0) ∧ rg 0 1 (y_18.1 1) ∧ va_P D classes [(a 200, .inr (12, [.int v200_0, .ref (a 201), .ref (a 202), .ref (a 203), .ref (a 204), .int v200_5, .ref (a 205), .int v200_7, .int v200_8, .int v200_9, .int v200_10, .int v200_11, .int v200_12, .int v200_13, .ref (a 206), .int (u_4.1 0), .ref (a 207), .int (u_4.1 1), .int (u_4.1 2), .int v200_19, .ref (a 208), .int v200_21, .ref (a 209), .int v200_23, .ref (a 210), .ref (a 211), .ref (a 212), .int v200_27, .int v200_28, .int v200_29, .ref (a 213), .ref (a 214), .ref (a 215), .int v200_33, .int v200_34, .int v200_35, .ref (a 216), .ref (a 217), .ref (a 218), .ref (a 219)])), (a 201, .inl (t 0, 841, .inl f201)), (a 207, .inl (t 0, 9, .inl (u_4.2.1 0)))] H ∧ va_D A [(a 200, .inr (12, [.int v200_0, .ref (a 201), .ref (a 202), .ref (a 203), .ref (a 204), .int v200_5, .ref (a 205), .int v200_7, .int v200_8, .int v200_9, .int v200_10, .int v200_11, .int v200_12, .int v200_13, .ref (a 206), .int (u_4.1 0), .ref (a 207), .int (u_4.1 1), .int (u_4.1 2), .int v200_19, .ref (a 208), .int v200_21, .ref (a 209), .int v200_23, .ref (a 210), .ref (a 211), .ref (a 212), .int v200_27, .int v200_28, .int v200_29, .ref (a 213), .ref (a 214), .ref (a 215), .int v200_33, .int v200_34, .int v200_35, .ref (a 216), .ref (a 217), .ref (a 218), .ref (a 219)])), (a 201, .inl (t 0, 841, .inl f201)), (a 207, .inl (t 0, 9, .inl (u_4.2.1 0)))] ∧ va_S A s.heap H locs ∧ lv_has ls 6 [(5, .int (y_18.1 0)), (4, .int (y_18.1 1)), (3, .int (y_7.1 0)), (2, .int r_6), (0, .ref (a 200)), (1, .int p0)]) 52 (fun y_18 => []) (fun _ _ _ _ h9 => m_0 h9.1 h9.2.1) (fun n ih_21 y_18 H locs ls hI => ?_) 10 (fun k => [0, 0].getD k 0, fun k => [].getD k (fun _ => 0), fun k => [].getD k (fun _ => 0), fun k => [].getD k 0) ⟨(m_i (rg_c (x := 0) (k := 0) (by decide)) (by decide)), (rg_w (c := 0) (d := 9) (rg_c (x := 0) (k := 0) (by decide)) (by decide) (by decide)), (rg_w (c := 0) (d := 1) (rg_c (x := 0) (k := 0) (by decide)) (by decide) (by decide)), hP, hD, hS, (lv_sub hl [0, 1, 2, 3, 4, 5] rfl)⟩
        obtain ⟨me_22, h_19, h_20, hP, hD, hS, hl⟩ := hI
        refine lv_iload hx hb dX12_best_52 (lv_at hl 0 rfl) ?_
        refine lv_aload_n hx hb dX12_best_54 rfl (lv_at hl 4 rfl) ?_
        refine va_get (D := D) (ci := 12) (v := .ref (a 201)) (C := RX12) (T := TX12) (N := 40) hx hb hts iX12 hown hK hP 0 rfl rfl 1 (by decide) (hts _ m_1344) (fun _ h9 => h9) rfl dX12_best_55 ?_
        refine lv_iconst (v := 5) hx hb dX12_best_58 (by decide) ?_
        refine va_iald hx hb hK hP 1 0 rfl rfl (in_rg (rg_c (x := 5) (k := 5) (by decide)) (by decide) (by decide)) dX12_best_59 ?_
        refine x_seti (f201 5) rfl ?_
        have h_23 : rg 0 9 (f201 5) := q201 5 (by decide)
        refine lv_icmp_ge (tgt := 113) hx hb dX12_best_60 (by decide) (fun c_24 => ?_) (fun c_24 => ?_)
        · skip
          refine lv_iload hx hb dX12_best_113 (lv_at hl 1 rfl) ?_
          refine lv_if_eq (tgt := 120) hx hb dX12_best_115 (by decide) (fun c_25 => ?_) (fun c_25 => ?_)
          · skip
            have h_26 : rg 0 0 (y_18.1 1) := rg_eq c_25 (rg_c (x := 0) (k := 0) (by decide))
            obtain ⟨x_27, ex_27⟩ : ∃ y9 : Int32, y9 = (y_7.1 0) + 1 := ⟨_, rfl⟩
            have hx_27 : rg 1 9 x_27 := by rw [ex_27]; exact rg_add h_13 (rg_c (x := 1) (k := 1) (by decide)) (by decide) (by decide) (by decide) (by decide)
            have tx_27 : x_27.toInt = (y_7.1 0).toInt + 1 := by rw [ex_27]; exact inc_tk h_13 (by decide) (by decide) (by decide)
            refine lv_iinc (v := x_27) (lv' := [(3, .int x_27), (5, .int (y_18.1 0)), (4, .int (y_18.1 1)), (2, .int r_6), (0, .ref (a 200)), (1, .int p0)]) hx hb dX12_best_120 hl (k := 2) rfl (by rw [ex_27]; rfl) (by decide) rfl (fun ls hl => ?_)
            refine lv_goto (tgt := 23) hx hb dX12_best_123 (by decide) ?_
            exact ih_9 (fun k => [x_27].getD k 0, fun k => [].getD k (fun _ => 0), fun k => [].getD k (fun _ => 0), fun k => [].getD k 0) _ _ ls ⟨(m_upk me_10 tx_27 (by decide)), (rg_w (c := 0) (d := 9) hx_27 (by decide) (by decide)), hP, hD, hS, (lv_sub hl [0, 3, 4, 5] rfl)⟩
          · skip
            have h_28 : rg 1 1 (y_18.1 1) := rg_w (rg_neL h_20 c_25 (by decide)) (by decide) (by decide)
            refine lv_iload_n hx hb dX12_best_118 rfl (lv_at hl 2 rfl) ?_
            have hP9 := hP.sub (ws' := [(a 200, .inr (12, [.int v200_0, .ref (a 201), .ref (a 202), .ref (a 203), .ref (a 204), .int v200_5, .ref (a 205), .int v200_7, .int v200_8, .int v200_9, .int v200_10, .int v200_11, .int v200_12, .int v200_13, .ref (a 206), .int (u_4.1 0), .ref (a 207), .int (u_4.1 1), .int (u_4.1 2), .int v200_19, .ref (a 208), .int v200_21, .ref (a 209), .int v200_23, .ref (a 210), .ref (a 211), .ref (a 212), .int v200_27, .int v200_28, .int v200_29, .ref (a 213), .ref (a 214), .ref (a 215), .int v200_33, .int v200_34, .int v200_35, .ref (a 216), .ref (a 217), .ref (a 218), .ref (a 219)])), (a 201, .inl (t 0, 841, .inl f201)), (a 207, .inl (t 0, 9, .inl (u_4.2.1 0)))]) [0, 1, 2] rfl
            have hD9 := hD.sub (ws' := [(a 200, .inr (12, [.int v200_0, .ref (a 201), .ref (a 202), .ref (a 203), .ref (a 204), .int v200_5, .ref (a 205), .int v200_7, .int v200_8, .int v200_9, .int v200_10, .int v200_11, .int v200_12, .int v200_13, .ref (a 206), .int (u_4.1 0), .ref (a 207), .int (u_4.1 1), .int (u_4.1 2), .int v200_19, .ref (a 208), .int v200_21, .ref (a 209), .int v200_23, .ref (a 210), .ref (a 211), .ref (a 212), .int v200_27, .int v200_28, .int v200_29, .ref (a 213), .ref (a 214), .ref (a 215), .int v200_33, .int v200_34, .int v200_35, .ref (a 216), .ref (a 217), .ref (a 218), .ref (a 219)])), (a 201, .inl (t 0, 841, .inl f201)), (a 207, .inl (t 0, 9, .inl (u_4.2.1 0)))]) [0, 1, 2] (by decide) rfl
            exact W.iret (v := (y_7.1 0)) hx hb hr (fun t9 ht hW => ⟨⟨(y_7.1 0), (fun k => [(u_4.1 0), (u_4.1 1), (u_4.1 2)].getD k 0, fun k => [(u_4.2.1 0)].getD k (fun _ => 0), fun k => [].getD k (fun _ => 0), fun _ => 0), rfl, (rg_w (c := (-2)) (d := 8) h_13 (by decide) (by decide)), by rw [ht]; exact hP9, hD9⟩, hS.F ht⟩) hS.2.2 dX12_best_119
        · skip
          have h_29 : rg 0 8 (y_18.1 0) := ⟨(h_19).1, Int.le_trans (c_nleR c_24 h_23) (by decide)⟩
          have h_30 : rg 1 9 (f201 5) := ⟨Int.le_trans (by decide) (c_nle c_24 h_19), (h_23).2⟩
          refine lv_iload hx hb dX12_best_63 (lv_at hl 1 rfl) ?_
          refine lv_if_eq (tgt := 113) hx hb dX12_best_65 (by decide) (fun c_31 => ?_) (fun c_31 => ?_)
          · skip
            have h_32 : rg 0 0 (y_18.1 1) := rg_eq c_31 (rg_c (x := 0) (k := 0) (by decide))
            refine lv_iload hx hb dX12_best_113 (lv_at hl 1 rfl) ?_
            refine lv_if_eq (tgt := 120) hx hb dX12_best_115 (by decide) (fun c_33 => ?_) (fun c_33 => False.elim (by have q1 := (h_32).1; have q2 := (h_32).2; have q3 := ((rg_c (x := 0) (k := 0) (by decide))).1; have q4 := ((rg_c (x := 0) (k := 0) (by decide))).2; have q5 : ¬ ((y_18.1 1) : Int32).toInt = (0 : Int32).toInt := fun z => c_33 (Int32.toInt_inj.mp z); omega))
            obtain ⟨x_34, ex_34⟩ : ∃ y9 : Int32, y9 = (y_7.1 0) + 1 := ⟨_, rfl⟩
            have hx_34 : rg 1 9 x_34 := by rw [ex_34]; exact rg_add h_13 (rg_c (x := 1) (k := 1) (by decide)) (by decide) (by decide) (by decide) (by decide)
            have tx_34 : x_34.toInt = (y_7.1 0).toInt + 1 := by rw [ex_34]; exact inc_tk h_13 (by decide) (by decide) (by decide)
            refine lv_iinc (v := x_34) (lv' := [(3, .int x_34), (5, .int (y_18.1 0)), (4, .int (y_18.1 1)), (2, .int r_6), (0, .ref (a 200)), (1, .int p0)]) hx hb dX12_best_120 hl (k := 2) rfl (by rw [ex_34]; rfl) (by decide) rfl (fun ls hl => ?_)
            refine lv_goto (tgt := 23) hx hb dX12_best_123 (by decide) ?_
            exact ih_9 (fun k => [x_34].getD k 0, fun k => [].getD k (fun _ => 0), fun k => [].getD k (fun _ => 0), fun k => [].getD k 0) _ _ ls ⟨(m_upk me_10 tx_34 (by decide)), (rg_w (c := 0) (d := 9) hx_34 (by decide) (by decide)), hP, hD, hS, (lv_sub hl [0, 3, 4, 5] rfl)⟩
          · skip
            have h_35 : rg 1 1 (y_18.1 1) := rg_w (rg_neL h_20 c_31 (by decide)) (by decide) (by decide)
            refine lv_iload hx hb dX12_best_68 (lv_at hl 0 rfl) ?_
            refine lv_iload_n hx hb dX12_best_70 rfl (lv_at hl 2 rfl) ?_
            refine lv_icmp_eq (tgt := 100) hx hb dX12_best_71 (by decide) (fun c_36 => ?_) (fun c_36 => ?_)
            · skip
              refine lv_iconst (v := 1) hx hb dX12_best_100 (by decide) ?_
              refine lv_goto (tgt := 105) hx hb dX12_best_101 (by decide) ?_
              refine lv_istore (lv' := [(4, .int 1), (5, .int (y_18.1 0)), (3, .int (y_7.1 0)), (2, .int r_6), (0, .ref (a 200)), (1, .int p0)]) hx hb dX12_best_105 hl (by decide) rfl (fun ls hl => ?_)
              obtain ⟨x_37, ex_37⟩ : ∃ y9 : Int32, y9 = (y_18.1 0) + 1 := ⟨_, rfl⟩
              have hx_37 : rg 1 9 x_37 := by rw [ex_37]; exact rg_add h_29 (rg_c (x := 1) (k := 1) (by decide)) (by decide) (by decide) (by decide) (by decide)
              have tx_37 : x_37.toInt = (y_18.1 0).toInt + 1 := by rw [ex_37]; exact inc_tk h_29 (by decide) (by decide) (by decide)
              refine lv_iinc (v := x_37) (lv' := [(5, .int x_37), (4, .int 1), (3, .int (y_7.1 0)), (2, .int r_6), (0, .ref (a 200)), (1, .int p0)]) hx hb dX12_best_107 hl (k := 1) rfl (by rw [ex_37]; rfl) (by decide) rfl (fun ls hl => ?_)
              refine lv_goto (tgt := 52) hx hb dX12_best_110 (by decide) ?_
              exact ih_21 (fun k => [x_37, 1].getD k 0, fun k => [].getD k (fun _ => 0), fun k => [].getD k (fun _ => 0), fun k => [].getD k 0) _ _ ls ⟨(m_upk me_22 tx_37 (by decide)), (rg_w (c := 0) (d := 9) hx_37 (by decide) (by decide)), (rg_w (c := 0) (d := 1) (rg_c (x := 1) (k := 1) (by decide)) (by decide) (by decide)), hP, hD, hS, (lv_sub hl [0, 1, 2, 3, 4, 5] rfl)⟩
            · skip
              refine lv_iload_n hx hb dX12_best_74 rfl (lv_at hl 3 rfl) ?_
              refine lv_iload hx hb dX12_best_75 (lv_at hl 0 rfl) ?_
              refine y_pS hF (s_X12_bit l D t a r_6 (y_18.1 0)) m_1616 m_1617 m_13 m_1618 hd_X12_bit ⟨Nat.le_of_ble_eq_true rfl, Nat.le_of_ble_eq_true rfl⟩ hK hN hP hS [] rfl hl.1 rfl (Nat.le_of_ble_eq_true rfl) dX12_best_77 ⟨Nat.zero_le _, Nat.zero_le _⟩ (fun r_38 H locs hr_38 hP hS => ?_)
              refine lv_if_eq (tgt := 100) hx hb dX12_best_80 (by decide) (fun c_39 => ?_) (fun c_39 => ?_)
              · skip
                have h_40 : rg 0 0 r_38 := rg_eq c_39 (rg_c (x := 0) (k := 0) (by decide))
                refine lv_iconst (v := 1) hx hb dX12_best_100 (by decide) ?_
                refine lv_goto (tgt := 105) hx hb dX12_best_101 (by decide) ?_
                refine lv_istore (lv' := [(4, .int 1), (5, .int (y_18.1 0)), (3, .int (y_7.1 0)), (2, .int r_6), (0, .ref (a 200)), (1, .int p0)]) hx hb dX12_best_105 hl (by decide) rfl (fun ls hl => ?_)
                obtain ⟨x_41, ex_41⟩ : ∃ y9 : Int32, y9 = (y_18.1 0) + 1 := ⟨_, rfl⟩
                have hx_41 : rg 1 9 x_41 := by rw [ex_41]; exact rg_add h_29 (rg_c (x := 1) (k := 1) (by decide)) (by decide) (by decide) (by decide) (by decide)
                have tx_41 : x_41.toInt = (y_18.1 0).toInt + 1 := by rw [ex_41]; exact inc_tk h_29 (by decide) (by decide) (by decide)
                refine lv_iinc (v := x_41) (lv' := [(5, .int x_41), (4, .int 1), (3, .int (y_7.1 0)), (2, .int r_6), (0, .ref (a 200)), (1, .int p0)]) hx hb dX12_best_107 hl (k := 1) rfl (by rw [ex_41]; rfl) (by decide) rfl (fun ls hl => ?_)
                refine lv_goto (tgt := 52) hx hb dX12_best_110 (by decide) ?_
                exact ih_21 (fun k => [x_41, 1].getD k 0, fun k => [].getD k (fun _ => 0), fun k => [].getD k (fun _ => 0), fun k => [].getD k 0) _ _ ls ⟨(m_upk me_22 tx_41 (by decide)), (rg_w (c := 0) (d := 9) hx_41 (by decide) (by decide)), (rg_w (c := 0) (d := 1) (rg_c (x := 1) (k := 1) (by decide)) (by decide) (by decide)), hP, hD, hS, (lv_sub hl [0, 1, 2, 3, 4, 5] rfl)⟩
              · skip
                have h_42 : rg 1 1 r_38 := rg_w (rg_neL hr_38 c_39 (by decide)) (by decide) (by decide)
                refine lv_aload_n hx hb dX12_best_83 rfl (lv_at hl 4 rfl) ?_
                refine lv_iload_n hx hb dX12_best_84 rfl (lv_at hl 2 rfl) ?_
                refine lv_iload hx hb dX12_best_85 (lv_at hl 0 rfl) ?_
                refine y_pV hF (s_X12_beatsOf l D t a v200_0 v200_5 v200_7 v200_8 v200_9 v200_10 v200_11 v200_12 v200_13 (u_4.1 0) (u_4.1 1) (u_4.1 2) v200_19 v200_21 v200_23 v200_27 v200_28 v200_29 v200_33 v200_34 v200_35 f201 (u_4.2.1 0) (y_7.1 0) (y_18.1 0) r200_5 r200_7 r200_8 r200_9 r200_23 q201 h_13 h_29) m_1754 m_1756 m_s80 m_13 m_1757 hd_X12_beatsOf ⟨Nat.le_of_ble_eq_true rfl, Nat.le_of_ble_eq_true rfl⟩ hK hN hP hS [0, 1, 2] rfl 0 (ci := 12) rfl rfl rfl hl.1 rfl (Nat.le_of_ble_eq_true rfl) dX12_best_87 ⟨Nat.zero_le _, Nat.zero_le _⟩ (fun r_43 H locs hr_43 hP hS => ?_)
                refine lv_aload_n hx hb dX12_best_90 rfl (lv_at hl 4 rfl) ?_
                refine lv_iload hx hb dX12_best_91 (lv_at hl 0 rfl) ?_
                refine lv_iload_n hx hb dX12_best_93 rfl (lv_at hl 2 rfl) ?_
                refine y_pV hF (s_X12_beatsOf l D t a v200_0 v200_5 v200_7 v200_8 v200_9 v200_10 v200_11 v200_12 v200_13 (u_4.1 0) (u_4.1 1) (u_4.1 2) v200_19 v200_21 v200_23 v200_27 v200_28 v200_29 v200_33 v200_34 v200_35 f201 (u_4.2.1 0) (y_18.1 0) (y_7.1 0) r200_5 r200_7 r200_8 r200_9 r200_23 q201 h_29 h_13) m_1754 m_1756 m_s80 m_13 m_1757 hd_X12_beatsOf ⟨Nat.le_of_ble_eq_true rfl, Nat.le_of_ble_eq_true rfl⟩ hK hN hP hS [0, 1, 2] rfl 0 (ci := 12) rfl rfl rfl hl.1 rfl (Nat.le_of_ble_eq_true rfl) dX12_best_94 ⟨Nat.zero_le _, Nat.zero_le _⟩ (fun r_44 H locs hr_44 hP hS => ?_)
                refine lv_icmp_le (tgt := 104) hx hb dX12_best_97 (by decide) (fun c_45 => ?_) (fun c_45 => ?_)
                · skip
                  refine lv_iconst (v := 0) hx hb dX12_best_104 (by decide) ?_
                  refine lv_istore (lv' := [(4, .int 0), (5, .int (y_18.1 0)), (3, .int (y_7.1 0)), (2, .int r_6), (0, .ref (a 200)), (1, .int p0)]) hx hb dX12_best_105 hl (by decide) rfl (fun ls hl => ?_)
                  obtain ⟨x_46, ex_46⟩ : ∃ y9 : Int32, y9 = (y_18.1 0) + 1 := ⟨_, rfl⟩
                  have hx_46 : rg 1 9 x_46 := by rw [ex_46]; exact rg_add h_29 (rg_c (x := 1) (k := 1) (by decide)) (by decide) (by decide) (by decide) (by decide)
                  have tx_46 : x_46.toInt = (y_18.1 0).toInt + 1 := by rw [ex_46]; exact inc_tk h_29 (by decide) (by decide) (by decide)
                  refine lv_iinc (v := x_46) (lv' := [(5, .int x_46), (4, .int 0), (3, .int (y_7.1 0)), (2, .int r_6), (0, .ref (a 200)), (1, .int p0)]) hx hb dX12_best_107 hl (k := 1) rfl (by rw [ex_46]; rfl) (by decide) rfl (fun ls hl => ?_)
                  refine lv_goto (tgt := 52) hx hb dX12_best_110 (by decide) ?_
                  exact ih_21 (fun k => [x_46, 0].getD k 0, fun k => [].getD k (fun _ => 0), fun k => [].getD k (fun _ => 0), fun k => [].getD k 0) _ _ ls ⟨(m_upk me_22 tx_46 (by decide)), (rg_w (c := 0) (d := 9) hx_46 (by decide) (by decide)), (rg_w (c := 0) (d := 1) (rg_c (x := 0) (k := 0) (by decide)) (by decide) (by decide)), hP, hD, hS, (lv_sub hl [0, 1, 2, 3, 4, 5] rfl)⟩
                · skip
                  have h_47 : rg (-2147483647) 2147483647 r_43 := ⟨Int.le_trans (by decide) (c_nle c_45 (rg_any r_44)), ((rg_any r_43)).2⟩
                  have h_48 : rg (-2147483648) 2147483646 r_44 := ⟨((rg_any r_44)).1, Int.le_trans (c_nleR c_45 (rg_any r_43)) (by decide)⟩
                  refine lv_iconst (v := 1) hx hb dX12_best_100 (by decide) ?_
                  refine lv_goto (tgt := 105) hx hb dX12_best_101 (by decide) ?_
                  refine lv_istore (lv' := [(4, .int 1), (5, .int (y_18.1 0)), (3, .int (y_7.1 0)), (2, .int r_6), (0, .ref (a 200)), (1, .int p0)]) hx hb dX12_best_105 hl (by decide) rfl (fun ls hl => ?_)
                  obtain ⟨x_49, ex_49⟩ : ∃ y9 : Int32, y9 = (y_18.1 0) + 1 := ⟨_, rfl⟩
                  have hx_49 : rg 1 9 x_49 := by rw [ex_49]; exact rg_add h_29 (rg_c (x := 1) (k := 1) (by decide)) (by decide) (by decide) (by decide) (by decide)
                  have tx_49 : x_49.toInt = (y_18.1 0).toInt + 1 := by rw [ex_49]; exact inc_tk h_29 (by decide) (by decide) (by decide)
                  refine lv_iinc (v := x_49) (lv' := [(5, .int x_49), (4, .int 1), (3, .int (y_7.1 0)), (2, .int r_6), (0, .ref (a 200)), (1, .int p0)]) hx hb dX12_best_107 hl (k := 1) rfl (by rw [ex_49]; rfl) (by decide) rfl (fun ls hl => ?_)
                  refine lv_goto (tgt := 52) hx hb dX12_best_110 (by decide) ?_
                  exact ih_21 (fun k => [x_49, 1].getD k 0, fun k => [].getD k (fun _ => 0), fun k => [].getD k (fun _ => 0), fun k => [].getD k 0) _ _ ls ⟨(m_upk me_22 tx_49 (by decide)), (rg_w (c := 0) (d := 9) hx_49 (by decide) (by decide)), (rg_w (c := 0) (d := 1) (rg_c (x := 1) (k := 1) (by decide)) (by decide) (by decide)), hP, hD, hS, (lv_sub hl [0, 1, 2, 3, 4, 5] rfl)⟩
      · skip
        have h_50 : rg 1 1 r_15 := rg_eq c_16 (rg_c (x := 1) (k := 1) (by decide))
        refine lv_iconst (v := 1) hx hb dX12_best_42 (by decide) ?_
        refine lv_goto (tgt := 47) hx hb dX12_best_43 (by decide) ?_
        refine lv_istore (lv' := [(4, .int 1), (3, .int (y_7.1 0)), (2, .int r_6), (0, .ref (a 200)), (1, .int p0)]) hx hb dX12_best_47 hl (by decide) rfl (fun ls hl => ?_)
        refine lv_iconst (v := 0) hx hb dX12_best_49 (by decide) ?_
        refine lv_istore (lv' := [(5, .int 0), (4, .int 1), (3, .int (y_7.1 0)), (2, .int r_6), (0, .ref (a 200)), (1, .int p0)]) hx hb dX12_best_50 hl (by decide) rfl (fun ls hl => ?_)
        refine loopW (α := US) (fun n y_51 H locs ls => 9 < (y_51.1 0).toInt + (n : Int) ∧ rg 0 9 (y_51.1 0) ∧ rg 0 1 (y_51.1 1) ∧ va_P D classes [(a 200, .inr (12, [.int v200_0, .ref (a 201), .ref (a 202), .ref (a 203), .ref (a 204), .int v200_5, .ref (a 205), .int v200_7, .int v200_8, .int v200_9, .int v200_10, .int v200_11, .int v200_12, .int v200_13, .ref (a 206), .int (u_4.1 0), .ref (a 207), .int (u_4.1 1), .int (u_4.1 2), .int v200_19, .ref (a 208), .int v200_21, .ref (a 209), .int v200_23, .ref (a 210), .ref (a 211), .ref (a 212), .int v200_27, .int v200_28, .int v200_29, .ref (a 213), .ref (a 214), .ref (a 215), .int v200_33, .int v200_34, .int v200_35, .ref (a 216), .ref (a 217), .ref (a 218), .ref (a 219)])), (a 201, .inl (t 0, 841, .inl f201)), (a 207, .inl (t 0, 9, .inl (u_4.2.1 0)))] H ∧ va_D A [(a 200, .inr (12, [.int v200_0, .ref (a 201), .ref (a 202), .ref (a 203), .ref (a 204), .int v200_5, .ref (a 205), .int v200_7, .int v200_8, .int v200_9, .int v200_10, .int v200_11, .int v200_12, .int v200_13, .ref (a 206), .int (u_4.1 0), .ref (a 207), .int (u_4.1 1), .int (u_4.1 2), .int v200_19, .ref (a 208), .int v200_21, .ref (a 209), .int v200_23, .ref (a 210), .ref (a 211), .ref (a 212), .int v200_27, .int v200_28, .int v200_29, .ref (a 213), .ref (a 214), .ref (a 215), .int v200_33, .int v200_34, .int v200_35, .ref (a 216), .ref (a 217), .ref (a 218), .ref (a 219)])), (a 201, .inl (t 0, 841, .inl f201)), (a 207, .inl (t 0, 9, .inl (u_4.2.1 0)))] ∧ va_S A s.heap H locs ∧ lv_has ls 6 [(5, .int (y_51.1 0)), (4, .int (y_51.1 1)), (3, .int (y_7.1 0)), (2, .int r_6), (0, .ref (a 200)), (1, .int p0)]) 52 (fun y_51 => []) (fun _ _ _ _ h9 => m_0 h9.1 h9.2.1) (fun n ih_54 y_51 H locs ls hI => ?_) 10 (fun k => [0, 1].getD k 0, fun k => [].getD k (fun _ => 0), fun k => [].getD k (fun _ => 0), fun k => [].getD k 0) ⟨(m_i (rg_c (x := 0) (k := 0) (by decide)) (by decide)), (rg_w (c := 0) (d := 9) (rg_c (x := 0) (k := 0) (by decide)) (by decide) (by decide)), (rg_w (c := 0) (d := 1) (rg_c (x := 1) (k := 1) (by decide)) (by decide) (by decide)), hP, hD, hS, (lv_sub hl [0, 1, 2, 3, 4, 5] rfl)⟩
        obtain ⟨me_55, h_52, h_53, hP, hD, hS, hl⟩ := hI
        refine lv_iload hx hb dX12_best_52 (lv_at hl 0 rfl) ?_
        refine lv_aload_n hx hb dX12_best_54 rfl (lv_at hl 4 rfl) ?_
        refine va_get (D := D) (ci := 12) (v := .ref (a 201)) (C := RX12) (T := TX12) (N := 40) hx hb hts iX12 hown hK hP 0 rfl rfl 1 (by decide) (hts _ m_1344) (fun _ h9 => h9) rfl dX12_best_55 ?_
        refine lv_iconst (v := 5) hx hb dX12_best_58 (by decide) ?_
        refine va_iald hx hb hK hP 1 0 rfl rfl (in_rg (rg_c (x := 5) (k := 5) (by decide)) (by decide) (by decide)) dX12_best_59 ?_
        refine x_seti (f201 5) rfl ?_
        have h_56 : rg 0 9 (f201 5) := q201 5 (by decide)
        refine lv_icmp_ge (tgt := 113) hx hb dX12_best_60 (by decide) (fun c_57 => ?_) (fun c_57 => ?_)
        · skip
          refine lv_iload hx hb dX12_best_113 (lv_at hl 1 rfl) ?_
          refine lv_if_eq (tgt := 120) hx hb dX12_best_115 (by decide) (fun c_58 => ?_) (fun c_58 => ?_)
          · skip
            have h_59 : rg 0 0 (y_51.1 1) := rg_eq c_58 (rg_c (x := 0) (k := 0) (by decide))
            obtain ⟨x_60, ex_60⟩ : ∃ y9 : Int32, y9 = (y_7.1 0) + 1 := ⟨_, rfl⟩
            have hx_60 : rg 1 9 x_60 := by rw [ex_60]; exact rg_add h_13 (rg_c (x := 1) (k := 1) (by decide)) (by decide) (by decide) (by decide) (by decide)
            have tx_60 : x_60.toInt = (y_7.1 0).toInt + 1 := by rw [ex_60]; exact inc_tk h_13 (by decide) (by decide) (by decide)
            refine lv_iinc (v := x_60) (lv' := [(3, .int x_60), (5, .int (y_51.1 0)), (4, .int (y_51.1 1)), (2, .int r_6), (0, .ref (a 200)), (1, .int p0)]) hx hb dX12_best_120 hl (k := 2) rfl (by rw [ex_60]; rfl) (by decide) rfl (fun ls hl => ?_)
            refine lv_goto (tgt := 23) hx hb dX12_best_123 (by decide) ?_
            exact ih_9 (fun k => [x_60].getD k 0, fun k => [].getD k (fun _ => 0), fun k => [].getD k (fun _ => 0), fun k => [].getD k 0) _ _ ls ⟨(m_upk me_10 tx_60 (by decide)), (rg_w (c := 0) (d := 9) hx_60 (by decide) (by decide)), hP, hD, hS, (lv_sub hl [0, 3, 4, 5] rfl)⟩
          · skip
            have h_61 : rg 1 1 (y_51.1 1) := rg_w (rg_neL h_53 c_58 (by decide)) (by decide) (by decide)
            refine lv_iload_n hx hb dX12_best_118 rfl (lv_at hl 2 rfl) ?_
            have hP9 := hP.sub (ws' := [(a 200, .inr (12, [.int v200_0, .ref (a 201), .ref (a 202), .ref (a 203), .ref (a 204), .int v200_5, .ref (a 205), .int v200_7, .int v200_8, .int v200_9, .int v200_10, .int v200_11, .int v200_12, .int v200_13, .ref (a 206), .int (u_4.1 0), .ref (a 207), .int (u_4.1 1), .int (u_4.1 2), .int v200_19, .ref (a 208), .int v200_21, .ref (a 209), .int v200_23, .ref (a 210), .ref (a 211), .ref (a 212), .int v200_27, .int v200_28, .int v200_29, .ref (a 213), .ref (a 214), .ref (a 215), .int v200_33, .int v200_34, .int v200_35, .ref (a 216), .ref (a 217), .ref (a 218), .ref (a 219)])), (a 201, .inl (t 0, 841, .inl f201)), (a 207, .inl (t 0, 9, .inl (u_4.2.1 0)))]) [0, 1, 2] rfl
            have hD9 := hD.sub (ws' := [(a 200, .inr (12, [.int v200_0, .ref (a 201), .ref (a 202), .ref (a 203), .ref (a 204), .int v200_5, .ref (a 205), .int v200_7, .int v200_8, .int v200_9, .int v200_10, .int v200_11, .int v200_12, .int v200_13, .ref (a 206), .int (u_4.1 0), .ref (a 207), .int (u_4.1 1), .int (u_4.1 2), .int v200_19, .ref (a 208), .int v200_21, .ref (a 209), .int v200_23, .ref (a 210), .ref (a 211), .ref (a 212), .int v200_27, .int v200_28, .int v200_29, .ref (a 213), .ref (a 214), .ref (a 215), .int v200_33, .int v200_34, .int v200_35, .ref (a 216), .ref (a 217), .ref (a 218), .ref (a 219)])), (a 201, .inl (t 0, 841, .inl f201)), (a 207, .inl (t 0, 9, .inl (u_4.2.1 0)))]) [0, 1, 2] (by decide) rfl
            exact W.iret (v := (y_7.1 0)) hx hb hr (fun t9 ht hW => ⟨⟨(y_7.1 0), (fun k => [(u_4.1 0), (u_4.1 1), (u_4.1 2)].getD k 0, fun k => [(u_4.2.1 0)].getD k (fun _ => 0), fun k => [].getD k (fun _ => 0), fun _ => 0), rfl, (rg_w (c := (-2)) (d := 8) h_13 (by decide) (by decide)), by rw [ht]; exact hP9, hD9⟩, hS.F ht⟩) hS.2.2 dX12_best_119
        · skip
          have h_62 : rg 0 8 (y_51.1 0) := ⟨(h_52).1, Int.le_trans (c_nleR c_57 h_56) (by decide)⟩
          have h_63 : rg 1 9 (f201 5) := ⟨Int.le_trans (by decide) (c_nle c_57 h_52), (h_56).2⟩
          refine lv_iload hx hb dX12_best_63 (lv_at hl 1 rfl) ?_
          refine lv_if_eq (tgt := 113) hx hb dX12_best_65 (by decide) (fun c_64 => ?_) (fun c_64 => ?_)
          · skip
            have h_65 : rg 0 0 (y_51.1 1) := rg_eq c_64 (rg_c (x := 0) (k := 0) (by decide))
            refine lv_iload hx hb dX12_best_113 (lv_at hl 1 rfl) ?_
            refine lv_if_eq (tgt := 120) hx hb dX12_best_115 (by decide) (fun c_66 => ?_) (fun c_66 => False.elim (by have q1 := (h_65).1; have q2 := (h_65).2; have q3 := ((rg_c (x := 0) (k := 0) (by decide))).1; have q4 := ((rg_c (x := 0) (k := 0) (by decide))).2; have q5 : ¬ ((y_51.1 1) : Int32).toInt = (0 : Int32).toInt := fun z => c_66 (Int32.toInt_inj.mp z); omega))
            obtain ⟨x_67, ex_67⟩ : ∃ y9 : Int32, y9 = (y_7.1 0) + 1 := ⟨_, rfl⟩
            have hx_67 : rg 1 9 x_67 := by rw [ex_67]; exact rg_add h_13 (rg_c (x := 1) (k := 1) (by decide)) (by decide) (by decide) (by decide) (by decide)
            have tx_67 : x_67.toInt = (y_7.1 0).toInt + 1 := by rw [ex_67]; exact inc_tk h_13 (by decide) (by decide) (by decide)
            refine lv_iinc (v := x_67) (lv' := [(3, .int x_67), (5, .int (y_51.1 0)), (4, .int (y_51.1 1)), (2, .int r_6), (0, .ref (a 200)), (1, .int p0)]) hx hb dX12_best_120 hl (k := 2) rfl (by rw [ex_67]; rfl) (by decide) rfl (fun ls hl => ?_)
            refine lv_goto (tgt := 23) hx hb dX12_best_123 (by decide) ?_
            exact ih_9 (fun k => [x_67].getD k 0, fun k => [].getD k (fun _ => 0), fun k => [].getD k (fun _ => 0), fun k => [].getD k 0) _ _ ls ⟨(m_upk me_10 tx_67 (by decide)), (rg_w (c := 0) (d := 9) hx_67 (by decide) (by decide)), hP, hD, hS, (lv_sub hl [0, 3, 4, 5] rfl)⟩
          · skip
            have h_68 : rg 1 1 (y_51.1 1) := rg_w (rg_neL h_53 c_64 (by decide)) (by decide) (by decide)
            refine lv_iload hx hb dX12_best_68 (lv_at hl 0 rfl) ?_
            refine lv_iload_n hx hb dX12_best_70 rfl (lv_at hl 2 rfl) ?_
            refine lv_icmp_eq (tgt := 100) hx hb dX12_best_71 (by decide) (fun c_69 => ?_) (fun c_69 => ?_)
            · skip
              refine lv_iconst (v := 1) hx hb dX12_best_100 (by decide) ?_
              refine lv_goto (tgt := 105) hx hb dX12_best_101 (by decide) ?_
              refine lv_istore (lv' := [(4, .int 1), (5, .int (y_51.1 0)), (3, .int (y_7.1 0)), (2, .int r_6), (0, .ref (a 200)), (1, .int p0)]) hx hb dX12_best_105 hl (by decide) rfl (fun ls hl => ?_)
              obtain ⟨x_70, ex_70⟩ : ∃ y9 : Int32, y9 = (y_51.1 0) + 1 := ⟨_, rfl⟩
              have hx_70 : rg 1 9 x_70 := by rw [ex_70]; exact rg_add h_62 (rg_c (x := 1) (k := 1) (by decide)) (by decide) (by decide) (by decide) (by decide)
              have tx_70 : x_70.toInt = (y_51.1 0).toInt + 1 := by rw [ex_70]; exact inc_tk h_62 (by decide) (by decide) (by decide)
              refine lv_iinc (v := x_70) (lv' := [(5, .int x_70), (4, .int 1), (3, .int (y_7.1 0)), (2, .int r_6), (0, .ref (a 200)), (1, .int p0)]) hx hb dX12_best_107 hl (k := 1) rfl (by rw [ex_70]; rfl) (by decide) rfl (fun ls hl => ?_)
              refine lv_goto (tgt := 52) hx hb dX12_best_110 (by decide) ?_
              exact ih_54 (fun k => [x_70, 1].getD k 0, fun k => [].getD k (fun _ => 0), fun k => [].getD k (fun _ => 0), fun k => [].getD k 0) _ _ ls ⟨(m_upk me_55 tx_70 (by decide)), (rg_w (c := 0) (d := 9) hx_70 (by decide) (by decide)), (rg_w (c := 0) (d := 1) (rg_c (x := 1) (k := 1) (by decide)) (by decide) (by decide)), hP, hD, hS, (lv_sub hl [0, 1, 2, 3, 4, 5] rfl)⟩
            · skip
              refine lv_iload_n hx hb dX12_best_74 rfl (lv_at hl 3 rfl) ?_
              refine lv_iload hx hb dX12_best_75 (lv_at hl 0 rfl) ?_
              refine y_pS hF (s_X12_bit l D t a r_6 (y_51.1 0)) m_1616 m_1617 m_13 m_1618 hd_X12_bit ⟨Nat.le_of_ble_eq_true rfl, Nat.le_of_ble_eq_true rfl⟩ hK hN hP hS [] rfl hl.1 rfl (Nat.le_of_ble_eq_true rfl) dX12_best_77 ⟨Nat.zero_le _, Nat.zero_le _⟩ (fun r_71 H locs hr_71 hP hS => ?_)
              refine lv_if_eq (tgt := 100) hx hb dX12_best_80 (by decide) (fun c_72 => ?_) (fun c_72 => ?_)
              · skip
                have h_73 : rg 0 0 r_71 := rg_eq c_72 (rg_c (x := 0) (k := 0) (by decide))
                refine lv_iconst (v := 1) hx hb dX12_best_100 (by decide) ?_
                refine lv_goto (tgt := 105) hx hb dX12_best_101 (by decide) ?_
                refine lv_istore (lv' := [(4, .int 1), (5, .int (y_51.1 0)), (3, .int (y_7.1 0)), (2, .int r_6), (0, .ref (a 200)), (1, .int p0)]) hx hb dX12_best_105 hl (by decide) rfl (fun ls hl => ?_)
                obtain ⟨x_74, ex_74⟩ : ∃ y9 : Int32, y9 = (y_51.1 0) + 1 := ⟨_, rfl⟩
                have hx_74 : rg 1 9 x_74 := by rw [ex_74]; exact rg_add h_62 (rg_c (x := 1) (k := 1) (by decide)) (by decide) (by decide) (by decide) (by decide)
                have tx_74 : x_74.toInt = (y_51.1 0).toInt + 1 := by rw [ex_74]; exact inc_tk h_62 (by decide) (by decide) (by decide)
                refine lv_iinc (v := x_74) (lv' := [(5, .int x_74), (4, .int 1), (3, .int (y_7.1 0)), (2, .int r_6), (0, .ref (a 200)), (1, .int p0)]) hx hb dX12_best_107 hl (k := 1) rfl (by rw [ex_74]; rfl) (by decide) rfl (fun ls hl => ?_)
                refine lv_goto (tgt := 52) hx hb dX12_best_110 (by decide) ?_
                exact ih_54 (fun k => [x_74, 1].getD k 0, fun k => [].getD k (fun _ => 0), fun k => [].getD k (fun _ => 0), fun k => [].getD k 0) _ _ ls ⟨(m_upk me_55 tx_74 (by decide)), (rg_w (c := 0) (d := 9) hx_74 (by decide) (by decide)), (rg_w (c := 0) (d := 1) (rg_c (x := 1) (k := 1) (by decide)) (by decide) (by decide)), hP, hD, hS, (lv_sub hl [0, 1, 2, 3, 4, 5] rfl)⟩
              · skip
                have h_75 : rg 1 1 r_71 := rg_w (rg_neL hr_71 c_72 (by decide)) (by decide) (by decide)
                refine lv_aload_n hx hb dX12_best_83 rfl (lv_at hl 4 rfl) ?_
                refine lv_iload_n hx hb dX12_best_84 rfl (lv_at hl 2 rfl) ?_
                refine lv_iload hx hb dX12_best_85 (lv_at hl 0 rfl) ?_
                refine y_pV hF (s_X12_beatsOf l D t a v200_0 v200_5 v200_7 v200_8 v200_9 v200_10 v200_11 v200_12 v200_13 (u_4.1 0) (u_4.1 1) (u_4.1 2) v200_19 v200_21 v200_23 v200_27 v200_28 v200_29 v200_33 v200_34 v200_35 f201 (u_4.2.1 0) (y_7.1 0) (y_51.1 0) r200_5 r200_7 r200_8 r200_9 r200_23 q201 h_13 h_62) m_1754 m_1756 m_s80 m_13 m_1757 hd_X12_beatsOf ⟨Nat.le_of_ble_eq_true rfl, Nat.le_of_ble_eq_true rfl⟩ hK hN hP hS [0, 1, 2] rfl 0 (ci := 12) rfl rfl rfl hl.1 rfl (Nat.le_of_ble_eq_true rfl) dX12_best_87 ⟨Nat.zero_le _, Nat.zero_le _⟩ (fun r_76 H locs hr_76 hP hS => ?_)
                refine lv_aload_n hx hb dX12_best_90 rfl (lv_at hl 4 rfl) ?_
                refine lv_iload hx hb dX12_best_91 (lv_at hl 0 rfl) ?_
                refine lv_iload_n hx hb dX12_best_93 rfl (lv_at hl 2 rfl) ?_
                refine y_pV hF (s_X12_beatsOf l D t a v200_0 v200_5 v200_7 v200_8 v200_9 v200_10 v200_11 v200_12 v200_13 (u_4.1 0) (u_4.1 1) (u_4.1 2) v200_19 v200_21 v200_23 v200_27 v200_28 v200_29 v200_33 v200_34 v200_35 f201 (u_4.2.1 0) (y_51.1 0) (y_7.1 0) r200_5 r200_7 r200_8 r200_9 r200_23 q201 h_62 h_13) m_1754 m_1756 m_s80 m_13 m_1757 hd_X12_beatsOf ⟨Nat.le_of_ble_eq_true rfl, Nat.le_of_ble_eq_true rfl⟩ hK hN hP hS [0, 1, 2] rfl 0 (ci := 12) rfl rfl rfl hl.1 rfl (Nat.le_of_ble_eq_true rfl) dX12_best_94 ⟨Nat.zero_le _, Nat.zero_le _⟩ (fun r_77 H locs hr_77 hP hS => ?_)
                refine lv_icmp_le (tgt := 104) hx hb dX12_best_97 (by decide) (fun c_78 => ?_) (fun c_78 => ?_)
                · skip
                  refine lv_iconst (v := 0) hx hb dX12_best_104 (by decide) ?_
                  refine lv_istore (lv' := [(4, .int 0), (5, .int (y_51.1 0)), (3, .int (y_7.1 0)), (2, .int r_6), (0, .ref (a 200)), (1, .int p0)]) hx hb dX12_best_105 hl (by decide) rfl (fun ls hl => ?_)
                  obtain ⟨x_79, ex_79⟩ : ∃ y9 : Int32, y9 = (y_51.1 0) + 1 := ⟨_, rfl⟩
                  have hx_79 : rg 1 9 x_79 := by rw [ex_79]; exact rg_add h_62 (rg_c (x := 1) (k := 1) (by decide)) (by decide) (by decide) (by decide) (by decide)
                  have tx_79 : x_79.toInt = (y_51.1 0).toInt + 1 := by rw [ex_79]; exact inc_tk h_62 (by decide) (by decide) (by decide)
                  refine lv_iinc (v := x_79) (lv' := [(5, .int x_79), (4, .int 0), (3, .int (y_7.1 0)), (2, .int r_6), (0, .ref (a 200)), (1, .int p0)]) hx hb dX12_best_107 hl (k := 1) rfl (by rw [ex_79]; rfl) (by decide) rfl (fun ls hl => ?_)
                  refine lv_goto (tgt := 52) hx hb dX12_best_110 (by decide) ?_
                  exact ih_54 (fun k => [x_79, 0].getD k 0, fun k => [].getD k (fun _ => 0), fun k => [].getD k (fun _ => 0), fun k => [].getD k 0) _ _ ls ⟨(m_upk me_55 tx_79 (by decide)), (rg_w (c := 0) (d := 9) hx_79 (by decide) (by decide)), (rg_w (c := 0) (d := 1) (rg_c (x := 0) (k := 0) (by decide)) (by decide) (by decide)), hP, hD, hS, (lv_sub hl [0, 1, 2, 3, 4, 5] rfl)⟩
                · skip
                  have h_80 : rg (-2147483647) 2147483647 r_76 := ⟨Int.le_trans (by decide) (c_nle c_78 (rg_any r_77)), ((rg_any r_76)).2⟩
                  have h_81 : rg (-2147483648) 2147483646 r_77 := ⟨((rg_any r_77)).1, Int.le_trans (c_nleR c_78 (rg_any r_76)) (by decide)⟩
                  refine lv_iconst (v := 1) hx hb dX12_best_100 (by decide) ?_
                  refine lv_goto (tgt := 105) hx hb dX12_best_101 (by decide) ?_
                  refine lv_istore (lv' := [(4, .int 1), (5, .int (y_51.1 0)), (3, .int (y_7.1 0)), (2, .int r_6), (0, .ref (a 200)), (1, .int p0)]) hx hb dX12_best_105 hl (by decide) rfl (fun ls hl => ?_)
                  obtain ⟨x_82, ex_82⟩ : ∃ y9 : Int32, y9 = (y_51.1 0) + 1 := ⟨_, rfl⟩
                  have hx_82 : rg 1 9 x_82 := by rw [ex_82]; exact rg_add h_62 (rg_c (x := 1) (k := 1) (by decide)) (by decide) (by decide) (by decide) (by decide)
                  have tx_82 : x_82.toInt = (y_51.1 0).toInt + 1 := by rw [ex_82]; exact inc_tk h_62 (by decide) (by decide) (by decide)
                  refine lv_iinc (v := x_82) (lv' := [(5, .int x_82), (4, .int 1), (3, .int (y_7.1 0)), (2, .int r_6), (0, .ref (a 200)), (1, .int p0)]) hx hb dX12_best_107 hl (k := 1) rfl (by rw [ex_82]; rfl) (by decide) rfl (fun ls hl => ?_)
                  refine lv_goto (tgt := 52) hx hb dX12_best_110 (by decide) ?_
                  exact ih_54 (fun k => [x_82, 1].getD k 0, fun k => [].getD k (fun _ => 0), fun k => [].getD k (fun _ => 0), fun k => [].getD k 0) _ _ ls ⟨(m_upk me_55 tx_82 (by decide)), (rg_w (c := 0) (d := 9) hx_82 (by decide) (by decide)), (rg_w (c := 0) (d := 1) (rg_c (x := 1) (k := 1) (by decide)) (by decide) (by decide)), hP, hD, hS, (lv_sub hl [0, 1, 2, 3, 4, 5] rfl)⟩
  · skip
    refine lv_bipush (v := (-2)) hx hb dX12_best_8 (by decide) ?_
    have hP9 := hP.sub (ws' := [(a 200, .inr (12, [.int v200_0, .ref (a 201), .ref (a 202), .ref (a 203), .ref (a 204), .int v200_5, .ref (a 205), .int v200_7, .int v200_8, .int v200_9, .int v200_10, .int v200_11, .int v200_12, .int v200_13, .ref (a 206), .int v200_15, .ref (a 207), .int v200_17, .int v200_18, .int v200_19, .ref (a 208), .int v200_21, .ref (a 209), .int v200_23, .ref (a 210), .ref (a 211), .ref (a 212), .int v200_27, .int v200_28, .int v200_29, .ref (a 213), .ref (a 214), .ref (a 215), .int v200_33, .int v200_34, .int v200_35, .ref (a 216), .ref (a 217), .ref (a 218), .ref (a 219)])), (a 201, .inl (t 0, 841, .inl f201)), (a 207, .inl (t 0, 9, .inl f207))]) [0, 1, 2] rfl
    have hD9 := hD.sub (ws' := [(a 200, .inr (12, [.int v200_0, .ref (a 201), .ref (a 202), .ref (a 203), .ref (a 204), .int v200_5, .ref (a 205), .int v200_7, .int v200_8, .int v200_9, .int v200_10, .int v200_11, .int v200_12, .int v200_13, .ref (a 206), .int v200_15, .ref (a 207), .int v200_17, .int v200_18, .int v200_19, .ref (a 208), .int v200_21, .ref (a 209), .int v200_23, .ref (a 210), .ref (a 211), .ref (a 212), .int v200_27, .int v200_28, .int v200_29, .ref (a 213), .ref (a 214), .ref (a 215), .int v200_33, .int v200_34, .int v200_35, .ref (a 216), .ref (a 217), .ref (a 218), .ref (a 219)])), (a 201, .inl (t 0, 841, .inl f201)), (a 207, .inl (t 0, 9, .inl f207))]) [0, 1, 2] (by decide) rfl
    exact W.iret (v := (-2)) hx hb hr (fun t9 ht hW => ⟨⟨(-2), (fun k => [v200_15, v200_17, v200_18].getD k 0, fun k => [f207].getD k (fun _ => 0), fun k => [].getD k (fun _ => 0), fun _ => 0), rfl, (rg_w (c := (-2)) (d := 8) (rg_c (x := (-2)) (k := (-2)) (by decide)) (by decide) (by decide)), by rw [ht]; exact hP9, hD9⟩, hS.F ht⟩) hS.2.2 dX12_best_10

set_option maxHeartbeats 4000000 in
set_option maxRecDepth 100000 in
theorem s_X12_unlike_ (l : Launch) (D : va_G) (t : Nat → ClassId) (a : Nat → Nat) (v200_0 : Int32) (v200_5 : Int32) (v200_7 : Int32) (v200_8 : Int32) (v200_9 : Int32) (v200_10 : Int32) (v200_11 : Int32) (v200_12 : Int32) (v200_13 : Int32) (v200_15 : Int32) (v200_17 : Int32) (v200_18 : Int32) (v200_19 : Int32) (v200_21 : Int32) (v200_23 : Int32) (v200_27 : Int32) (v200_28 : Int32) (v200_29 : Int32) (v200_33 : Int32) (v200_34 : Int32) (v200_35 : Int32) (f201 : Nat → Int32) (f207 : Nat → Int32) (f208 : Nat → Int32) (f209 : Nat → Int32) (p0 : Int32) (p1 : Int32) (r200_5 : rg 0 1600 v200_5) (r200_7 : rg 0 1600 v200_7) (r200_8 : rg 0 1600 v200_8) (r200_9 : rg 0 1600 v200_9) (r200_23 : rg 0 9 v200_23) (q201 : wR f201) (sz : Nat) : Met l yX12_unlike_ (wd yX12_unlike_ cX12_unlike_ 5 (some .int)) (RM 8 0 0) (PreW D (TY t) [.ref (a 200), .int p0, .int p1] [(a 200, .inr (12, [.int v200_0, .ref (a 201), .ref (a 202), .ref (a 203), .ref (a 204), .int v200_5, .ref (a 205), .int v200_7, .int v200_8, .int v200_9, .int v200_10, .int v200_11, .int v200_12, .int v200_13, .ref (a 206), .int v200_15, .ref (a 207), .int v200_17, .int v200_18, .int v200_19, .ref (a 208), .int v200_21, .ref (a 209), .int v200_23, .ref (a 210), .ref (a 211), .ref (a 212), .int v200_27, .int v200_28, .int v200_29, .ref (a 213), .ref (a 214), .ref (a 215), .int v200_33, .int v200_34, .int v200_35, .ref (a 216), .ref (a 217), .ref (a 218), .ref (a 219)])), (a 201, .inl (t 0, 841, .inl f201)), (a 207, .inl (t 0, 9, .inl f207)), (a 208, .inl (t 0, 9, .inl f208)), (a 209, .inl (t 0, 9, .inl f209))] sz) (va_Qi (fun (_ : Int32) (u : US) => rg 0 9 (u.1 4)) (fun (u : US) t9 => va_P D classes ((fun u : US => [(a 200, .inr (12, [.int v200_0, .ref (a 201), .ref (a 202), .ref (a 203), .ref (a 204), .int v200_5, .ref (a 205), .int v200_7, .int v200_8, .int v200_9, .int v200_10, .int v200_11, .int v200_12, .int v200_13, .ref (a 206), .int (u.1 0), .ref (a 207), .int (u.1 1), .int (u.1 2), .int v200_19, .ref (a 208), .int (u.1 3), .ref (a 209), .int (u.1 4), .ref (a 210), .ref (a 211), .ref (a 212), .int v200_27, .int v200_28, .int v200_29, .ref (a 213), .ref (a 214), .ref (a 215), .int v200_33, .int v200_34, .int v200_35, .ref (a 216), .ref (a 217), .ref (a 218), .ref (a 219)])), (a 201, .inl (t 0, 841, .inl f201)), (a 207, .inl (t 0, 9, .inl (u.2.1 0))), (a 208, .inl (t 0, 9, .inl (u.2.1 1))), (a 209, .inl (t 0, 9, .inl (u.2.1 2)))]) u) t9.heap ∧ va_D (va_A [(a 200, .inr (12, [.int v200_0, .ref (a 201), .ref (a 202), .ref (a 203), .ref (a 204), .int v200_5, .ref (a 205), .int v200_7, .int v200_8, .int v200_9, .int v200_10, .int v200_11, .int v200_12, .int v200_13, .ref (a 206), .int v200_15, .ref (a 207), .int v200_17, .int v200_18, .int v200_19, .ref (a 208), .int v200_21, .ref (a 209), .int v200_23, .ref (a 210), .ref (a 211), .ref (a 212), .int v200_27, .int v200_28, .int v200_29, .ref (a 213), .ref (a 214), .ref (a 215), .int v200_33, .int v200_34, .int v200_35, .ref (a 216), .ref (a 217), .ref (a 218), .ref (a 219)])), (a 201, .inl (t 0, 841, .inl f201)), (a 207, .inl (t 0, 9, .inl f207)), (a 208, .inl (t 0, 9, .inl f208)), (a 209, .inl (t 0, 9, .inl f209))] sz) ((fun u : US => [(a 200, .inr (12, [.int v200_0, .ref (a 201), .ref (a 202), .ref (a 203), .ref (a 204), .int v200_5, .ref (a 205), .int v200_7, .int v200_8, .int v200_9, .int v200_10, .int v200_11, .int v200_12, .int v200_13, .ref (a 206), .int (u.1 0), .ref (a 207), .int (u.1 1), .int (u.1 2), .int v200_19, .ref (a 208), .int (u.1 3), .ref (a 209), .int (u.1 4), .ref (a 210), .ref (a 211), .ref (a 212), .int v200_27, .int v200_28, .int v200_29, .ref (a 213), .ref (a 214), .ref (a 215), .int v200_33, .int v200_34, .int v200_35, .ref (a 216), .ref (a 217), .ref (a 218), .ref (a 219)])), (a 201, .inl (t 0, 841, .inl f201)), (a 207, .inl (t 0, 9, .inl (u.2.1 0))), (a 208, .inl (t 0, 9, .inl (u.2.1 1))), (a 209, .inl (t 0, 9, .inl (u.2.1 2)))]) u)) (va_A [(a 200, .inr (12, [.int v200_0, .ref (a 201), .ref (a 202), .ref (a 203), .ref (a 204), .int v200_5, .ref (a 205), .int v200_7, .int v200_8, .int v200_9, .int v200_10, .int v200_11, .int v200_12, .int v200_13, .ref (a 206), .int v200_15, .ref (a 207), .int v200_17, .int v200_18, .int v200_19, .ref (a 208), .int v200_21, .ref (a 209), .int v200_23, .ref (a 210), .ref (a 211), .ref (a 212), .int v200_27, .int v200_28, .int v200_29, .ref (a 213), .ref (a 214), .ref (a 215), .int v200_33, .int v200_34, .int v200_35, .ref (a 216), .ref (a 217), .ref (a 218), .ref (a 219)])), (a 201, .inl (t 0, 841, .inl f201)), (a 207, .inl (t 0, 9, .inl f207)), (a 208, .inl (t 0, 9, .inl f208)), (a 209, .inl (t 0, 9, .inl f209))] sz)) 0 0 (va_A [(a 200, .inr (12, [.int v200_0, .ref (a 201), .ref (a 202), .ref (a 203), .ref (a 204), .int v200_5, .ref (a 205), .int v200_7, .int v200_8, .int v200_9, .int v200_10, .int v200_11, .int v200_12, .int v200_13, .ref (a 206), .int v200_15, .ref (a 207), .int v200_17, .int v200_18, .int v200_19, .ref (a 208), .int v200_21, .ref (a 209), .int v200_23, .ref (a 210), .ref (a 211), .ref (a 212), .int v200_27, .int v200_28, .int v200_29, .ref (a 213), .ref (a 214), .ref (a 215), .int v200_33, .int v200_34, .int v200_35, .ref (a 216), .ref (a 217), .ref (a 218), .ref (a 219)])), (a 201, .inl (t 0, 841, .inl f201)), (a 207, .inl (t 0, 9, .inl f207)), (a 208, .inl (t 0, 9, .inl f208)), (a 209, .inl (t 0, 9, .inl f209))] sz) := by
  refine Met.ofW (cc := cX12_unlike_) (maxL := 5) (ret := (some .int)) (by decide) rfl ?_
  intro p e s m args below meth c s₁ B hml hv
  obtain ⟨rfl, hsz, hP, hK, hD0, hN⟩ := hv
  have hx := B.exec
  have hb := B.bytes
  have hr := B.returns
  have hts : ∀ w ∈ TB, w.before _ s = true := fun w h => atoms_spec (ws := wd yX12_unlike_ cX12_unlike_ 5 (some .int)) B.pre w (List.mem_cons_of_mem _ h)
  have hown : s.vm.findClass RX12 = some m.cls := findClass_of_methodNamed B.named
  have hlocks := B.notSynchronized
  have hF : CallFix p m c cX12_unlike_ 5 s _ TB RX12 := ⟨hx, hb, hml, hown, hts⟩
  have hl := lv_entry ([.ref (a 200), .int p0, .int p1]) (n := 5) (Nat.le_of_ble_eq_true rfl)
  rw [lg_entry_eq]
  generalize (lg_sl ([.ref (a 200), .int p0, .int p1]) ++ List.replicate (5 - (lg_sl ([.ref (a 200), .int p0, .int p1])).length) Slot.unset).toArray = ls at hl ⊢
  have hl : lv_has ls 5 [(0, .ref (a 200)), (1, .int p0), (2, .int p1)] := hl
  subst hsz
  have hD := hD0.self (sz := s.heap.size)
  generalize hAe : va_A [(a 200, .inr (12, [.int v200_0, .ref (a 201), .ref (a 202), .ref (a 203), .ref (a 204), .int v200_5, .ref (a 205), .int v200_7, .int v200_8, .int v200_9, .int v200_10, .int v200_11, .int v200_12, .int v200_13, .ref (a 206), .int v200_15, .ref (a 207), .int v200_17, .int v200_18, .int v200_19, .ref (a 208), .int v200_21, .ref (a 209), .int v200_23, .ref (a 210), .ref (a 211), .ref (a 212), .int v200_27, .int v200_28, .int v200_29, .ref (a 213), .ref (a 214), .ref (a 215), .int v200_33, .int v200_34, .int v200_35, .ref (a 216), .ref (a 217), .ref (a 218), .ref (a 219)])), (a 201, .inl (t 0, 841, .inl f201)), (a 207, .inl (t 0, 9, .inl f207)), (a 208, .inl (t 0, 9, .inl f208)), (a 209, .inl (t 0, 9, .inl f209))] s.heap.size = A at hD ⊢
  have hA : ∀ q : Nat, s.heap.size ≤ q → A q := fun q h => by rw [← hAe]; exact Or.inr h
  have hS : va_S A s.heap s.heap [] := va_S.rf
  have hP : va_P D classes [(a 200, .inr (12, [.int v200_0, .ref (a 201), .ref (a 202), .ref (a 203), .ref (a 204), .int v200_5, .ref (a 205), .int v200_7, .int v200_8, .int v200_9, .int v200_10, .int v200_11, .int v200_12, .int v200_13, .ref (a 206), .int v200_15, .ref (a 207), .int v200_17, .int v200_18, .int v200_19, .ref (a 208), .int v200_21, .ref (a 209), .int v200_23, .ref (a 210), .ref (a 211), .ref (a 212), .int v200_27, .int v200_28, .int v200_29, .ref (a 213), .ref (a 214), .ref (a 215), .int v200_33, .int v200_34, .int v200_35, .ref (a 216), .ref (a 217), .ref (a 218), .ref (a 219)])), (a 201, .inl (t 0, 841, .inl f201)), (a 207, .inl (t 0, 9, .inl f207)), (a 208, .inl (t 0, 9, .inl f208)), (a 209, .inl (t 0, 9, .inl f209))] s.heap := hP
  refine lv_aload_n hx hb dX12_unlike__0 rfl (lv_at hl 0 rfl) ?_
  refine y_pV hF (s_X12_isChamber l D t a v200_0 v200_5 v200_7 v200_8 v200_9 v200_10 v200_11 v200_12 v200_13 v200_15 v200_17 v200_18 v200_19 v200_21 v200_23 v200_27 v200_28 v200_29 v200_33 v200_34 v200_35 f201 r200_5 r200_7 r200_8 r200_9 r200_23 q201) m_1766 m_1768 m_s81 m_13 m_1769 hd_X12_isChamber ⟨Nat.le_of_ble_eq_true rfl, Nat.le_of_ble_eq_true rfl⟩ hK hN hP hS [0, 1] rfl 0 (ci := 12) rfl rfl rfl hl.1 rfl (Nat.le_of_ble_eq_true rfl) dX12_unlike__1 ⟨Nat.zero_le _, Nat.zero_le _⟩ (fun r_1 H locs hr_1 hP hS => ?_)
  refine lv_if_eq (tgt := 21) hx hb dX12_unlike__4 (by decide) (fun c_2 => ?_) (fun c_2 => ?_)
  · skip
    have h_3 : rg 0 0 r_1 := rg_eq c_2 (rg_c (x := 0) (k := 0) (by decide))
    refine lv_bipush (v := (-2)) hx hb dX12_unlike__21 (by decide) ?_
    have hP9 := hP.sub (ws' := [(a 200, .inr (12, [.int v200_0, .ref (a 201), .ref (a 202), .ref (a 203), .ref (a 204), .int v200_5, .ref (a 205), .int v200_7, .int v200_8, .int v200_9, .int v200_10, .int v200_11, .int v200_12, .int v200_13, .ref (a 206), .int v200_15, .ref (a 207), .int v200_17, .int v200_18, .int v200_19, .ref (a 208), .int v200_21, .ref (a 209), .int v200_23, .ref (a 210), .ref (a 211), .ref (a 212), .int v200_27, .int v200_28, .int v200_29, .ref (a 213), .ref (a 214), .ref (a 215), .int v200_33, .int v200_34, .int v200_35, .ref (a 216), .ref (a 217), .ref (a 218), .ref (a 219)])), (a 201, .inl (t 0, 841, .inl f201)), (a 207, .inl (t 0, 9, .inl f207)), (a 208, .inl (t 0, 9, .inl f208)), (a 209, .inl (t 0, 9, .inl f209))]) [0, 1, 2, 3, 4] rfl
    have hD9 := hD.sub (ws' := [(a 200, .inr (12, [.int v200_0, .ref (a 201), .ref (a 202), .ref (a 203), .ref (a 204), .int v200_5, .ref (a 205), .int v200_7, .int v200_8, .int v200_9, .int v200_10, .int v200_11, .int v200_12, .int v200_13, .ref (a 206), .int v200_15, .ref (a 207), .int v200_17, .int v200_18, .int v200_19, .ref (a 208), .int v200_21, .ref (a 209), .int v200_23, .ref (a 210), .ref (a 211), .ref (a 212), .int v200_27, .int v200_28, .int v200_29, .ref (a 213), .ref (a 214), .ref (a 215), .int v200_33, .int v200_34, .int v200_35, .ref (a 216), .ref (a 217), .ref (a 218), .ref (a 219)])), (a 201, .inl (t 0, 841, .inl f201)), (a 207, .inl (t 0, 9, .inl f207)), (a 208, .inl (t 0, 9, .inl f208)), (a 209, .inl (t 0, 9, .inl f209))]) [0, 1, 2, 3, 4] (by decide) rfl
    exact W.iret (v := (-2)) hx hb hr (fun t9 ht hW => ⟨⟨(-2), (fun k => [v200_15, v200_17, v200_18, v200_21, v200_23].getD k 0, fun k => [f207, f208, f209].getD k (fun _ => 0), fun k => [].getD k (fun _ => 0), fun _ => 0), rfl, r200_23, by rw [ht]; exact hP9, hD9⟩, hS.F ht⟩) hS.2.2 dX12_unlike__23
  · skip
    have h_4 : rg 1 1 r_1 := rg_w (rg_neL hr_1 c_2 (by decide)) (by decide) (by decide)
    refine lv_iload_n hx hb dX12_unlike__7 rfl (lv_at hl 1 rfl) ?_
    refine y_pS hF (s_X12_isLaw l D t a p0) m_1711 m_1712 m_13 m_1713 hd_X12_isLaw ⟨Nat.le_of_ble_eq_true rfl, Nat.le_of_ble_eq_true rfl⟩ hK hN hP hS [] rfl hl.1 rfl (Nat.le_of_ble_eq_true rfl) dX12_unlike__8 ⟨Nat.zero_le _, Nat.zero_le _⟩ (fun r_5 H locs hr_5 hP hS => ?_)
    refine lv_if_eq (tgt := 21) hx hb dX12_unlike__11 (by decide) (fun c_6 => ?_) (fun c_6 => ?_)
    · skip
      refine lv_bipush (v := (-2)) hx hb dX12_unlike__21 (by decide) ?_
      have hP9 := hP.sub (ws' := [(a 200, .inr (12, [.int v200_0, .ref (a 201), .ref (a 202), .ref (a 203), .ref (a 204), .int v200_5, .ref (a 205), .int v200_7, .int v200_8, .int v200_9, .int v200_10, .int v200_11, .int v200_12, .int v200_13, .ref (a 206), .int v200_15, .ref (a 207), .int v200_17, .int v200_18, .int v200_19, .ref (a 208), .int v200_21, .ref (a 209), .int v200_23, .ref (a 210), .ref (a 211), .ref (a 212), .int v200_27, .int v200_28, .int v200_29, .ref (a 213), .ref (a 214), .ref (a 215), .int v200_33, .int v200_34, .int v200_35, .ref (a 216), .ref (a 217), .ref (a 218), .ref (a 219)])), (a 201, .inl (t 0, 841, .inl f201)), (a 207, .inl (t 0, 9, .inl f207)), (a 208, .inl (t 0, 9, .inl f208)), (a 209, .inl (t 0, 9, .inl f209))]) [0, 1, 2, 3, 4] rfl
      have hD9 := hD.sub (ws' := [(a 200, .inr (12, [.int v200_0, .ref (a 201), .ref (a 202), .ref (a 203), .ref (a 204), .int v200_5, .ref (a 205), .int v200_7, .int v200_8, .int v200_9, .int v200_10, .int v200_11, .int v200_12, .int v200_13, .ref (a 206), .int v200_15, .ref (a 207), .int v200_17, .int v200_18, .int v200_19, .ref (a 208), .int v200_21, .ref (a 209), .int v200_23, .ref (a 210), .ref (a 211), .ref (a 212), .int v200_27, .int v200_28, .int v200_29, .ref (a 213), .ref (a 214), .ref (a 215), .int v200_33, .int v200_34, .int v200_35, .ref (a 216), .ref (a 217), .ref (a 218), .ref (a 219)])), (a 201, .inl (t 0, 841, .inl f201)), (a 207, .inl (t 0, 9, .inl f207)), (a 208, .inl (t 0, 9, .inl f208)), (a 209, .inl (t 0, 9, .inl f209))]) [0, 1, 2, 3, 4] (by decide) rfl
      exact W.iret (v := (-2)) hx hb hr (fun t9 ht hW => ⟨⟨(-2), (fun k => [v200_15, v200_17, v200_18, v200_21, v200_23].getD k 0, fun k => [f207, f208, f209].getD k (fun _ => 0), fun k => [].getD k (fun _ => 0), fun _ => 0), rfl, r200_23, by rw [ht]; exact hP9, hD9⟩, hS.F ht⟩) hS.2.2 dX12_unlike__23
    · skip
      have o_7 := Or.resolve_left hr_5.2 c_6
      refine lv_iload_n hx hb dX12_unlike__14 rfl (lv_at hl 2 rfl) ?_
      refine y_pS hF (s_X12_isLaw l D t a p1) m_1711 m_1712 m_13 m_1713 hd_X12_isLaw ⟨Nat.le_of_ble_eq_true rfl, Nat.le_of_ble_eq_true rfl⟩ hK hN hP hS [] rfl hl.1 rfl (Nat.le_of_ble_eq_true rfl) dX12_unlike__15 ⟨Nat.zero_le _, Nat.zero_le _⟩ (fun r_8 H locs hr_8 hP hS => ?_)
      refine lv_if_ne (tgt := 24) hx hb dX12_unlike__18 (by decide) (fun c_9 => ?_) (fun c_9 => ?_)
      · skip
        have o_10 := Or.resolve_left hr_8.2 c_9
        refine lv_aload_n hx hb dX12_unlike__24 rfl (lv_at hl 0 rfl) ?_
        refine y_wV (wr := [(a 208, .inl (t 0, 9, .inl f208)), (a 209, .inl (t 0, 9, .inl f209))]) hF (s_X12_asItIs l D t a v200_0 v200_5 v200_7 v200_8 v200_9 v200_10 v200_11 v200_12 v200_13 v200_15 v200_17 v200_18 v200_19 v200_21 v200_23 v200_27 v200_28 v200_29 v200_33 v200_34 v200_35 f201 f207 r200_5 r200_7 r200_8 r200_9 r200_23 q201 H.size) m_1640 m_1642 m_s62 m_13 m_1643 hd_X12_asItIs ⟨Nat.le_of_ble_eq_true rfl, Nat.le_of_ble_eq_true rfl⟩ hK hN hP hD hS hA 0 (ci := 12) rfl rfl rfl [0, 1, 2] [3, 4] rfl rfl (by decide) (by decide) (by decide) hl.1 rfl (Nat.le_of_ble_eq_true rfl) dX12_unlike__25 ⟨Nat.zero_le _, Nat.zero_le _⟩ (fun u_11 H locs hu_11 hP hD hS => ?_)
        have hP : va_P D classes [(a 208, .inl (t 0, 9, .inl f208)), (a 209, .inl (t 0, 9, .inl f209)), (a 200, .inr (12, [.int v200_0, .ref (a 201), .ref (a 202), .ref (a 203), .ref (a 204), .int v200_5, .ref (a 205), .int v200_7, .int v200_8, .int v200_9, .int v200_10, .int v200_11, .int v200_12, .int v200_13, .ref (a 206), .int (u_11.1 0), .ref (a 207), .int (u_11.1 1), .int (u_11.1 2), .int v200_19, .ref (a 208), .int v200_21, .ref (a 209), .int v200_23, .ref (a 210), .ref (a 211), .ref (a 212), .int v200_27, .int v200_28, .int v200_29, .ref (a 213), .ref (a 214), .ref (a 215), .int v200_33, .int v200_34, .int v200_35, .ref (a 216), .ref (a 217), .ref (a 218), .ref (a 219)])), (a 201, .inl (t 0, 841, .inl f201)), (a 207, .inl (t 0, 9, .inl (u_11.2.1 0)))] H := hP
        have hD : va_D A [(a 208, .inl (t 0, 9, .inl f208)), (a 209, .inl (t 0, 9, .inl f209)), (a 200, .inr (12, [.int v200_0, .ref (a 201), .ref (a 202), .ref (a 203), .ref (a 204), .int v200_5, .ref (a 205), .int v200_7, .int v200_8, .int v200_9, .int v200_10, .int v200_11, .int v200_12, .int v200_13, .ref (a 206), .int (u_11.1 0), .ref (a 207), .int (u_11.1 1), .int (u_11.1 2), .int v200_19, .ref (a 208), .int v200_21, .ref (a 209), .int v200_23, .ref (a 210), .ref (a 211), .ref (a 212), .int v200_27, .int v200_28, .int v200_29, .ref (a 213), .ref (a 214), .ref (a 215), .int v200_33, .int v200_34, .int v200_35, .ref (a 216), .ref (a 217), .ref (a 218), .ref (a 219)])), (a 201, .inl (t 0, 841, .inl f201)), (a 207, .inl (t 0, 9, .inl (u_11.2.1 0)))] := hD
        refine lv_iconst (v := 0) hx hb dX12_unlike__28 (by decide) ?_
        refine lv_istore_n (lv' := [(3, .int 0), (0, .ref (a 200)), (1, .int p0), (2, .int p1)]) hx hb dX12_unlike__29 rfl hl (by decide) rfl (fun ls hl => ?_)
        refine lv_iconst (v := 0) hx hb dX12_unlike__30 (by decide) ?_
        refine lv_istore (lv' := [(4, .int 0), (3, .int 0), (0, .ref (a 200)), (1, .int p0), (2, .int p1)]) hx hb dX12_unlike__31 hl (by decide) rfl (fun ls hl => ?_)
        refine loopW (α := US) (fun n y_13 H locs ls => 4 < (y_13.1 0).toInt + (n : Int) ∧ rg 0 4 (y_13.1 0) ∧ rg 0 9 (y_13.1 3) ∧ va_P D classes [(a 208, .inl (t 0, 9, .inl (y_13.2.1 0))), (a 209, .inl (t 0, 9, .inl (y_13.2.1 1))), (a 200, .inr (12, [.int v200_0, .ref (a 201), .ref (a 202), .ref (a 203), .ref (a 204), .int v200_5, .ref (a 205), .int v200_7, .int v200_8, .int v200_9, .int v200_10, .int v200_11, .int v200_12, .int v200_13, .ref (a 206), .int (u_11.1 0), .ref (a 207), .int (u_11.1 1), .int (u_11.1 2), .int v200_19, .ref (a 208), .int (y_13.1 2), .ref (a 209), .int (y_13.1 3), .ref (a 210), .ref (a 211), .ref (a 212), .int v200_27, .int v200_28, .int v200_29, .ref (a 213), .ref (a 214), .ref (a 215), .int v200_33, .int v200_34, .int v200_35, .ref (a 216), .ref (a 217), .ref (a 218), .ref (a 219)])), (a 201, .inl (t 0, 841, .inl f201)), (a 207, .inl (t 0, 9, .inl (u_11.2.1 0)))] H ∧ va_D A [(a 208, .inl (t 0, 9, .inl (y_13.2.1 0))), (a 209, .inl (t 0, 9, .inl (y_13.2.1 1))), (a 200, .inr (12, [.int v200_0, .ref (a 201), .ref (a 202), .ref (a 203), .ref (a 204), .int v200_5, .ref (a 205), .int v200_7, .int v200_8, .int v200_9, .int v200_10, .int v200_11, .int v200_12, .int v200_13, .ref (a 206), .int (u_11.1 0), .ref (a 207), .int (u_11.1 1), .int (u_11.1 2), .int v200_19, .ref (a 208), .int (y_13.1 2), .ref (a 209), .int (y_13.1 3), .ref (a 210), .ref (a 211), .ref (a 212), .int v200_27, .int v200_28, .int v200_29, .ref (a 213), .ref (a 214), .ref (a 215), .int v200_33, .int v200_34, .int v200_35, .ref (a 216), .ref (a 217), .ref (a 218), .ref (a 219)])), (a 201, .inl (t 0, 841, .inl f201)), (a 207, .inl (t 0, 9, .inl (u_11.2.1 0)))] ∧ va_S A s.heap H locs ∧ lv_has ls 5 [(4, .int (y_13.1 0)), (3, .int (y_13.1 1)), (0, .ref (a 200)), (1, .int p0), (2, .int p1)]) 33 (fun y_13 => []) (fun _ _ _ _ h9 => m_0 h9.1 h9.2.1) (fun n ih_16 y_13 H locs ls hI => ?_) 5 (fun k => [0, 0, v200_21, v200_23].getD k 0, fun k => [f208, f209].getD k (fun _ => 0), fun k => [].getD k (fun _ => 0), fun k => [].getD k 0) ⟨(m_i (rg_c (x := 0) (k := 0) (by decide)) (by decide)), (rg_w (c := 0) (d := 4) (rg_c (x := 0) (k := 0) (by decide)) (by decide) (by decide)), r200_23, hP, hD, hS, (lv_sub hl [0, 1, 2, 3, 4] rfl)⟩
        obtain ⟨me_17, h_14, h_15, hP, hD, hS, hl⟩ := hI
        refine lv_iload hx hb dX12_unlike__33 (lv_at hl 0 rfl) ?_
        refine lv_aload_n hx hb dX12_unlike__35 rfl (lv_at hl 2 rfl) ?_
        refine va_get (D := D) (ci := 12) (v := .ref (a 201)) (C := RX12) (T := TX12) (N := 40) hx hb hts iX12 hown hK hP 2 rfl rfl 1 (by decide) (hts _ m_1344) (fun _ h9 => h9) rfl dX12_unlike__36 ?_
        refine lv_iconst (v := 4) hx hb dX12_unlike__39 (by decide) ?_
        refine va_iald hx hb hK hP 3 0 rfl rfl (in_rg (rg_c (x := 4) (k := 4) (by decide)) (by decide) (by decide)) dX12_unlike__40 ?_
        refine x_seti (f201 4) rfl ?_
        have h_18 : rg 0 4 (f201 4) := q201 4 (by decide)
        refine lv_icmp_ge (tgt := 75) hx hb dX12_unlike__41 (by decide) (fun c_19 => ?_) (fun c_19 => ?_)
        · skip
          refine lv_iload_n hx hb dX12_unlike__75 rfl (lv_at hl 1 rfl) ?_
          have hP9 := hP.sub (ws' := [(a 200, .inr (12, [.int v200_0, .ref (a 201), .ref (a 202), .ref (a 203), .ref (a 204), .int v200_5, .ref (a 205), .int v200_7, .int v200_8, .int v200_9, .int v200_10, .int v200_11, .int v200_12, .int v200_13, .ref (a 206), .int (u_11.1 0), .ref (a 207), .int (u_11.1 1), .int (u_11.1 2), .int v200_19, .ref (a 208), .int (y_13.1 2), .ref (a 209), .int (y_13.1 3), .ref (a 210), .ref (a 211), .ref (a 212), .int v200_27, .int v200_28, .int v200_29, .ref (a 213), .ref (a 214), .ref (a 215), .int v200_33, .int v200_34, .int v200_35, .ref (a 216), .ref (a 217), .ref (a 218), .ref (a 219)])), (a 201, .inl (t 0, 841, .inl f201)), (a 207, .inl (t 0, 9, .inl (u_11.2.1 0))), (a 208, .inl (t 0, 9, .inl (y_13.2.1 0))), (a 209, .inl (t 0, 9, .inl (y_13.2.1 1)))]) [2, 3, 4, 0, 1] rfl
          have hD9 := hD.sub (ws' := [(a 200, .inr (12, [.int v200_0, .ref (a 201), .ref (a 202), .ref (a 203), .ref (a 204), .int v200_5, .ref (a 205), .int v200_7, .int v200_8, .int v200_9, .int v200_10, .int v200_11, .int v200_12, .int v200_13, .ref (a 206), .int (u_11.1 0), .ref (a 207), .int (u_11.1 1), .int (u_11.1 2), .int v200_19, .ref (a 208), .int (y_13.1 2), .ref (a 209), .int (y_13.1 3), .ref (a 210), .ref (a 211), .ref (a 212), .int v200_27, .int v200_28, .int v200_29, .ref (a 213), .ref (a 214), .ref (a 215), .int v200_33, .int v200_34, .int v200_35, .ref (a 216), .ref (a 217), .ref (a 218), .ref (a 219)])), (a 201, .inl (t 0, 841, .inl f201)), (a 207, .inl (t 0, 9, .inl (u_11.2.1 0))), (a 208, .inl (t 0, 9, .inl (y_13.2.1 0))), (a 209, .inl (t 0, 9, .inl (y_13.2.1 1)))]) [2, 3, 4, 0, 1] (by decide) rfl
          exact W.iret (v := (y_13.1 1)) hx hb hr (fun t9 ht hW => ⟨⟨(y_13.1 1), (fun k => [(u_11.1 0), (u_11.1 1), (u_11.1 2), (y_13.1 2), (y_13.1 3)].getD k 0, fun k => [(u_11.2.1 0), (y_13.2.1 0), (y_13.2.1 1)].getD k (fun _ => 0), fun k => [].getD k (fun _ => 0), fun _ => 0), rfl, h_15, by rw [ht]; exact hP9, hD9⟩, hS.F ht⟩) hS.2.2 dX12_unlike__76
        · skip
          have h_20 : rg 0 3 (y_13.1 0) := ⟨(h_14).1, Int.le_trans (c_nleR c_19 h_18) (by decide)⟩
          have h_21 : rg 1 4 (f201 4) := ⟨Int.le_trans (by decide) (c_nle c_19 h_14), (h_18).2⟩
          refine lv_iload_n hx hb dX12_unlike__44 rfl (lv_at hl 1 rfl) ?_
          refine lv_aload_n hx hb dX12_unlike__45 rfl (lv_at hl 2 rfl) ?_
          refine lv_iload hx hb dX12_unlike__46 (lv_at hl 0 rfl) ?_
          refine lv_iload_n hx hb dX12_unlike__48 rfl (lv_at hl 3 rfl) ?_
          refine y_wVi (wr := []) hF (s_X12_sitter l D t a v200_0 v200_5 v200_7 v200_8 v200_9 v200_10 v200_11 v200_12 v200_13 (u_11.1 0) (u_11.1 1) (u_11.1 2) v200_19 (y_13.1 2) (y_13.1 3) v200_27 v200_28 v200_29 v200_33 v200_34 v200_35 f201 (u_11.2.1 0) (y_13.2.1 0) (y_13.2.1 1) (y_13.1 0) p0 r200_5 r200_7 r200_8 r200_9 h_15 q201 H.size) m_1734 m_1736 m_s78 m_13 m_1737 hd_X12_sitter ⟨Nat.le_of_ble_eq_true rfl, Nat.le_of_ble_eq_true rfl⟩ hK hN hP hD hS hA 0 (ci := 12) rfl rfl rfl [2, 3, 4, 0, 1] [] rfl rfl (by decide) (by decide) (by decide) hl.1 rfl (Nat.le_of_ble_eq_true rfl) dX12_unlike__49 ⟨Nat.zero_le _, Nat.zero_le _⟩ (fun r_23 u_22 H locs hu_22 hP hD hS => ?_)
          obtain ⟨hr_23, h_24⟩ := hu_22
          have hP : va_P D classes [(a 200, .inr (12, [.int v200_0, .ref (a 201), .ref (a 202), .ref (a 203), .ref (a 204), .int v200_5, .ref (a 205), .int v200_7, .int v200_8, .int v200_9, .int v200_10, .int v200_11, .int v200_12, .int v200_13, .ref (a 206), .int (u_11.1 0), .ref (a 207), .int (u_11.1 1), .int (u_11.1 2), .int v200_19, .ref (a 208), .int (u_22.1 0), .ref (a 209), .int (u_22.1 1), .ref (a 210), .ref (a 211), .ref (a 212), .int v200_27, .int v200_28, .int v200_29, .ref (a 213), .ref (a 214), .ref (a 215), .int v200_33, .int v200_34, .int v200_35, .ref (a 216), .ref (a 217), .ref (a 218), .ref (a 219)])), (a 201, .inl (t 0, 841, .inl f201)), (a 207, .inl (t 0, 9, .inl (u_11.2.1 0))), (a 208, .inl (t 0, 9, .inl (u_22.2.1 0))), (a 209, .inl (t 0, 9, .inl (u_22.2.1 1)))] H := hP
          have hD : va_D A [(a 200, .inr (12, [.int v200_0, .ref (a 201), .ref (a 202), .ref (a 203), .ref (a 204), .int v200_5, .ref (a 205), .int v200_7, .int v200_8, .int v200_9, .int v200_10, .int v200_11, .int v200_12, .int v200_13, .ref (a 206), .int (u_11.1 0), .ref (a 207), .int (u_11.1 1), .int (u_11.1 2), .int v200_19, .ref (a 208), .int (u_22.1 0), .ref (a 209), .int (u_22.1 1), .ref (a 210), .ref (a 211), .ref (a 212), .int v200_27, .int v200_28, .int v200_29, .ref (a 213), .ref (a 214), .ref (a 215), .int v200_33, .int v200_34, .int v200_35, .ref (a 216), .ref (a 217), .ref (a 218), .ref (a 219)])), (a 201, .inl (t 0, 841, .inl f201)), (a 207, .inl (t 0, 9, .inl (u_11.2.1 0))), (a 208, .inl (t 0, 9, .inl (u_22.2.1 0))), (a 209, .inl (t 0, 9, .inl (u_22.2.1 1)))] := hD
          refine lv_aload_n hx hb dX12_unlike__52 rfl (lv_at hl 2 rfl) ?_
          refine lv_iload hx hb dX12_unlike__53 (lv_at hl 0 rfl) ?_
          refine lv_iload_n hx hb dX12_unlike__55 rfl (lv_at hl 4 rfl) ?_
          refine y_wVi (wr := []) hF (s_X12_sitter l D t a v200_0 v200_5 v200_7 v200_8 v200_9 v200_10 v200_11 v200_12 v200_13 (u_11.1 0) (u_11.1 1) (u_11.1 2) v200_19 (u_22.1 0) (u_22.1 1) v200_27 v200_28 v200_29 v200_33 v200_34 v200_35 f201 (u_11.2.1 0) (u_22.2.1 0) (u_22.2.1 1) (y_13.1 0) p1 r200_5 r200_7 r200_8 r200_9 h_24 q201 H.size) m_1734 m_1736 m_s78 m_13 m_1737 hd_X12_sitter ⟨Nat.le_of_ble_eq_true rfl, Nat.le_of_ble_eq_true rfl⟩ hK hN hP hD hS hA 0 (ci := 12) rfl rfl rfl [0, 1, 2, 3, 4] [] rfl rfl (by decide) (by decide) (by decide) hl.1 rfl (Nat.le_of_ble_eq_true rfl) dX12_unlike__56 ⟨Nat.zero_le _, Nat.zero_le _⟩ (fun r_26 u_25 H locs hu_25 hP hD hS => ?_)
          obtain ⟨hr_26, h_27⟩ := hu_25
          have hP : va_P D classes [(a 200, .inr (12, [.int v200_0, .ref (a 201), .ref (a 202), .ref (a 203), .ref (a 204), .int v200_5, .ref (a 205), .int v200_7, .int v200_8, .int v200_9, .int v200_10, .int v200_11, .int v200_12, .int v200_13, .ref (a 206), .int (u_11.1 0), .ref (a 207), .int (u_11.1 1), .int (u_11.1 2), .int v200_19, .ref (a 208), .int (u_25.1 0), .ref (a 209), .int (u_25.1 1), .ref (a 210), .ref (a 211), .ref (a 212), .int v200_27, .int v200_28, .int v200_29, .ref (a 213), .ref (a 214), .ref (a 215), .int v200_33, .int v200_34, .int v200_35, .ref (a 216), .ref (a 217), .ref (a 218), .ref (a 219)])), (a 201, .inl (t 0, 841, .inl f201)), (a 207, .inl (t 0, 9, .inl (u_11.2.1 0))), (a 208, .inl (t 0, 9, .inl (u_25.2.1 0))), (a 209, .inl (t 0, 9, .inl (u_25.2.1 1)))] H := hP
          have hD : va_D A [(a 200, .inr (12, [.int v200_0, .ref (a 201), .ref (a 202), .ref (a 203), .ref (a 204), .int v200_5, .ref (a 205), .int v200_7, .int v200_8, .int v200_9, .int v200_10, .int v200_11, .int v200_12, .int v200_13, .ref (a 206), .int (u_11.1 0), .ref (a 207), .int (u_11.1 1), .int (u_11.1 2), .int v200_19, .ref (a 208), .int (u_25.1 0), .ref (a 209), .int (u_25.1 1), .ref (a 210), .ref (a 211), .ref (a 212), .int v200_27, .int v200_28, .int v200_29, .ref (a 213), .ref (a 214), .ref (a 215), .int v200_33, .int v200_34, .int v200_35, .ref (a 216), .ref (a 217), .ref (a 218), .ref (a 219)])), (a 201, .inl (t 0, 841, .inl f201)), (a 207, .inl (t 0, 9, .inl (u_11.2.1 0))), (a 208, .inl (t 0, 9, .inl (u_25.2.1 0))), (a 209, .inl (t 0, 9, .inl (u_25.2.1 1)))] := hD
          refine lv_icmp_ne (tgt := 66) hx hb dX12_unlike__59 (by decide) (fun c_28 => ?_) (fun c_28 => ?_)
          · skip
            refine lv_iconst (v := 1) hx hb dX12_unlike__66 (by decide) ?_
            refine lv_iadd hx hb dX12_unlike__67 ?_
            refine lv_topi (fun x_29 ex_29 => ?_)
            refine lv_istore_n (lv' := [(3, .int x_29), (4, .int (y_13.1 0)), (0, .ref (a 200)), (1, .int p0), (2, .int p1)]) hx hb dX12_unlike__68 rfl hl (by decide) rfl (fun ls hl => ?_)
            obtain ⟨x_30, ex_30⟩ : ∃ y9 : Int32, y9 = (y_13.1 0) + 1 := ⟨_, rfl⟩
            have hx_30 : rg 1 4 x_30 := by rw [ex_30]; exact rg_add h_20 (rg_c (x := 1) (k := 1) (by decide)) (by decide) (by decide) (by decide) (by decide)
            have tx_30 : x_30.toInt = (y_13.1 0).toInt + 1 := by rw [ex_30]; exact inc_tk h_20 (by decide) (by decide) (by decide)
            refine lv_iinc (v := x_30) (lv' := [(4, .int x_30), (3, .int x_29), (0, .ref (a 200)), (1, .int p0), (2, .int p1)]) hx hb dX12_unlike__69 hl (k := 1) rfl (by rw [ex_30]; rfl) (by decide) rfl (fun ls hl => ?_)
            refine lv_goto (tgt := 33) hx hb dX12_unlike__72 (by decide) ?_
            exact ih_16 (fun k => [x_30, x_29, (u_25.1 0), (u_25.1 1)].getD k 0, fun k => [(u_25.2.1 0), (u_25.2.1 1)].getD k (fun _ => 0), fun k => [].getD k (fun _ => 0), fun k => [].getD k 0) _ _ ls ⟨(m_upk me_17 tx_30 (by decide)), (rg_w (c := 0) (d := 4) hx_30 (by decide) (by decide)), h_27, (hP.sub [3, 4, 0, 1, 2] rfl), (hD.sub [3, 4, 0, 1, 2] (by decide) rfl), hS, (lv_sub hl [0, 1, 2, 3, 4] rfl)⟩
          · skip
            refine lv_iconst (v := 0) hx hb dX12_unlike__62 (by decide) ?_
            refine lv_goto (tgt := 67) hx hb dX12_unlike__63 (by decide) ?_
            refine lv_iadd hx hb dX12_unlike__67 ?_
            refine lv_topi (fun x_31 ex_31 => ?_)
            refine lv_istore_n (lv' := [(3, .int x_31), (4, .int (y_13.1 0)), (0, .ref (a 200)), (1, .int p0), (2, .int p1)]) hx hb dX12_unlike__68 rfl hl (by decide) rfl (fun ls hl => ?_)
            obtain ⟨x_32, ex_32⟩ : ∃ y9 : Int32, y9 = (y_13.1 0) + 1 := ⟨_, rfl⟩
            have hx_32 : rg 1 4 x_32 := by rw [ex_32]; exact rg_add h_20 (rg_c (x := 1) (k := 1) (by decide)) (by decide) (by decide) (by decide) (by decide)
            have tx_32 : x_32.toInt = (y_13.1 0).toInt + 1 := by rw [ex_32]; exact inc_tk h_20 (by decide) (by decide) (by decide)
            refine lv_iinc (v := x_32) (lv' := [(4, .int x_32), (3, .int x_31), (0, .ref (a 200)), (1, .int p0), (2, .int p1)]) hx hb dX12_unlike__69 hl (k := 1) rfl (by rw [ex_32]; rfl) (by decide) rfl (fun ls hl => ?_)
            refine lv_goto (tgt := 33) hx hb dX12_unlike__72 (by decide) ?_
            exact ih_16 (fun k => [x_32, x_31, (u_25.1 0), (u_25.1 1)].getD k 0, fun k => [(u_25.2.1 0), (u_25.2.1 1)].getD k (fun _ => 0), fun k => [].getD k (fun _ => 0), fun k => [].getD k 0) _ _ ls ⟨(m_upk me_17 tx_32 (by decide)), (rg_w (c := 0) (d := 4) hx_32 (by decide) (by decide)), h_27, (hP.sub [3, 4, 0, 1, 2] rfl), (hD.sub [3, 4, 0, 1, 2] (by decide) rfl), hS, (lv_sub hl [0, 1, 2, 3, 4] rfl)⟩
      · skip
        refine lv_bipush (v := (-2)) hx hb dX12_unlike__21 (by decide) ?_
        have hP9 := hP.sub (ws' := [(a 200, .inr (12, [.int v200_0, .ref (a 201), .ref (a 202), .ref (a 203), .ref (a 204), .int v200_5, .ref (a 205), .int v200_7, .int v200_8, .int v200_9, .int v200_10, .int v200_11, .int v200_12, .int v200_13, .ref (a 206), .int v200_15, .ref (a 207), .int v200_17, .int v200_18, .int v200_19, .ref (a 208), .int v200_21, .ref (a 209), .int v200_23, .ref (a 210), .ref (a 211), .ref (a 212), .int v200_27, .int v200_28, .int v200_29, .ref (a 213), .ref (a 214), .ref (a 215), .int v200_33, .int v200_34, .int v200_35, .ref (a 216), .ref (a 217), .ref (a 218), .ref (a 219)])), (a 201, .inl (t 0, 841, .inl f201)), (a 207, .inl (t 0, 9, .inl f207)), (a 208, .inl (t 0, 9, .inl f208)), (a 209, .inl (t 0, 9, .inl f209))]) [0, 1, 2, 3, 4] rfl
        have hD9 := hD.sub (ws' := [(a 200, .inr (12, [.int v200_0, .ref (a 201), .ref (a 202), .ref (a 203), .ref (a 204), .int v200_5, .ref (a 205), .int v200_7, .int v200_8, .int v200_9, .int v200_10, .int v200_11, .int v200_12, .int v200_13, .ref (a 206), .int v200_15, .ref (a 207), .int v200_17, .int v200_18, .int v200_19, .ref (a 208), .int v200_21, .ref (a 209), .int v200_23, .ref (a 210), .ref (a 211), .ref (a 212), .int v200_27, .int v200_28, .int v200_29, .ref (a 213), .ref (a 214), .ref (a 215), .int v200_33, .int v200_34, .int v200_35, .ref (a 216), .ref (a 217), .ref (a 218), .ref (a 219)])), (a 201, .inl (t 0, 841, .inl f201)), (a 207, .inl (t 0, 9, .inl f207)), (a 208, .inl (t 0, 9, .inl f208)), (a 209, .inl (t 0, 9, .inl f209))]) [0, 1, 2, 3, 4] (by decide) rfl
        exact W.iret (v := (-2)) hx hb hr (fun t9 ht hW => ⟨⟨(-2), (fun k => [v200_15, v200_17, v200_18, v200_21, v200_23].getD k 0, fun k => [f207, f208, f209].getD k (fun _ => 0), fun k => [].getD k (fun _ => 0), fun _ => 0), rfl, r200_23, by rw [ht]; exact hP9, hD9⟩, hS.F ht⟩) hS.2.2 dX12_unlike__23

set_option maxHeartbeats 4000000 in
set_option maxRecDepth 100000 in
theorem s_X12_synonyms (l : Launch) (D : va_G) (t : Nat → ClassId) (a : Nat → Nat) (v200_0 : Int32) (v200_5 : Int32) (v200_7 : Int32) (v200_8 : Int32) (v200_9 : Int32) (v200_10 : Int32) (v200_11 : Int32) (v200_12 : Int32) (v200_13 : Int32) (v200_15 : Int32) (v200_17 : Int32) (v200_18 : Int32) (v200_19 : Int32) (v200_21 : Int32) (v200_23 : Int32) (v200_27 : Int32) (v200_28 : Int32) (v200_29 : Int32) (v200_33 : Int32) (v200_34 : Int32) (v200_35 : Int32) (f201 : Nat → Int32) (p0 : Int32) (r200_5 : rg 0 1600 v200_5) (r200_7 : rg 0 1600 v200_7) (r200_8 : rg 0 1600 v200_8) (r200_9 : rg 0 1600 v200_9) (r200_23 : rg 0 9 v200_23) (q201 : wR f201) : Met l yX12_synonyms (wd yX12_synonyms cX12_synonyms 4 (some .int)) (RM 2 0 0) (PreP D (TY t) [.ref (a 200), .int p0] [(a 200, .inr (12, [.int v200_0, .ref (a 201), .ref (a 202), .ref (a 203), .ref (a 204), .int v200_5, .ref (a 205), .int v200_7, .int v200_8, .int v200_9, .int v200_10, .int v200_11, .int v200_12, .int v200_13, .ref (a 206), .int v200_15, .ref (a 207), .int v200_17, .int v200_18, .int v200_19, .ref (a 208), .int v200_21, .ref (a 209), .int v200_23, .ref (a 210), .ref (a 211), .ref (a 212), .int v200_27, .int v200_28, .int v200_29, .ref (a 213), .ref (a 214), .ref (a 215), .int v200_33, .int v200_34, .int v200_35, .ref (a 216), .ref (a 217), .ref (a 218), .ref (a 219)])), (a 201, .inl (t 0, 841, .inl f201))]) (QP (fun r => rg (-2) 511 r)) 0 0 NoF := by
  refine Met.ofW (cc := cX12_synonyms) (maxL := 4) (ret := (some .int)) (by decide) rfl ?_
  intro p e s m args below meth c s₁ B hml hv
  obtain ⟨rfl, hP, hK, hN⟩ := hv
  have hx := B.exec
  have hb := B.bytes
  have hr := B.returns
  have hts : ∀ w ∈ TB, w.before _ s = true := fun w h => atoms_spec (ws := wd yX12_synonyms cX12_synonyms 4 (some .int)) B.pre w (List.mem_cons_of_mem _ h)
  have hown : s.vm.findClass RX12 = some m.cls := findClass_of_methodNamed B.named
  have hlocks := B.notSynchronized
  have hF : CallFix p m c cX12_synonyms 4 s _ TB RX12 := ⟨hx, hb, hml, hown, hts⟩
  have hl := lv_entry ([.ref (a 200), .int p0]) (n := 4) (Nat.le_of_ble_eq_true rfl)
  rw [lg_entry_eq]
  generalize (lg_sl ([.ref (a 200), .int p0]) ++ List.replicate (4 - (lg_sl ([.ref (a 200), .int p0])).length) Slot.unset).toArray = ls at hl ⊢
  have hl : lv_has ls 4 [(0, .ref (a 200)), (1, .int p0)] := hl
  have hS : va_S NoF s.heap s.heap [] := va_S.rf
  have hP : va_P D classes [(a 200, .inr (12, [.int v200_0, .ref (a 201), .ref (a 202), .ref (a 203), .ref (a 204), .int v200_5, .ref (a 205), .int v200_7, .int v200_8, .int v200_9, .int v200_10, .int v200_11, .int v200_12, .int v200_13, .ref (a 206), .int v200_15, .ref (a 207), .int v200_17, .int v200_18, .int v200_19, .ref (a 208), .int v200_21, .ref (a 209), .int v200_23, .ref (a 210), .ref (a 211), .ref (a 212), .int v200_27, .int v200_28, .int v200_29, .ref (a 213), .ref (a 214), .ref (a 215), .int v200_33, .int v200_34, .int v200_35, .ref (a 216), .ref (a 217), .ref (a 218), .ref (a 219)])), (a 201, .inl (t 0, 841, .inl f201))] s.heap := hP
  refine lv_aload_n hx hb dX12_synonyms_0 rfl (lv_at hl 0 rfl) ?_
  refine lv_iload_n hx hb dX12_synonyms_1 rfl (lv_at hl 1 rfl) ?_
  refine lv_i2l hx hb dX12_synonyms_2 rfl ?_
  refine y_pV hF (s_X12_isWord l D t a v200_0 v200_5 v200_7 v200_8 v200_9 v200_10 v200_11 v200_12 v200_13 v200_15 v200_17 v200_18 v200_19 v200_21 v200_23 v200_27 v200_28 v200_29 v200_33 v200_34 v200_35 f201 ((p0).toInt64) r200_5 r200_7 r200_8 r200_9 r200_23 q201) m_1607 m_1609 m_s57 m_13 m_1610 hd_X12_isWord ⟨Nat.le_of_ble_eq_true rfl, Nat.le_of_ble_eq_true rfl⟩ hK hN hP hS [0, 1] rfl 0 (ci := 12) rfl rfl rfl hl.1 rfl (Nat.le_of_ble_eq_true rfl) dX12_synonyms_3 ⟨Nat.zero_le _, Nat.zero_le _⟩ (fun r_1 H locs hr_1 hP hS => ?_)
  refine lv_if_ne (tgt := 12) hx hb dX12_synonyms_6 (by decide) (fun c_2 => ?_) (fun c_2 => ?_)
  · skip
    have o_3 := Or.resolve_left hr_1.2 c_2
    refine lv_iconst (v := 0) hx hb dX12_synonyms_12 (by decide) ?_
    refine lv_istore_n (lv' := [(2, .int 0), (0, .ref (a 200)), (1, .int p0)]) hx hb dX12_synonyms_13 rfl hl (by decide) rfl (fun ls hl => ?_)
    refine lv_iconst (v := 0) hx hb dX12_synonyms_14 (by decide) ?_
    refine lv_istore_n (lv' := [(3, .int 0), (2, .int 0), (0, .ref (a 200)), (1, .int p0)]) hx hb dX12_synonyms_15 rfl hl (by decide) rfl (fun ls hl => ?_)
    refine loopW (α := US) (fun n y_4 H locs ls => 9 < (y_4.1 0).toInt + (n : Int) ∧ rg 0 9 (y_4.1 0) ∧ rg 0 511 (y_4.1 1) ∧ va_P D classes [(a 200, .inr (12, [.int v200_0, .ref (a 201), .ref (a 202), .ref (a 203), .ref (a 204), .int v200_5, .ref (a 205), .int v200_7, .int v200_8, .int v200_9, .int v200_10, .int v200_11, .int v200_12, .int v200_13, .ref (a 206), .int v200_15, .ref (a 207), .int v200_17, .int v200_18, .int v200_19, .ref (a 208), .int v200_21, .ref (a 209), .int v200_23, .ref (a 210), .ref (a 211), .ref (a 212), .int v200_27, .int v200_28, .int v200_29, .ref (a 213), .ref (a 214), .ref (a 215), .int v200_33, .int v200_34, .int v200_35, .ref (a 216), .ref (a 217), .ref (a 218), .ref (a 219)])), (a 201, .inl (t 0, 841, .inl f201))] H ∧ va_S NoF s.heap H locs ∧ lv_has ls 4 [(3, .int (y_4.1 0)), (2, .int (y_4.1 1)), (0, .ref (a 200)), (1, .int p0)]) 16 (fun y_4 => []) (fun _ _ _ _ h9 => m_0 h9.1 h9.2.1) (fun n ih_7 y_4 H locs ls hI => ?_) 10 (fun k => [0, 0].getD k 0, fun k => [].getD k (fun _ => 0), fun k => [].getD k (fun _ => 0), fun k => [].getD k 0) ⟨(m_i (rg_c (x := 0) (k := 0) (by decide)) (by decide)), (rg_w (c := 0) (d := 9) (rg_c (x := 0) (k := 0) (by decide)) (by decide) (by decide)), (rg_w (c := 0) (d := 511) (rg_c (x := 0) (k := 0) (by decide)) (by decide) (by decide)), hP, hS, (lv_sub hl [0, 1, 2, 3] rfl)⟩
    obtain ⟨me_8, h_5, h_6, hP, hS, hl⟩ := hI
    refine lv_iload_n hx hb dX12_synonyms_16 rfl (lv_at hl 0 rfl) ?_
    refine lv_aload_n hx hb dX12_synonyms_17 rfl (lv_at hl 2 rfl) ?_
    refine va_get (D := D) (ci := 12) (v := .ref (a 201)) (C := RX12) (T := TX12) (N := 40) hx hb hts iX12 hown hK hP 0 rfl rfl 1 (by decide) (hts _ m_1344) (fun _ h9 => h9) rfl dX12_synonyms_18 ?_
    refine lv_iconst (v := 5) hx hb dX12_synonyms_21 (by decide) ?_
    refine va_iald hx hb hK hP 1 0 rfl rfl (in_rg (rg_c (x := 5) (k := 5) (by decide)) (by decide) (by decide)) dX12_synonyms_22 ?_
    refine x_seti (f201 5) rfl ?_
    have h_9 : rg 0 9 (f201 5) := q201 5 (by decide)
    refine lv_icmp_ge (tgt := 85) hx hb dX12_synonyms_23 (by decide) (fun c_10 => ?_) (fun c_10 => ?_)
    · skip
      refine lv_iload_n hx hb dX12_synonyms_85 rfl (lv_at hl 1 rfl) ?_
      exact W.iret (v := (y_4.1 1)) hx hb hr (fun t9 ht hW => ⟨⟨(y_4.1 1), (), rfl, (rg_w (c := (-2)) (d := 511) h_6 (by decide) (by decide)), trivial⟩, hS.F ht⟩) hS.2.2 dX12_synonyms_86
    · skip
      have h_11 : rg 0 8 (y_4.1 0) := ⟨(h_5).1, Int.le_trans (c_nleR c_10 h_9) (by decide)⟩
      have h_12 : rg 1 9 (f201 5) := ⟨Int.le_trans (by decide) (c_nle c_10 h_5), (h_9).2⟩
      refine lv_iload_n hx hb dX12_synonyms_26 rfl (lv_at hl 1 rfl) ?_
      refine lv_iload_n hx hb dX12_synonyms_27 rfl (lv_at hl 0 rfl) ?_
      refine lv_iload_n hx hb dX12_synonyms_28 rfl (lv_at hl 3 rfl) ?_
      refine lv_icmp_eq (tgt := 76) hx hb dX12_synonyms_29 (by decide) (fun c_13 => ?_) (fun c_13 => ?_)
      · skip
        refine lv_iconst (v := 0) hx hb dX12_synonyms_76 (by decide) ?_
        refine lv_ior hx hb dX12_synonyms_77 ?_
        refine lv_topi (fun x_14 ex_14 => ?_)
        have hx_14 : rg 0 511 x_14 := by rw [ex_14]; exact rg_or (m := 9) h_6 (rg_w (c := 0) (d := 511) (rg_c (x := 0) (k := 0) (by decide)) (by decide) (by decide)) (by decide) (by decide)
        refine lv_istore_n (lv' := [(2, .int x_14), (3, .int (y_4.1 0)), (0, .ref (a 200)), (1, .int p0)]) hx hb dX12_synonyms_78 rfl hl (by decide) rfl (fun ls hl => ?_)
        obtain ⟨x_15, ex_15⟩ : ∃ y9 : Int32, y9 = (y_4.1 0) + 1 := ⟨_, rfl⟩
        have hx_15 : rg 1 9 x_15 := by rw [ex_15]; exact rg_add h_11 (rg_c (x := 1) (k := 1) (by decide)) (by decide) (by decide) (by decide) (by decide)
        have tx_15 : x_15.toInt = (y_4.1 0).toInt + 1 := by rw [ex_15]; exact inc_tk h_11 (by decide) (by decide) (by decide)
        refine lv_iinc (v := x_15) (lv' := [(3, .int x_15), (2, .int x_14), (0, .ref (a 200)), (1, .int p0)]) hx hb dX12_synonyms_79 hl (k := 1) rfl (by rw [ex_15]; rfl) (by decide) rfl (fun ls hl => ?_)
        refine lv_goto (tgt := 16) hx hb dX12_synonyms_82 (by decide) ?_
        exact ih_7 (fun k => [x_15, x_14].getD k 0, fun k => [].getD k (fun _ => 0), fun k => [].getD k (fun _ => 0), fun k => [].getD k 0) _ _ ls ⟨(m_upk me_8 tx_15 (by decide)), (rg_w (c := 0) (d := 9) hx_15 (by decide) (by decide)), hx_14, hP, hS, (lv_sub hl [0, 1, 2, 3] rfl)⟩
      · skip
        refine lv_aload_n hx hb dX12_synonyms_32 rfl (lv_at hl 2 rfl) ?_
        refine lv_iload_n hx hb dX12_synonyms_33 rfl (lv_at hl 0 rfl) ?_
        refine y_pV hF (s_X12_isDead l D t a v200_0 v200_5 v200_7 v200_8 v200_9 v200_10 v200_11 v200_12 v200_13 v200_15 v200_17 v200_18 v200_19 v200_21 v200_23 v200_27 v200_28 v200_29 v200_33 v200_34 v200_35 f201 (y_4.1 0) r200_5 r200_7 r200_8 r200_9 r200_23 q201) m_1750 m_1752 m_s79 m_13 m_1753 hd_X12_isDead ⟨Nat.le_of_ble_eq_true rfl, Nat.le_of_ble_eq_true rfl⟩ hK hN hP hS [0, 1] rfl 0 (ci := 12) rfl rfl rfl hl.1 rfl (Nat.le_of_ble_eq_true rfl) dX12_synonyms_34 ⟨Nat.zero_le _, Nat.zero_le _⟩ (fun r_16 H locs hr_16 hP hS => ?_)
        refine lv_if_ne (tgt := 76) hx hb dX12_synonyms_37 (by decide) (fun c_17 => ?_) (fun c_17 => ?_)
        · skip
          have h_18 : rg 1 1 r_16 := rg_w (rg_neL hr_16 c_17 (by decide)) (by decide) (by decide)
          refine lv_iconst (v := 0) hx hb dX12_synonyms_76 (by decide) ?_
          refine lv_ior hx hb dX12_synonyms_77 ?_
          refine lv_topi (fun x_19 ex_19 => ?_)
          have hx_19 : rg 0 511 x_19 := by rw [ex_19]; exact rg_or (m := 9) h_6 (rg_w (c := 0) (d := 511) (rg_c (x := 0) (k := 0) (by decide)) (by decide) (by decide)) (by decide) (by decide)
          refine lv_istore_n (lv' := [(2, .int x_19), (3, .int (y_4.1 0)), (0, .ref (a 200)), (1, .int p0)]) hx hb dX12_synonyms_78 rfl hl (by decide) rfl (fun ls hl => ?_)
          obtain ⟨x_20, ex_20⟩ : ∃ y9 : Int32, y9 = (y_4.1 0) + 1 := ⟨_, rfl⟩
          have hx_20 : rg 1 9 x_20 := by rw [ex_20]; exact rg_add h_11 (rg_c (x := 1) (k := 1) (by decide)) (by decide) (by decide) (by decide) (by decide)
          have tx_20 : x_20.toInt = (y_4.1 0).toInt + 1 := by rw [ex_20]; exact inc_tk h_11 (by decide) (by decide) (by decide)
          refine lv_iinc (v := x_20) (lv' := [(3, .int x_20), (2, .int x_19), (0, .ref (a 200)), (1, .int p0)]) hx hb dX12_synonyms_79 hl (k := 1) rfl (by rw [ex_20]; rfl) (by decide) rfl (fun ls hl => ?_)
          refine lv_goto (tgt := 16) hx hb dX12_synonyms_82 (by decide) ?_
          exact ih_7 (fun k => [x_20, x_19].getD k 0, fun k => [].getD k (fun _ => 0), fun k => [].getD k (fun _ => 0), fun k => [].getD k 0) _ _ ls ⟨(m_upk me_8 tx_20 (by decide)), (rg_w (c := 0) (d := 9) hx_20 (by decide) (by decide)), hx_19, hP, hS, (lv_sub hl [0, 1, 2, 3] rfl)⟩
        · skip
          have h_21 : rg 0 0 r_16 := rg_eq c_17 (rg_c (x := 0) (k := 0) (by decide))
          refine lv_aload_n hx hb dX12_synonyms_40 rfl (lv_at hl 2 rfl) ?_
          refine lv_iload_n hx hb dX12_synonyms_41 rfl (lv_at hl 0 rfl) ?_
          refine lv_iconst (v := 1) hx hb dX12_synonyms_42 (by decide) ?_
          refine y_pV hF (s_ofWord1 l D t a v200_0 v200_5 v200_7 v200_8 v200_9 v200_10 v200_11 v200_12 v200_13 v200_15 v200_17 v200_18 v200_19 v200_21 v200_23 v200_27 v200_28 v200_29 v200_33 v200_34 v200_35 f201 (y_4.1 0) 1 r200_5 r200_7 r200_8 r200_9 r200_23 q201 h_11 (rg_c (x := 1) (k := 1) (by decide))) m_1612 m_1614 m_s58 m_13 m_1615 hd_X12_ofWord ⟨Nat.le_of_ble_eq_true rfl, Nat.le_of_ble_eq_true rfl⟩ hK hN hP hS [0, 1] rfl 0 (ci := 12) rfl rfl rfl hl.1 rfl (Nat.le_of_ble_eq_true rfl) dX12_synonyms_43 ⟨Nat.zero_le _, Nat.zero_le _⟩ (fun r_22 H locs hr_22 hP hS => ?_)
          refine lv_aload_n hx hb dX12_synonyms_46 rfl (lv_at hl 2 rfl) ?_
          refine lv_iload_n hx hb dX12_synonyms_47 rfl (lv_at hl 3 rfl) ?_
          refine lv_iconst (v := 1) hx hb dX12_synonyms_48 (by decide) ?_
          refine y_pV hF (s_ofWord1 l D t a v200_0 v200_5 v200_7 v200_8 v200_9 v200_10 v200_11 v200_12 v200_13 v200_15 v200_17 v200_18 v200_19 v200_21 v200_23 v200_27 v200_28 v200_29 v200_33 v200_34 v200_35 f201 p0 1 r200_5 r200_7 r200_8 r200_9 r200_23 q201 (rl_i o_3) (rg_c (x := 1) (k := 1) (by decide))) m_1612 m_1614 m_s58 m_13 m_1615 hd_X12_ofWord ⟨Nat.le_of_ble_eq_true rfl, Nat.le_of_ble_eq_true rfl⟩ hK hN hP hS [0, 1] rfl 0 (ci := 12) rfl rfl rfl hl.1 rfl (Nat.le_of_ble_eq_true rfl) dX12_synonyms_49 ⟨Nat.zero_le _, Nat.zero_le _⟩ (fun r_23 H locs hr_23 hP hS => ?_)
          refine lv_icmp_ne (tgt := 76) hx hb dX12_synonyms_52 (by decide) (fun c_24 => ?_) (fun c_24 => ?_)
          · skip
            refine lv_iconst (v := 0) hx hb dX12_synonyms_76 (by decide) ?_
            refine lv_ior hx hb dX12_synonyms_77 ?_
            refine lv_topi (fun x_25 ex_25 => ?_)
            have hx_25 : rg 0 511 x_25 := by rw [ex_25]; exact rg_or (m := 9) h_6 (rg_w (c := 0) (d := 511) (rg_c (x := 0) (k := 0) (by decide)) (by decide) (by decide)) (by decide) (by decide)
            refine lv_istore_n (lv' := [(2, .int x_25), (3, .int (y_4.1 0)), (0, .ref (a 200)), (1, .int p0)]) hx hb dX12_synonyms_78 rfl hl (by decide) rfl (fun ls hl => ?_)
            obtain ⟨x_26, ex_26⟩ : ∃ y9 : Int32, y9 = (y_4.1 0) + 1 := ⟨_, rfl⟩
            have hx_26 : rg 1 9 x_26 := by rw [ex_26]; exact rg_add h_11 (rg_c (x := 1) (k := 1) (by decide)) (by decide) (by decide) (by decide) (by decide)
            have tx_26 : x_26.toInt = (y_4.1 0).toInt + 1 := by rw [ex_26]; exact inc_tk h_11 (by decide) (by decide) (by decide)
            refine lv_iinc (v := x_26) (lv' := [(3, .int x_26), (2, .int x_25), (0, .ref (a 200)), (1, .int p0)]) hx hb dX12_synonyms_79 hl (k := 1) rfl (by rw [ex_26]; rfl) (by decide) rfl (fun ls hl => ?_)
            refine lv_goto (tgt := 16) hx hb dX12_synonyms_82 (by decide) ?_
            exact ih_7 (fun k => [x_26, x_25].getD k 0, fun k => [].getD k (fun _ => 0), fun k => [].getD k (fun _ => 0), fun k => [].getD k 0) _ _ ls ⟨(m_upk me_8 tx_26 (by decide)), (rg_w (c := 0) (d := 9) hx_26 (by decide) (by decide)), hx_25, hP, hS, (lv_sub hl [0, 1, 2, 3] rfl)⟩
          · skip
            refine lv_aload_n hx hb dX12_synonyms_55 rfl (lv_at hl 2 rfl) ?_
            refine lv_iload_n hx hb dX12_synonyms_56 rfl (lv_at hl 0 rfl) ?_
            refine lv_iconst (v := 3) hx hb dX12_synonyms_57 (by decide) ?_
            refine y_pV hF (s_ofWord3 l D t a v200_0 v200_5 v200_7 v200_8 v200_9 v200_10 v200_11 v200_12 v200_13 v200_15 v200_17 v200_18 v200_19 v200_21 v200_23 v200_27 v200_28 v200_29 v200_33 v200_34 v200_35 f201 (y_4.1 0) 3 r200_5 r200_7 r200_8 r200_9 r200_23 q201 h_11 (rg_c (x := 3) (k := 3) (by decide))) m_1612 m_1614 m_s58 m_13 m_1615 hd_X12_ofWord ⟨Nat.le_of_ble_eq_true rfl, Nat.le_of_ble_eq_true rfl⟩ hK hN hP hS [0, 1] rfl 0 (ci := 12) rfl rfl rfl hl.1 rfl (Nat.le_of_ble_eq_true rfl) dX12_synonyms_58 ⟨Nat.zero_le _, Nat.zero_le _⟩ (fun r_27 H locs hr_27 hP hS => ?_)
            refine lv_aload_n hx hb dX12_synonyms_61 rfl (lv_at hl 2 rfl) ?_
            refine lv_iload_n hx hb dX12_synonyms_62 rfl (lv_at hl 3 rfl) ?_
            refine lv_iconst (v := 3) hx hb dX12_synonyms_63 (by decide) ?_
            refine y_pV hF (s_ofWord3 l D t a v200_0 v200_5 v200_7 v200_8 v200_9 v200_10 v200_11 v200_12 v200_13 v200_15 v200_17 v200_18 v200_19 v200_21 v200_23 v200_27 v200_28 v200_29 v200_33 v200_34 v200_35 f201 p0 3 r200_5 r200_7 r200_8 r200_9 r200_23 q201 (rl_i o_3) (rg_c (x := 3) (k := 3) (by decide))) m_1612 m_1614 m_s58 m_13 m_1615 hd_X12_ofWord ⟨Nat.le_of_ble_eq_true rfl, Nat.le_of_ble_eq_true rfl⟩ hK hN hP hS [0, 1] rfl 0 (ci := 12) rfl rfl rfl hl.1 rfl (Nat.le_of_ble_eq_true rfl) dX12_synonyms_64 ⟨Nat.zero_le _, Nat.zero_le _⟩ (fun r_28 H locs hr_28 hP hS => ?_)
            refine lv_icmp_ne (tgt := 76) hx hb dX12_synonyms_67 (by decide) (fun c_29 => ?_) (fun c_29 => ?_)
            · skip
              refine lv_iconst (v := 0) hx hb dX12_synonyms_76 (by decide) ?_
              refine lv_ior hx hb dX12_synonyms_77 ?_
              refine lv_topi (fun x_30 ex_30 => ?_)
              have hx_30 : rg 0 511 x_30 := by rw [ex_30]; exact rg_or (m := 9) h_6 (rg_w (c := 0) (d := 511) (rg_c (x := 0) (k := 0) (by decide)) (by decide) (by decide)) (by decide) (by decide)
              refine lv_istore_n (lv' := [(2, .int x_30), (3, .int (y_4.1 0)), (0, .ref (a 200)), (1, .int p0)]) hx hb dX12_synonyms_78 rfl hl (by decide) rfl (fun ls hl => ?_)
              obtain ⟨x_31, ex_31⟩ : ∃ y9 : Int32, y9 = (y_4.1 0) + 1 := ⟨_, rfl⟩
              have hx_31 : rg 1 9 x_31 := by rw [ex_31]; exact rg_add h_11 (rg_c (x := 1) (k := 1) (by decide)) (by decide) (by decide) (by decide) (by decide)
              have tx_31 : x_31.toInt = (y_4.1 0).toInt + 1 := by rw [ex_31]; exact inc_tk h_11 (by decide) (by decide) (by decide)
              refine lv_iinc (v := x_31) (lv' := [(3, .int x_31), (2, .int x_30), (0, .ref (a 200)), (1, .int p0)]) hx hb dX12_synonyms_79 hl (k := 1) rfl (by rw [ex_31]; rfl) (by decide) rfl (fun ls hl => ?_)
              refine lv_goto (tgt := 16) hx hb dX12_synonyms_82 (by decide) ?_
              exact ih_7 (fun k => [x_31, x_30].getD k 0, fun k => [].getD k (fun _ => 0), fun k => [].getD k (fun _ => 0), fun k => [].getD k 0) _ _ ls ⟨(m_upk me_8 tx_31 (by decide)), (rg_w (c := 0) (d := 9) hx_31 (by decide) (by decide)), hx_30, hP, hS, (lv_sub hl [0, 1, 2, 3] rfl)⟩
            · skip
              refine lv_iconst (v := 1) hx hb dX12_synonyms_70 (by decide) ?_
              refine lv_iload_n hx hb dX12_synonyms_71 rfl (lv_at hl 0 rfl) ?_
              refine lv_ishl hx hb dX12_synonyms_72 ?_
              refine lv_topi (fun x_32 ex_32 => ?_)
              have hx_32 : rg 1 256 x_32 := by rw [ex_32]; exact rg_shl1 (b := 8) h_11 (by decide) (by decide)
              refine lv_goto (tgt := 77) hx hb dX12_synonyms_73 (by decide) ?_
              refine lv_ior hx hb dX12_synonyms_77 ?_
              refine lv_topi (fun x_33 ex_33 => ?_)
              have hx_33 : rg 0 511 x_33 := by rw [ex_33]; exact rg_or (m := 9) h_6 (rg_w (c := 0) (d := 511) hx_32 (by decide) (by decide)) (by decide) (by decide)
              refine lv_istore_n (lv' := [(2, .int x_33), (3, .int (y_4.1 0)), (0, .ref (a 200)), (1, .int p0)]) hx hb dX12_synonyms_78 rfl hl (by decide) rfl (fun ls hl => ?_)
              obtain ⟨x_34, ex_34⟩ : ∃ y9 : Int32, y9 = (y_4.1 0) + 1 := ⟨_, rfl⟩
              have hx_34 : rg 1 9 x_34 := by rw [ex_34]; exact rg_add h_11 (rg_c (x := 1) (k := 1) (by decide)) (by decide) (by decide) (by decide) (by decide)
              have tx_34 : x_34.toInt = (y_4.1 0).toInt + 1 := by rw [ex_34]; exact inc_tk h_11 (by decide) (by decide) (by decide)
              refine lv_iinc (v := x_34) (lv' := [(3, .int x_34), (2, .int x_33), (0, .ref (a 200)), (1, .int p0)]) hx hb dX12_synonyms_79 hl (k := 1) rfl (by rw [ex_34]; rfl) (by decide) rfl (fun ls hl => ?_)
              refine lv_goto (tgt := 16) hx hb dX12_synonyms_82 (by decide) ?_
              exact ih_7 (fun k => [x_34, x_33].getD k 0, fun k => [].getD k (fun _ => 0), fun k => [].getD k (fun _ => 0), fun k => [].getD k 0) _ _ ls ⟨(m_upk me_8 tx_34 (by decide)), (rg_w (c := 0) (d := 9) hx_34 (by decide) (by decide)), hx_33, hP, hS, (lv_sub hl [0, 1, 2, 3] rfl)⟩
  · skip
    refine lv_bipush (v := (-2)) hx hb dX12_synonyms_9 (by decide) ?_
    exact W.iret (v := (-2)) hx hb hr (fun t9 ht hW => ⟨⟨(-2), (), rfl, (rg_w (c := (-2)) (d := 511) (rg_c (x := (-2)) (k := (-2)) (by decide)) (by decide) (by decide)), trivial⟩, hS.F ht⟩) hS.2.2 dX12_synonyms_11

