set_option maxHeartbeats 4000000 in
set_option maxRecDepth 100000 in
theorem s_X12_mostOf (l : Launch) (D : va_G) (t : Nat → ClassId) (a : Nat → Nat) (v200_0 : Int32) (v200_5 : Int32) (v200_7 : Int32) (v200_8 : Int32) (v200_9 : Int32) (v200_10 : Int32) (v200_11 : Int32) (v200_12 : Int32) (v200_13 : Int32) (v200_15 : Int32) (v200_17 : Int32) (v200_18 : Int32) (v200_19 : Int32) (v200_21 : Int32) (v200_23 : Int32) (v200_27 : Int32) (v200_28 : Int32) (v200_29 : Int32) (v200_33 : Int32) (v200_34 : Int32) (v200_35 : Int32) (f201 : Nat → Int32) (f208 : Nat → Int32) (p0 : Int32) (r200_5 : rg 0 1600 v200_5) (r200_7 : rg 0 1600 v200_7) (r200_8 : rg 0 1600 v200_8) (r200_9 : rg 0 1600 v200_9) (r200_23 : rg 0 9 v200_23) (q201 : wR f201) : Met l yX12_mostOf (wd yX12_mostOf cX12_mostOf 4 (some .int)) (RM 2 0 0) (PreP D (TY t) [.ref (a 200), .int p0] [(a 200, .inr (12, .int v200_0 :: .ref (a 201) :: .ref (a 202) :: .ref (a 203) :: .ref (a 204) :: .int v200_5 :: .ref (a 205) :: .int v200_7 :: .int v200_8 :: .int v200_9 :: .int v200_10 :: .int v200_11 :: .int v200_12 :: .int v200_13 :: .ref (a 206) :: .int v200_15 :: .ref (a 207) :: .int v200_17 :: .int v200_18 :: .int v200_19 :: .ref (a 208) :: .int v200_21 :: .ref (a 209) :: .int v200_23 :: .ref (a 210) :: .ref (a 211) :: .ref (a 212) :: .int v200_27 :: .int v200_28 :: .int v200_29 :: .ref (a 213) :: .ref (a 214) :: .ref (a 215) :: .int v200_33 :: .int v200_34 :: .int v200_35 :: .ref (a 216) :: .ref (a 217) :: .ref (a 218) :: .ref (a 219) :: [])), (a 201, .inl (t 0, 841, .inl f201)), (a 208, .inl (t 0, 9, .inl f208))]) (QP (fun r => rg (-1) 8 r)) 0 0 NoF := by
  refine Met.ofW (cc := cX12_mostOf) (maxL := 4) (ret := (some .int)) (by decide) rfl ?_
  intro p e s m args below meth c s₁ B hml hv
  obtain ⟨rfl, hP, hK, hN⟩ := hv
  have hx := B.exec
  have hb := B.bytes
  have hr := B.returns
  have hts : ∀ w ∈ TB, w.before _ s = true := fun w h => atoms_spec (ws := wd yX12_mostOf cX12_mostOf 4 (some .int)) B.pre w (List.mem_cons_of_mem _ h)
  have hown : s.vm.findClass RX12 = some m.cls := findClass_of_methodNamed B.named
  have hlocks := B.notSynchronized
  have hF : CallFix p m c cX12_mostOf 4 s _ TB RX12 := ⟨hx, hb, hml, hown, hts⟩
  have hl := lv_entry ([.ref (a 200), .int p0]) (n := 4) (Nat.le_of_ble_eq_true rfl)
  rw [lg_entry_eq]
  generalize (lg_sl ([.ref (a 200), .int p0]) ++ List.replicate (4 - (lg_sl ([.ref (a 200), .int p0])).length) Slot.unset).toArray = ls at hl ⊢
  have hl : lv_has ls 4 [(0, .ref (a 200)), (1, .int p0)] := hl
  have hS : va_S NoF s.heap s.heap [] := va_S.rf
  have hP : va_P D classes [(a 200, .inr (12, .int v200_0 :: .ref (a 201) :: .ref (a 202) :: .ref (a 203) :: .ref (a 204) :: .int v200_5 :: .ref (a 205) :: .int v200_7 :: .int v200_8 :: .int v200_9 :: .int v200_10 :: .int v200_11 :: .int v200_12 :: .int v200_13 :: .ref (a 206) :: .int v200_15 :: .ref (a 207) :: .int v200_17 :: .int v200_18 :: .int v200_19 :: .ref (a 208) :: .int v200_21 :: .ref (a 209) :: .int v200_23 :: .ref (a 210) :: .ref (a 211) :: .ref (a 212) :: .int v200_27 :: .int v200_28 :: .int v200_29 :: .ref (a 213) :: .ref (a 214) :: .ref (a 215) :: .int v200_33 :: .int v200_34 :: .int v200_35 :: .ref (a 216) :: .ref (a 217) :: .ref (a 218) :: .ref (a 219) :: [])), (a 201, .inl (t 0, 841, .inl f201)), (a 208, .inl (t 0, 9, .inl f208))] s.heap := hP
  refine lv_iconst (v := (-1)) hx hb dX12_mostOf_0 (by decide) ?_
  refine lv_istore_n (lv' := [(2, .int (-1)), (0, .ref (a 200)), (1, .int p0)]) hx hb dX12_mostOf_1 rfl hl (by decide) rfl (fun ls hl => ?_)
  refine lv_iconst (v := 0) hx hb dX12_mostOf_2 (by decide) ?_
  refine lv_istore_n (lv' := [(3, .int 0), (2, .int (-1)), (0, .ref (a 200)), (1, .int p0)]) hx hb dX12_mostOf_3 rfl hl (by decide) rfl (fun ls hl => ?_)
  refine loopW (α := US) (fun n y_1 H locs ls => 9 < (y_1.1 0).toInt + (n : Int) ∧ rg 0 9 (y_1.1 0) ∧ rg (-1) 8 (y_1.1 1) ∧ va_P D classes [(a 200, .inr (12, .int v200_0 :: .ref (a 201) :: .ref (a 202) :: .ref (a 203) :: .ref (a 204) :: .int v200_5 :: .ref (a 205) :: .int v200_7 :: .int v200_8 :: .int v200_9 :: .int v200_10 :: .int v200_11 :: .int v200_12 :: .int v200_13 :: .ref (a 206) :: .int v200_15 :: .ref (a 207) :: .int v200_17 :: .int v200_18 :: .int v200_19 :: .ref (a 208) :: .int v200_21 :: .ref (a 209) :: .int v200_23 :: .ref (a 210) :: .ref (a 211) :: .ref (a 212) :: .int v200_27 :: .int v200_28 :: .int v200_29 :: .ref (a 213) :: .ref (a 214) :: .ref (a 215) :: .int v200_33 :: .int v200_34 :: .int v200_35 :: .ref (a 216) :: .ref (a 217) :: .ref (a 218) :: .ref (a 219) :: [])), (a 201, .inl (t 0, 841, .inl f201)), (a 208, .inl (t 0, 9, .inl f208))] H ∧ va_S NoF s.heap H locs ∧ lv_has ls 4 [(3, .int (y_1.1 0)), (2, .int (y_1.1 1)), (0, .ref (a 200)), (1, .int p0)]) 4 (fun y_1 => []) (fun _ _ _ _ h9 => m_0 h9.1 h9.2.1) (fun n ih_4 y_1 H locs ls hI => ?_) 10 (fun k => [0, (-1)].getD k 0, fun k => [].getD k (fun _ => 0), fun k => [].getD k (fun _ => 0), fun k => [].getD k 0) ⟨(m_i (rg_c (x := 0) (k := 0) (by decide)) (by decide)), (rg_w (c := 0) (d := 9) (rg_c (x := 0) (k := 0) (by decide)) (by decide) (by decide)), (rg_w (c := (-1)) (d := 8) (rg_c (x := (-1)) (k := (-1)) (by decide)) (by decide) (by decide)), hP, hS, (lv_sub hl [0, 1, 2, 3] rfl)⟩
  obtain ⟨me_5, h_2, h_3, hP, hS, hl⟩ := hI
  refine lv_iload_n hx hb dX12_mostOf_4 rfl (lv_at hl 0 rfl) ?_
  refine lv_aload_n hx hb dX12_mostOf_5 rfl (lv_at hl 2 rfl) ?_
  refine va_get (D := D) (ci := 12) (v := .ref (a 201)) (C := RX12) (T := TX12) (N := 40) hx hb hts iX12 hown hK hP 0 rfl rfl 1 (by decide) (hts _ m_1344) (fun _ h9 => h9) rfl dX12_mostOf_6 ?_
  refine lv_iconst (v := 5) hx hb dX12_mostOf_9 (by decide) ?_
  refine va_iald hx hb hK hP 1 0 rfl rfl (in_rg (rg_c (x := 5) (k := 5) (by decide)) (by decide) (by decide)) dX12_mostOf_10 ?_
  refine x_seti (f201 5) rfl ?_
  have h_6 : rg 0 9 (f201 5) := q201 5 (by decide)
  refine lv_icmp_ge (tgt := 77) hx hb dX12_mostOf_11 (by decide) (fun c_7 => ?_) (fun c_7 => ?_)
  · skip
    refine lv_iload_n hx hb dX12_mostOf_77 rfl (lv_at hl 1 rfl) ?_
    exact W.iret (v := (y_1.1 1)) hx hb hr (fun t9 ht hW => ⟨⟨(y_1.1 1), (), rfl, h_3, trivial⟩, hS.F ht⟩) hS.2.2 dX12_mostOf_78
  · skip
    have h_8 : rg 0 8 (y_1.1 0) := ⟨(h_2).1, Int.le_trans (c_nleR c_7 h_6) (by decide)⟩
    have h_9 : rg 1 9 (f201 5) := ⟨Int.le_trans (by decide) (c_nle c_7 h_2), (h_6).2⟩
    refine lv_iload_n hx hb dX12_mostOf_14 rfl (lv_at hl 3 rfl) ?_
    refine lv_iload_n hx hb dX12_mostOf_15 rfl (lv_at hl 0 rfl) ?_
    refine y_pS hF (s_X12_bit l D t a p0 (y_1.1 0)) m_1616 m_1617 m_13 m_1618 hd_X12_bit ⟨Nat.le_of_ble_eq_true rfl, Nat.le_of_ble_eq_true rfl⟩ hK hN hP hS [] rfl hl.1 rfl (Nat.le_of_ble_eq_true rfl) dX12_mostOf_16 ⟨Nat.zero_le _, Nat.zero_le _⟩ (fun r_10 H locs hr_10 hP hS => ?_)
    have or_10 := hr_10.2
    refine lv_if_ne (tgt := 25) hx hb dX12_mostOf_19 (by decide) (fun c_11 => ?_) (fun c_11 => ?_)
    · skip
      have h_12 : rg 1 1 r_10 := rg_w (rg_neL hr_10.1 c_11 (by decide)) (by decide) (by decide)
      refine lv_iload_n hx hb dX12_mostOf_25 rfl (lv_at hl 1 rfl) ?_
      refine lv_iconst (v := (-1)) hx hb dX12_mostOf_26 (by decide) ?_
      refine lv_icmp_eq (tgt := 69) hx hb dX12_mostOf_27 (by decide) (fun c_13 => ?_) (fun c_13 => ?_)
      · skip
        have h_14 : rg (-1) (-1) (y_1.1 1) := rg_eq c_13 (rg_c (x := (-1)) (k := (-1)) (by decide))
        refine lv_iload_n hx hb dX12_mostOf_69 rfl (lv_at hl 0 rfl) ?_
        refine lv_istore_n (lv' := [(2, .int (y_1.1 0)), (3, .int (y_1.1 0)), (0, .ref (a 200)), (1, .int p0)]) hx hb dX12_mostOf_70 rfl hl (by decide) rfl (fun ls hl => ?_)
        obtain ⟨x_15, ex_15⟩ : ∃ y9 : Int32, y9 = (y_1.1 0) + 1 := ⟨_, rfl⟩
        have hx_15 : rg 1 9 x_15 := by rw [ex_15]; exact rg_add h_8 (rg_c (x := 1) (k := 1) (by decide)) (by decide) (by decide) (by decide) (by decide)
        have tx_15 : x_15.toInt = (y_1.1 0).toInt + 1 := by rw [ex_15]; exact inc_tk h_8 (by decide) (by decide) (by decide)
        refine lv_iinc (v := x_15) (lv' := [(3, .int x_15), (2, .int (y_1.1 0)), (0, .ref (a 200)), (1, .int p0)]) hx hb dX12_mostOf_71 hl (k := 1) rfl (by rw [ex_15]; rfl) (by decide) rfl (fun ls hl => ?_)
        refine lv_goto (tgt := 4) hx hb dX12_mostOf_74 (by decide) ?_
        exact ih_4 (fun k => [x_15, (y_1.1 0)].getD k 0, fun k => [].getD k (fun _ => 0), fun k => [].getD k (fun _ => 0), fun k => [].getD k 0) _ _ ls ⟨(m_upk me_5 tx_15 (by decide)), (rg_w (c := 0) (d := 9) hx_15 (by decide) (by decide)), (rg_w (c := (-1)) (d := 8) h_8 (by decide) (by decide)), hP, hS, (lv_sub hl [0, 1, 2, 3] rfl)⟩
      · skip
        have h_16 : rg 0 8 (y_1.1 1) := rg_w (rg_neL h_3 c_13 (by decide)) (by decide) (by decide)
        refine lv_aload_n hx hb dX12_mostOf_30 rfl (lv_at hl 2 rfl) ?_
        refine va_get (D := D) (ci := 12) (v := .ref (a 208)) (C := RX12) (T := TX12) (N := 40) hx hb hts iX12 hown hK hP 0 rfl rfl 20 (by decide) (hts _ m_1363) (fun _ h9 => h9) rfl dX12_mostOf_31 ?_
        refine lv_iload_n hx hb dX12_mostOf_34 rfl (lv_at hl 0 rfl) ?_
        refine va_iald hx hb hK hP 2 0 rfl rfl (in_rg h_8 (by decide) (by decide)) dX12_mostOf_35 ?_
        refine lv_topi (fun x_17 ex_17 => ?_)
        refine lv_aload_n hx hb dX12_mostOf_36 rfl (lv_at hl 2 rfl) ?_
        refine va_get (D := D) (ci := 12) (v := .ref (a 208)) (C := RX12) (T := TX12) (N := 40) hx hb hts iX12 hown hK hP 0 rfl rfl 20 (by decide) (hts _ m_1363) (fun _ h9 => h9) rfl dX12_mostOf_37 ?_
        refine lv_iload_n hx hb dX12_mostOf_40 rfl (lv_at hl 1 rfl) ?_
        refine va_iald hx hb hK hP 2 0 rfl rfl (in_rg h_16 (by decide) (by decide)) dX12_mostOf_41 ?_
        refine lv_topi (fun x_18 ex_18 => ?_)
        refine lv_icmp_gt (tgt := 69) hx hb dX12_mostOf_42 (by decide) (fun c_19 => ?_) (fun c_19 => ?_)
        · skip
          have h_20 : rg (-2147483647) 2147483647 x_17 := ⟨Int.le_trans (by decide) (c_ltR c_19 (rg_any x_18)), ((rg_any x_17)).2⟩
          have h_21 : rg (-2147483648) 2147483646 x_18 := ⟨((rg_any x_18)).1, Int.le_trans (c_lt c_19 (rg_any x_17)) (by decide)⟩
          refine lv_iload_n hx hb dX12_mostOf_69 rfl (lv_at hl 0 rfl) ?_
          refine lv_istore_n (lv' := [(2, .int (y_1.1 0)), (3, .int (y_1.1 0)), (0, .ref (a 200)), (1, .int p0)]) hx hb dX12_mostOf_70 rfl hl (by decide) rfl (fun ls hl => ?_)
          obtain ⟨x_22, ex_22⟩ : ∃ y9 : Int32, y9 = (y_1.1 0) + 1 := ⟨_, rfl⟩
          have hx_22 : rg 1 9 x_22 := by rw [ex_22]; exact rg_add h_8 (rg_c (x := 1) (k := 1) (by decide)) (by decide) (by decide) (by decide) (by decide)
          have tx_22 : x_22.toInt = (y_1.1 0).toInt + 1 := by rw [ex_22]; exact inc_tk h_8 (by decide) (by decide) (by decide)
          refine lv_iinc (v := x_22) (lv' := [(3, .int x_22), (2, .int (y_1.1 0)), (0, .ref (a 200)), (1, .int p0)]) hx hb dX12_mostOf_71 hl (k := 1) rfl (by rw [ex_22]; rfl) (by decide) rfl (fun ls hl => ?_)
          refine lv_goto (tgt := 4) hx hb dX12_mostOf_74 (by decide) ?_
          exact ih_4 (fun k => [x_22, (y_1.1 0)].getD k 0, fun k => [].getD k (fun _ => 0), fun k => [].getD k (fun _ => 0), fun k => [].getD k 0) _ _ ls ⟨(m_upk me_5 tx_22 (by decide)), (rg_w (c := 0) (d := 9) hx_22 (by decide) (by decide)), (rg_w (c := (-1)) (d := 8) h_8 (by decide) (by decide)), hP, hS, (lv_sub hl [0, 1, 2, 3] rfl)⟩
        · skip
          refine lv_aload_n hx hb dX12_mostOf_45 rfl (lv_at hl 2 rfl) ?_
          refine va_get (D := D) (ci := 12) (v := .ref (a 208)) (C := RX12) (T := TX12) (N := 40) hx hb hts iX12 hown hK hP 0 rfl rfl 20 (by decide) (hts _ m_1363) (fun _ h9 => h9) rfl dX12_mostOf_46 ?_
          refine lv_iload_n hx hb dX12_mostOf_49 rfl (lv_at hl 0 rfl) ?_
          refine va_iald hx hb hK hP 2 0 rfl rfl (in_rg h_8 (by decide) (by decide)) dX12_mostOf_50 ?_
          refine lv_topi (fun x_23 ex_23 => ?_)
          refine lv_aload_n hx hb dX12_mostOf_51 rfl (lv_at hl 2 rfl) ?_
          refine va_get (D := D) (ci := 12) (v := .ref (a 208)) (C := RX12) (T := TX12) (N := 40) hx hb hts iX12 hown hK hP 0 rfl rfl 20 (by decide) (hts _ m_1363) (fun _ h9 => h9) rfl dX12_mostOf_52 ?_
          refine lv_iload_n hx hb dX12_mostOf_55 rfl (lv_at hl 1 rfl) ?_
          refine va_iald hx hb hK hP 2 0 rfl rfl (in_rg h_16 (by decide) (by decide)) dX12_mostOf_56 ?_
          refine lv_topi (fun x_24 ex_24 => ?_)
          refine lv_icmp_ne (tgt := 71) hx hb dX12_mostOf_57 (by decide) (fun c_25 => ?_) (fun c_25 => ?_)
          · skip
            obtain ⟨x_26, ex_26⟩ : ∃ y9 : Int32, y9 = (y_1.1 0) + 1 := ⟨_, rfl⟩
            have hx_26 : rg 1 9 x_26 := by rw [ex_26]; exact rg_add h_8 (rg_c (x := 1) (k := 1) (by decide)) (by decide) (by decide) (by decide) (by decide)
            have tx_26 : x_26.toInt = (y_1.1 0).toInt + 1 := by rw [ex_26]; exact inc_tk h_8 (by decide) (by decide) (by decide)
            refine lv_iinc (v := x_26) (lv' := [(3, .int x_26), (2, .int (y_1.1 1)), (0, .ref (a 200)), (1, .int p0)]) hx hb dX12_mostOf_71 hl (k := 0) rfl (by rw [ex_26]; rfl) (by decide) rfl (fun ls hl => ?_)
            refine lv_goto (tgt := 4) hx hb dX12_mostOf_74 (by decide) ?_
            exact ih_4 (fun k => [x_26, (y_1.1 1)].getD k 0, fun k => [].getD k (fun _ => 0), fun k => [].getD k (fun _ => 0), fun k => [].getD k 0) _ _ ls ⟨(m_upk me_5 tx_26 (by decide)), (rg_w (c := 0) (d := 9) hx_26 (by decide) (by decide)), (rg_w (c := (-1)) (d := 8) h_16 (by decide) (by decide)), hP, hS, (lv_sub hl [0, 1, 2, 3] rfl)⟩
          · skip
            refine lv_aload_n hx hb dX12_mostOf_60 rfl (lv_at hl 2 rfl) ?_
            refine lv_iload_n hx hb dX12_mostOf_61 rfl (lv_at hl 0 rfl) ?_
            refine lv_iload_n hx hb dX12_mostOf_62 rfl (lv_at hl 1 rfl) ?_
            refine y_pV hF (s_X12_isLonger l D t a v200_0 v200_5 v200_7 v200_8 v200_9 v200_10 v200_11 v200_12 v200_13 v200_15 v200_17 v200_18 v200_19 v200_21 v200_23 v200_27 v200_28 v200_29 v200_33 v200_34 v200_35 f201 (y_1.1 0) (y_1.1 1) r200_5 r200_7 r200_8 r200_9 r200_23 q201 h_8 h_16) m_1687 m_1689 m_s71 m_13 m_1690 hd_X12_isLonger ⟨Nat.le_of_ble_eq_true rfl, Nat.le_of_ble_eq_true rfl⟩ hK hN hP hS [0, 1] rfl 0 (ci := 12) rfl rfl rfl hl.1 rfl (Nat.le_of_ble_eq_true rfl) dX12_mostOf_63 ⟨Nat.zero_le _, Nat.zero_le _⟩ (fun r_27 H locs hr_27 hP hS => ?_)
            refine lv_if_eq (tgt := 71) hx hb dX12_mostOf_66 (by decide) (fun c_28 => ?_) (fun c_28 => ?_)
            · skip
              have h_29 : rg 0 0 r_27 := rg_eq c_28 (rg_c (x := 0) (k := 0) (by decide))
              obtain ⟨x_30, ex_30⟩ : ∃ y9 : Int32, y9 = (y_1.1 0) + 1 := ⟨_, rfl⟩
              have hx_30 : rg 1 9 x_30 := by rw [ex_30]; exact rg_add h_8 (rg_c (x := 1) (k := 1) (by decide)) (by decide) (by decide) (by decide) (by decide)
              have tx_30 : x_30.toInt = (y_1.1 0).toInt + 1 := by rw [ex_30]; exact inc_tk h_8 (by decide) (by decide) (by decide)
              refine lv_iinc (v := x_30) (lv' := [(3, .int x_30), (2, .int (y_1.1 1)), (0, .ref (a 200)), (1, .int p0)]) hx hb dX12_mostOf_71 hl (k := 0) rfl (by rw [ex_30]; rfl) (by decide) rfl (fun ls hl => ?_)
              refine lv_goto (tgt := 4) hx hb dX12_mostOf_74 (by decide) ?_
              exact ih_4 (fun k => [x_30, (y_1.1 1)].getD k 0, fun k => [].getD k (fun _ => 0), fun k => [].getD k (fun _ => 0), fun k => [].getD k 0) _ _ ls ⟨(m_upk me_5 tx_30 (by decide)), (rg_w (c := 0) (d := 9) hx_30 (by decide) (by decide)), (rg_w (c := (-1)) (d := 8) h_16 (by decide) (by decide)), hP, hS, (lv_sub hl [0, 1, 2, 3] rfl)⟩
            · skip
              have h_31 : rg 1 1 r_27 := rg_w (rg_neL hr_27 c_28 (by decide)) (by decide) (by decide)
              refine lv_iload_n hx hb dX12_mostOf_69 rfl (lv_at hl 0 rfl) ?_
              refine lv_istore_n (lv' := [(2, .int (y_1.1 0)), (3, .int (y_1.1 0)), (0, .ref (a 200)), (1, .int p0)]) hx hb dX12_mostOf_70 rfl hl (by decide) rfl (fun ls hl => ?_)
              obtain ⟨x_32, ex_32⟩ : ∃ y9 : Int32, y9 = (y_1.1 0) + 1 := ⟨_, rfl⟩
              have hx_32 : rg 1 9 x_32 := by rw [ex_32]; exact rg_add h_8 (rg_c (x := 1) (k := 1) (by decide)) (by decide) (by decide) (by decide) (by decide)
              have tx_32 : x_32.toInt = (y_1.1 0).toInt + 1 := by rw [ex_32]; exact inc_tk h_8 (by decide) (by decide) (by decide)
              refine lv_iinc (v := x_32) (lv' := [(3, .int x_32), (2, .int (y_1.1 0)), (0, .ref (a 200)), (1, .int p0)]) hx hb dX12_mostOf_71 hl (k := 1) rfl (by rw [ex_32]; rfl) (by decide) rfl (fun ls hl => ?_)
              refine lv_goto (tgt := 4) hx hb dX12_mostOf_74 (by decide) ?_
              exact ih_4 (fun k => [x_32, (y_1.1 0)].getD k 0, fun k => [].getD k (fun _ => 0), fun k => [].getD k (fun _ => 0), fun k => [].getD k 0) _ _ ls ⟨(m_upk me_5 tx_32 (by decide)), (rg_w (c := 0) (d := 9) hx_32 (by decide) (by decide)), (rg_w (c := (-1)) (d := 8) h_8 (by decide) (by decide)), hP, hS, (lv_sub hl [0, 1, 2, 3] rfl)⟩
    · skip
      have h_33 : rg 0 0 r_10 := rg_eq c_11 (rg_c (x := 0) (k := 0) (by decide))
      refine lv_goto (tgt := 71) hx hb dX12_mostOf_22 (by decide) ?_
      obtain ⟨x_34, ex_34⟩ : ∃ y9 : Int32, y9 = (y_1.1 0) + 1 := ⟨_, rfl⟩
      have hx_34 : rg 1 9 x_34 := by rw [ex_34]; exact rg_add h_8 (rg_c (x := 1) (k := 1) (by decide)) (by decide) (by decide) (by decide) (by decide)
      have tx_34 : x_34.toInt = (y_1.1 0).toInt + 1 := by rw [ex_34]; exact inc_tk h_8 (by decide) (by decide) (by decide)
      refine lv_iinc (v := x_34) (lv' := [(3, .int x_34), (2, .int (y_1.1 1)), (0, .ref (a 200)), (1, .int p0)]) hx hb dX12_mostOf_71 hl (k := 0) rfl (by rw [ex_34]; rfl) (by decide) rfl (fun ls hl => ?_)
      refine lv_goto (tgt := 4) hx hb dX12_mostOf_74 (by decide) ?_
      exact ih_4 (fun k => [x_34, (y_1.1 1)].getD k 0, fun k => [].getD k (fun _ => 0), fun k => [].getD k (fun _ => 0), fun k => [].getD k 0) _ _ ls ⟨(m_upk me_5 tx_34 (by decide)), (rg_w (c := 0) (d := 9) hx_34 (by decide) (by decide)), h_3, hP, hS, (lv_sub hl [0, 1, 2, 3] rfl)⟩

set_option maxHeartbeats 4000000 in
set_option maxRecDepth 100000 in
theorem s_X12_mostOfNZ (l : Launch) (D : va_G) (t : Nat → ClassId) (a : Nat → Nat) (v200_0 : Int32) (v200_5 : Int32) (v200_7 : Int32) (v200_8 : Int32) (v200_9 : Int32) (v200_10 : Int32) (v200_11 : Int32) (v200_12 : Int32) (v200_13 : Int32) (v200_15 : Int32) (v200_17 : Int32) (v200_18 : Int32) (v200_19 : Int32) (v200_21 : Int32) (v200_23 : Int32) (v200_27 : Int32) (v200_28 : Int32) (v200_29 : Int32) (v200_33 : Int32) (v200_34 : Int32) (v200_35 : Int32) (f201 : Nat → Int32) (f208 : Nat → Int32) (p0 : Int32) (r200_5 : rg 0 1600 v200_5) (r200_7 : rg 0 1600 v200_7) (r200_8 : rg 0 1600 v200_8) (r200_9 : rg 0 1600 v200_9) (r200_23 : rg 0 9 v200_23) (q201 : wR f201) (k0 : Nat) (hk0 : k0 < 9) (hk1 : (k0 : Int) < (f201 5).toInt) (hk2 : bt p0 (nI k0) = 1) : Met l yX12_mostOf (wd yX12_mostOf cX12_mostOf 4 (some .int)) (RM 2 0 0) (PreP D (TY t) [.ref (a 200), .int p0] [(a 200, .inr (12, .int v200_0 :: .ref (a 201) :: .ref (a 202) :: .ref (a 203) :: .ref (a 204) :: .int v200_5 :: .ref (a 205) :: .int v200_7 :: .int v200_8 :: .int v200_9 :: .int v200_10 :: .int v200_11 :: .int v200_12 :: .int v200_13 :: .ref (a 206) :: .int v200_15 :: .ref (a 207) :: .int v200_17 :: .int v200_18 :: .int v200_19 :: .ref (a 208) :: .int v200_21 :: .ref (a 209) :: .int v200_23 :: .ref (a 210) :: .ref (a 211) :: .ref (a 212) :: .int v200_27 :: .int v200_28 :: .int v200_29 :: .ref (a 213) :: .ref (a 214) :: .ref (a 215) :: .int v200_33 :: .int v200_34 :: .int v200_35 :: .ref (a 216) :: .ref (a 217) :: .ref (a 218) :: .ref (a 219) :: [])), (a 201, .inl (t 0, 841, .inl f201)), (a 208, .inl (t 0, 9, .inl f208))]) (QP (fun r => rg 0 8 r ∧ (r.toInt < (f201 5).toInt))) 0 0 NoF := by
  refine Met.ofW (cc := cX12_mostOf) (maxL := 4) (ret := (some .int)) (by decide) rfl ?_
  intro p e s m args below meth c s₁ B hml hv
  obtain ⟨rfl, hP, hK, hN⟩ := hv
  have hx := B.exec
  have hb := B.bytes
  have hr := B.returns
  have hts : ∀ w ∈ TB, w.before _ s = true := fun w h => atoms_spec (ws := wd yX12_mostOf cX12_mostOf 4 (some .int)) B.pre w (List.mem_cons_of_mem _ h)
  have hown : s.vm.findClass RX12 = some m.cls := findClass_of_methodNamed B.named
  have hlocks := B.notSynchronized
  have hF : CallFix p m c cX12_mostOf 4 s _ TB RX12 := ⟨hx, hb, hml, hown, hts⟩
  have hl := lv_entry ([.ref (a 200), .int p0]) (n := 4) (Nat.le_of_ble_eq_true rfl)
  rw [lg_entry_eq]
  generalize (lg_sl ([.ref (a 200), .int p0]) ++ List.replicate (4 - (lg_sl ([.ref (a 200), .int p0])).length) Slot.unset).toArray = ls at hl ⊢
  have hl : lv_has ls 4 [(0, .ref (a 200)), (1, .int p0)] := hl
  have hS : va_S NoF s.heap s.heap [] := va_S.rf
  have hP : va_P D classes [(a 200, .inr (12, .int v200_0 :: .ref (a 201) :: .ref (a 202) :: .ref (a 203) :: .ref (a 204) :: .int v200_5 :: .ref (a 205) :: .int v200_7 :: .int v200_8 :: .int v200_9 :: .int v200_10 :: .int v200_11 :: .int v200_12 :: .int v200_13 :: .ref (a 206) :: .int v200_15 :: .ref (a 207) :: .int v200_17 :: .int v200_18 :: .int v200_19 :: .ref (a 208) :: .int v200_21 :: .ref (a 209) :: .int v200_23 :: .ref (a 210) :: .ref (a 211) :: .ref (a 212) :: .int v200_27 :: .int v200_28 :: .int v200_29 :: .ref (a 213) :: .ref (a 214) :: .ref (a 215) :: .int v200_33 :: .int v200_34 :: .int v200_35 :: .ref (a 216) :: .ref (a 217) :: .ref (a 218) :: .ref (a 219) :: [])), (a 201, .inl (t 0, 841, .inl f201)), (a 208, .inl (t 0, 9, .inl f208))] s.heap := hP
  refine lv_iconst (v := (-1)) hx hb dX12_mostOf_0 (by decide) ?_
  refine lv_istore_n (lv' := [(2, .int (-1)), (0, .ref (a 200)), (1, .int p0)]) hx hb dX12_mostOf_1 rfl hl (by decide) rfl (fun ls hl => ?_)
  refine lv_iconst (v := 0) hx hb dX12_mostOf_2 (by decide) ?_
  refine lv_istore_n (lv' := [(3, .int 0), (2, .int (-1)), (0, .ref (a 200)), (1, .int p0)]) hx hb dX12_mostOf_3 rfl hl (by decide) rfl (fun ls hl => ?_)
  refine loopW (α := US) (fun n y_1 H locs ls => 9 < (y_1.1 0).toInt + (n : Int) ∧ rg 0 9 (y_1.1 0) ∧ rg (-1) 8 (y_1.1 1) ∧ (0 ≤ (y_1.1 1).toInt ∨ (y_1.1 0).toInt ≤ (k0 : Int)) ∧ ((y_1.1 1).toInt < (f201 5).toInt) ∧ va_P D classes [(a 200, .inr (12, .int v200_0 :: .ref (a 201) :: .ref (a 202) :: .ref (a 203) :: .ref (a 204) :: .int v200_5 :: .ref (a 205) :: .int v200_7 :: .int v200_8 :: .int v200_9 :: .int v200_10 :: .int v200_11 :: .int v200_12 :: .int v200_13 :: .ref (a 206) :: .int v200_15 :: .ref (a 207) :: .int v200_17 :: .int v200_18 :: .int v200_19 :: .ref (a 208) :: .int v200_21 :: .ref (a 209) :: .int v200_23 :: .ref (a 210) :: .ref (a 211) :: .ref (a 212) :: .int v200_27 :: .int v200_28 :: .int v200_29 :: .ref (a 213) :: .ref (a 214) :: .ref (a 215) :: .int v200_33 :: .int v200_34 :: .int v200_35 :: .ref (a 216) :: .ref (a 217) :: .ref (a 218) :: .ref (a 219) :: [])), (a 201, .inl (t 0, 841, .inl f201)), (a 208, .inl (t 0, 9, .inl f208))] H ∧ va_S NoF s.heap H locs ∧ lv_has ls 4 [(3, .int (y_1.1 0)), (2, .int (y_1.1 1)), (0, .ref (a 200)), (1, .int p0)]) 4 (fun y_1 => []) (fun _ _ _ _ h9 => m_0 h9.1 h9.2.1) (fun n ih_6 y_1 H locs ls hI => ?_) 10 (fun k => [0, (-1)].getD k 0, fun k => [].getD k (fun _ => 0), fun k => [].getD k (fun _ => 0), fun k => [].getD k 0) ⟨(m_i (rg_c (x := 0) (k := 0) (by decide)) (by decide)), (rg_w (c := 0) (d := 9) (rg_c (x := 0) (k := 0) (by decide)) (by decide) (by decide)), (rg_w (c := (-1)) (d := 8) (rg_c (x := (-1)) (k := (-1)) (by decide)) (by decide) (by decide)), (show 0 ≤ ((-1) : Int32).toInt ∨ (0 : Int32).toInt ≤ (k0 : Int) from (by have zc1 : (-1 : Int32).toInt = -1 := (by decide); have zc0 : (0 : Int32).toInt = 0 := rfl; have zq : rg 0 9 (f201 5) := q201 5 (by decide); have zq1 := zq.1; have zq2 := zq.2; have r1_0 := ((rg_c (x := (-1)) (k := (-1)) (by decide))).1; have r2_0 := ((rg_c (x := (-1)) (k := (-1)) (by decide))).2; omega)), (show ((-1) : Int32).toInt < (f201 5).toInt from (by have zc1 : (-1 : Int32).toInt = -1 := (by decide); have zc0 : (0 : Int32).toInt = 0 := rfl; have zq : rg 0 9 (f201 5) := q201 5 (by decide); have zq1 := zq.1; have zq2 := zq.2; have r1_0 := ((rg_c (x := (-1)) (k := (-1)) (by decide))).1; have r2_0 := ((rg_c (x := (-1)) (k := (-1)) (by decide))).2; omega)), hP, hS, (lv_sub hl [0, 1, 2, 3] rfl)⟩
  obtain ⟨me_7, h_2, h_3, i_4, i_5, hP, hS, hl⟩ := hI
  refine lv_iload_n hx hb dX12_mostOf_4 rfl (lv_at hl 0 rfl) ?_
  refine lv_aload_n hx hb dX12_mostOf_5 rfl (lv_at hl 2 rfl) ?_
  refine va_get (D := D) (ci := 12) (v := .ref (a 201)) (C := RX12) (T := TX12) (N := 40) hx hb hts iX12 hown hK hP 0 rfl rfl 1 (by decide) (hts _ m_1344) (fun _ h9 => h9) rfl dX12_mostOf_6 ?_
  refine lv_iconst (v := 5) hx hb dX12_mostOf_9 (by decide) ?_
  refine va_iald hx hb hK hP 1 0 rfl rfl (in_rg (rg_c (x := 5) (k := 5) (by decide)) (by decide) (by decide)) dX12_mostOf_10 ?_
  refine x_seti (f201 5) rfl ?_
  have h_8 : rg 0 9 (f201 5) := q201 5 (by decide)
  refine lv_icmp_ge (tgt := 77) hx hb dX12_mostOf_11 (by decide) (fun c_9 => ?_) (fun c_9 => ?_)
  · skip
    have tc_9 := t_le c_9
    have h_10 : rg 0 8 (y_1.1 1) := ⟨by have zc1 : (-1 : Int32).toInt = -1 := (by decide); have zc0 : (0 : Int32).toInt = 0 := rfl; have zq : rg 0 9 (f201 5) := q201 5 (by decide); have zq1 := zq.1; have zq2 := zq.2; have r1_0 := (h_3).1; have r2_0 := (h_3).2; omega, (h_3).2⟩
    refine lv_iload_n hx hb dX12_mostOf_77 rfl (lv_at hl 1 rfl) ?_
    exact W.iret (v := (y_1.1 1)) hx hb hr (fun t9 ht hW => ⟨⟨(y_1.1 1), (), rfl, ⟨h_10, i_5⟩, trivial⟩, hS.F ht⟩) hS.2.2 dX12_mostOf_78
  · skip
    have tc_9 := t_nle c_9
    have h_11 : rg 0 8 (y_1.1 0) := ⟨(h_2).1, Int.le_trans (c_nleR c_9 h_8) (by decide)⟩
    have h_12 : rg 1 9 (f201 5) := ⟨Int.le_trans (by decide) (c_nle c_9 h_2), (h_8).2⟩
    refine lv_iload_n hx hb dX12_mostOf_14 rfl (lv_at hl 3 rfl) ?_
    refine lv_iload_n hx hb dX12_mostOf_15 rfl (lv_at hl 0 rfl) ?_
    refine y_pS hF (s_X12_bit l D t a p0 (y_1.1 0)) m_1616 m_1617 m_13 m_1618 hd_X12_bit ⟨Nat.le_of_ble_eq_true rfl, Nat.le_of_ble_eq_true rfl⟩ hK hN hP hS [] rfl hl.1 rfl (Nat.le_of_ble_eq_true rfl) dX12_mostOf_16 ⟨Nat.zero_le _, Nat.zero_le _⟩ (fun r_13 H locs hr_13 hP hS => ?_)
    have or_13 := hr_13.2
    refine lv_if_ne (tgt := 25) hx hb dX12_mostOf_19 (by decide) (fun c_14 => ?_) (fun c_14 => ?_)
    · skip
      have zc_15 : (0 : Int32).toInt = 0 := rfl
      have tc_14 : ¬ (r_13 : Int32).toInt = (0 : Int32).toInt := fun z9 => c_14 (Int32.toInt_inj.mp z9)
      have h_16 : rg 1 1 r_13 := rg_w (rg_neL hr_13.1 c_14 (by decide)) (by decide) (by decide)
      refine lv_iload_n hx hb dX12_mostOf_25 rfl (lv_at hl 1 rfl) ?_
      refine lv_iconst (v := (-1)) hx hb dX12_mostOf_26 (by decide) ?_
      refine lv_icmp_eq (tgt := 69) hx hb dX12_mostOf_27 (by decide) (fun c_17 => ?_) (fun c_17 => ?_)
      · skip
        have zc_18 : ((-1) : Int32).toInt = (-1) := by decide
        have tc_17 : ((y_1.1 1) : Int32).toInt = ((-1) : Int32).toInt := congrArg Int32.toInt (by first | exact c_17 | exact Classical.not_not.mp c_17)
        have h_19 : rg (-1) (-1) (y_1.1 1) := rg_eq c_17 (rg_c (x := (-1)) (k := (-1)) (by decide))
        refine lv_iload_n hx hb dX12_mostOf_69 rfl (lv_at hl 0 rfl) ?_
        refine lv_istore_n (lv' := [(2, .int (y_1.1 0)), (3, .int (y_1.1 0)), (0, .ref (a 200)), (1, .int p0)]) hx hb dX12_mostOf_70 rfl hl (by decide) rfl (fun ls hl => ?_)
        obtain ⟨x_20, ex_20⟩ : ∃ y9 : Int32, y9 = (y_1.1 0) + 1 := ⟨_, rfl⟩
        have hx_20 : rg 1 9 x_20 := by rw [ex_20]; exact rg_add h_11 (rg_c (x := 1) (k := 1) (by decide)) (by decide) (by decide) (by decide) (by decide)
        have tx_20 : x_20.toInt = (y_1.1 0).toInt + 1 := by rw [ex_20]; exact inc_tk h_11 (by decide) (by decide) (by decide)
        refine lv_iinc (v := x_20) (lv' := [(3, .int x_20), (2, .int (y_1.1 0)), (0, .ref (a 200)), (1, .int p0)]) hx hb dX12_mostOf_71 hl (k := 1) rfl (by rw [ex_20]; rfl) (by decide) rfl (fun ls hl => ?_)
        refine lv_goto (tgt := 4) hx hb dX12_mostOf_74 (by decide) ?_
        exact ih_6 (fun k => [x_20, (y_1.1 0)].getD k 0, fun k => [].getD k (fun _ => 0), fun k => [].getD k (fun _ => 0), fun k => [].getD k 0) _ _ ls ⟨(m_upk me_7 tx_20 (by decide)), (rg_w (c := 0) (d := 9) hx_20 (by decide) (by decide)), (rg_w (c := (-1)) (d := 8) h_11 (by decide) (by decide)), (show 0 ≤ (y_1.1 0).toInt ∨ x_20.toInt ≤ (k0 : Int) from (by have zc1 : (-1 : Int32).toInt = -1 := (by decide); have zc0 : (0 : Int32).toInt = 0 := rfl; have zq : rg 0 9 (f201 5) := q201 5 (by decide); have zq1 := zq.1; have zq2 := zq.2; have r1_0 := (h_11).1; have r2_0 := (h_11).2; have r1_1 := (h_3).1; have r2_1 := (h_3).2; omega)), (show (y_1.1 0).toInt < (f201 5).toInt from (by have zc1 : (-1 : Int32).toInt = -1 := (by decide); have zc0 : (0 : Int32).toInt = 0 := rfl; have zq : rg 0 9 (f201 5) := q201 5 (by decide); have zq1 := zq.1; have zq2 := zq.2; have r1_0 := (h_11).1; have r2_0 := (h_11).2; have r1_1 := (h_3).1; have r2_1 := (h_3).2; omega)), hP, hS, (lv_sub hl [0, 1, 2, 3] rfl)⟩
      · skip
        have zc_21 : ((-1) : Int32).toInt = (-1) := by decide
        have tc_17 : ¬ ((y_1.1 1) : Int32).toInt = ((-1) : Int32).toInt := fun z9 => c_17 (Int32.toInt_inj.mp z9)
        have h_22 : rg 0 8 (y_1.1 1) := rg_w (rg_neL h_3 c_17 (by decide)) (by decide) (by decide)
        refine lv_aload_n hx hb dX12_mostOf_30 rfl (lv_at hl 2 rfl) ?_
        refine va_get (D := D) (ci := 12) (v := .ref (a 208)) (C := RX12) (T := TX12) (N := 40) hx hb hts iX12 hown hK hP 0 rfl rfl 20 (by decide) (hts _ m_1363) (fun _ h9 => h9) rfl dX12_mostOf_31 ?_
        refine lv_iload_n hx hb dX12_mostOf_34 rfl (lv_at hl 0 rfl) ?_
        refine va_iald hx hb hK hP 2 0 rfl rfl (in_rg h_11 (by decide) (by decide)) dX12_mostOf_35 ?_
        refine lv_topi (fun x_23 ex_23 => ?_)
        refine lv_aload_n hx hb dX12_mostOf_36 rfl (lv_at hl 2 rfl) ?_
        refine va_get (D := D) (ci := 12) (v := .ref (a 208)) (C := RX12) (T := TX12) (N := 40) hx hb hts iX12 hown hK hP 0 rfl rfl 20 (by decide) (hts _ m_1363) (fun _ h9 => h9) rfl dX12_mostOf_37 ?_
        refine lv_iload_n hx hb dX12_mostOf_40 rfl (lv_at hl 1 rfl) ?_
        refine va_iald hx hb hK hP 2 0 rfl rfl (in_rg h_22 (by decide) (by decide)) dX12_mostOf_41 ?_
        refine lv_topi (fun x_24 ex_24 => ?_)
        refine lv_icmp_gt (tgt := 69) hx hb dX12_mostOf_42 (by decide) (fun c_25 => ?_) (fun c_25 => ?_)
        · skip
          have tc_25 := t_lt c_25
          have h_26 : rg (-2147483647) 2147483647 x_23 := ⟨Int.le_trans (by decide) (c_ltR c_25 (rg_any x_24)), ((rg_any x_23)).2⟩
          have h_27 : rg (-2147483648) 2147483646 x_24 := ⟨((rg_any x_24)).1, Int.le_trans (c_lt c_25 (rg_any x_23)) (by decide)⟩
          refine lv_iload_n hx hb dX12_mostOf_69 rfl (lv_at hl 0 rfl) ?_
          refine lv_istore_n (lv' := [(2, .int (y_1.1 0)), (3, .int (y_1.1 0)), (0, .ref (a 200)), (1, .int p0)]) hx hb dX12_mostOf_70 rfl hl (by decide) rfl (fun ls hl => ?_)
          obtain ⟨x_28, ex_28⟩ : ∃ y9 : Int32, y9 = (y_1.1 0) + 1 := ⟨_, rfl⟩
          have hx_28 : rg 1 9 x_28 := by rw [ex_28]; exact rg_add h_11 (rg_c (x := 1) (k := 1) (by decide)) (by decide) (by decide) (by decide) (by decide)
          have tx_28 : x_28.toInt = (y_1.1 0).toInt + 1 := by rw [ex_28]; exact inc_tk h_11 (by decide) (by decide) (by decide)
          refine lv_iinc (v := x_28) (lv' := [(3, .int x_28), (2, .int (y_1.1 0)), (0, .ref (a 200)), (1, .int p0)]) hx hb dX12_mostOf_71 hl (k := 1) rfl (by rw [ex_28]; rfl) (by decide) rfl (fun ls hl => ?_)
          refine lv_goto (tgt := 4) hx hb dX12_mostOf_74 (by decide) ?_
          exact ih_6 (fun k => [x_28, (y_1.1 0)].getD k 0, fun k => [].getD k (fun _ => 0), fun k => [].getD k (fun _ => 0), fun k => [].getD k 0) _ _ ls ⟨(m_upk me_7 tx_28 (by decide)), (rg_w (c := 0) (d := 9) hx_28 (by decide) (by decide)), (rg_w (c := (-1)) (d := 8) h_11 (by decide) (by decide)), (show 0 ≤ (y_1.1 0).toInt ∨ x_28.toInt ≤ (k0 : Int) from (by have zc1 : (-1 : Int32).toInt = -1 := (by decide); have zc0 : (0 : Int32).toInt = 0 := rfl; have zq : rg 0 9 (f201 5) := q201 5 (by decide); have zq1 := zq.1; have zq2 := zq.2; have r1_0 := (h_11).1; have r2_0 := (h_11).2; have r1_1 := (h_3).1; have r2_1 := (h_3).2; omega)), (show (y_1.1 0).toInt < (f201 5).toInt from (by have zc1 : (-1 : Int32).toInt = -1 := (by decide); have zc0 : (0 : Int32).toInt = 0 := rfl; have zq : rg 0 9 (f201 5) := q201 5 (by decide); have zq1 := zq.1; have zq2 := zq.2; have r1_0 := (h_11).1; have r2_0 := (h_11).2; have r1_1 := (h_3).1; have r2_1 := (h_3).2; omega)), hP, hS, (lv_sub hl [0, 1, 2, 3] rfl)⟩
        · skip
          have tc_25 := t_nlt c_25
          refine lv_aload_n hx hb dX12_mostOf_45 rfl (lv_at hl 2 rfl) ?_
          refine va_get (D := D) (ci := 12) (v := .ref (a 208)) (C := RX12) (T := TX12) (N := 40) hx hb hts iX12 hown hK hP 0 rfl rfl 20 (by decide) (hts _ m_1363) (fun _ h9 => h9) rfl dX12_mostOf_46 ?_
          refine lv_iload_n hx hb dX12_mostOf_49 rfl (lv_at hl 0 rfl) ?_
          refine va_iald hx hb hK hP 2 0 rfl rfl (in_rg h_11 (by decide) (by decide)) dX12_mostOf_50 ?_
          refine lv_topi (fun x_29 ex_29 => ?_)
          refine lv_aload_n hx hb dX12_mostOf_51 rfl (lv_at hl 2 rfl) ?_
          refine va_get (D := D) (ci := 12) (v := .ref (a 208)) (C := RX12) (T := TX12) (N := 40) hx hb hts iX12 hown hK hP 0 rfl rfl 20 (by decide) (hts _ m_1363) (fun _ h9 => h9) rfl dX12_mostOf_52 ?_
          refine lv_iload_n hx hb dX12_mostOf_55 rfl (lv_at hl 1 rfl) ?_
          refine va_iald hx hb hK hP 2 0 rfl rfl (in_rg h_22 (by decide) (by decide)) dX12_mostOf_56 ?_
          refine lv_topi (fun x_30 ex_30 => ?_)
          refine lv_icmp_ne (tgt := 71) hx hb dX12_mostOf_57 (by decide) (fun c_31 => ?_) (fun c_31 => ?_)
          · skip
            have tc_31 : ¬ (x_29 : Int32).toInt = (x_30 : Int32).toInt := fun z9 => c_31 (Int32.toInt_inj.mp z9)
            obtain ⟨x_32, ex_32⟩ : ∃ y9 : Int32, y9 = (y_1.1 0) + 1 := ⟨_, rfl⟩
            have hx_32 : rg 1 9 x_32 := by rw [ex_32]; exact rg_add h_11 (rg_c (x := 1) (k := 1) (by decide)) (by decide) (by decide) (by decide) (by decide)
            have tx_32 : x_32.toInt = (y_1.1 0).toInt + 1 := by rw [ex_32]; exact inc_tk h_11 (by decide) (by decide) (by decide)
            refine lv_iinc (v := x_32) (lv' := [(3, .int x_32), (2, .int (y_1.1 1)), (0, .ref (a 200)), (1, .int p0)]) hx hb dX12_mostOf_71 hl (k := 0) rfl (by rw [ex_32]; rfl) (by decide) rfl (fun ls hl => ?_)
            refine lv_goto (tgt := 4) hx hb dX12_mostOf_74 (by decide) ?_
            exact ih_6 (fun k => [x_32, (y_1.1 1)].getD k 0, fun k => [].getD k (fun _ => 0), fun k => [].getD k (fun _ => 0), fun k => [].getD k 0) _ _ ls ⟨(m_upk me_7 tx_32 (by decide)), (rg_w (c := 0) (d := 9) hx_32 (by decide) (by decide)), (rg_w (c := (-1)) (d := 8) h_22 (by decide) (by decide)), (show 0 ≤ (y_1.1 1).toInt ∨ x_32.toInt ≤ (k0 : Int) from (by have zc1 : (-1 : Int32).toInt = -1 := (by decide); have zc0 : (0 : Int32).toInt = 0 := rfl; have zq : rg 0 9 (f201 5) := q201 5 (by decide); have zq1 := zq.1; have zq2 := zq.2; have r1_0 := (h_22).1; have r2_0 := (h_22).2; have r1_1 := (h_3).1; have r2_1 := (h_3).2; omega)), (show (y_1.1 1).toInt < (f201 5).toInt from (by have zc1 : (-1 : Int32).toInt = -1 := (by decide); have zc0 : (0 : Int32).toInt = 0 := rfl; have zq : rg 0 9 (f201 5) := q201 5 (by decide); have zq1 := zq.1; have zq2 := zq.2; have r1_0 := (h_22).1; have r2_0 := (h_22).2; have r1_1 := (h_3).1; have r2_1 := (h_3).2; omega)), hP, hS, (lv_sub hl [0, 1, 2, 3] rfl)⟩
          · skip
            have tc_31 : (x_29 : Int32).toInt = (x_30 : Int32).toInt := congrArg Int32.toInt (by first | exact c_31 | exact Classical.not_not.mp c_31)
            refine lv_aload_n hx hb dX12_mostOf_60 rfl (lv_at hl 2 rfl) ?_
            refine lv_iload_n hx hb dX12_mostOf_61 rfl (lv_at hl 0 rfl) ?_
            refine lv_iload_n hx hb dX12_mostOf_62 rfl (lv_at hl 1 rfl) ?_
            refine y_pV hF (s_X12_isLonger l D t a v200_0 v200_5 v200_7 v200_8 v200_9 v200_10 v200_11 v200_12 v200_13 v200_15 v200_17 v200_18 v200_19 v200_21 v200_23 v200_27 v200_28 v200_29 v200_33 v200_34 v200_35 f201 (y_1.1 0) (y_1.1 1) r200_5 r200_7 r200_8 r200_9 r200_23 q201 h_11 h_22) m_1687 m_1689 m_s71 m_13 m_1690 hd_X12_isLonger ⟨Nat.le_of_ble_eq_true rfl, Nat.le_of_ble_eq_true rfl⟩ hK hN hP hS [0, 1] rfl 0 (ci := 12) rfl rfl rfl hl.1 rfl (Nat.le_of_ble_eq_true rfl) dX12_mostOf_63 ⟨Nat.zero_le _, Nat.zero_le _⟩ (fun r_33 H locs hr_33 hP hS => ?_)
            refine lv_if_eq (tgt := 71) hx hb dX12_mostOf_66 (by decide) (fun c_34 => ?_) (fun c_34 => ?_)
            · skip
              have zc_35 : (0 : Int32).toInt = 0 := rfl
              have tc_34 : (r_33 : Int32).toInt = (0 : Int32).toInt := congrArg Int32.toInt (by first | exact c_34 | exact Classical.not_not.mp c_34)
              have h_36 : rg 0 0 r_33 := rg_eq c_34 (rg_c (x := 0) (k := 0) (by decide))
              obtain ⟨x_37, ex_37⟩ : ∃ y9 : Int32, y9 = (y_1.1 0) + 1 := ⟨_, rfl⟩
              have hx_37 : rg 1 9 x_37 := by rw [ex_37]; exact rg_add h_11 (rg_c (x := 1) (k := 1) (by decide)) (by decide) (by decide) (by decide) (by decide)
              have tx_37 : x_37.toInt = (y_1.1 0).toInt + 1 := by rw [ex_37]; exact inc_tk h_11 (by decide) (by decide) (by decide)
              refine lv_iinc (v := x_37) (lv' := [(3, .int x_37), (2, .int (y_1.1 1)), (0, .ref (a 200)), (1, .int p0)]) hx hb dX12_mostOf_71 hl (k := 0) rfl (by rw [ex_37]; rfl) (by decide) rfl (fun ls hl => ?_)
              refine lv_goto (tgt := 4) hx hb dX12_mostOf_74 (by decide) ?_
              exact ih_6 (fun k => [x_37, (y_1.1 1)].getD k 0, fun k => [].getD k (fun _ => 0), fun k => [].getD k (fun _ => 0), fun k => [].getD k 0) _ _ ls ⟨(m_upk me_7 tx_37 (by decide)), (rg_w (c := 0) (d := 9) hx_37 (by decide) (by decide)), (rg_w (c := (-1)) (d := 8) h_22 (by decide) (by decide)), (show 0 ≤ (y_1.1 1).toInt ∨ x_37.toInt ≤ (k0 : Int) from (by have zc1 : (-1 : Int32).toInt = -1 := (by decide); have zc0 : (0 : Int32).toInt = 0 := rfl; have zq : rg 0 9 (f201 5) := q201 5 (by decide); have zq1 := zq.1; have zq2 := zq.2; have r1_0 := (h_22).1; have r2_0 := (h_22).2; have r1_1 := (h_3).1; have r2_1 := (h_3).2; omega)), (show (y_1.1 1).toInt < (f201 5).toInt from (by have zc1 : (-1 : Int32).toInt = -1 := (by decide); have zc0 : (0 : Int32).toInt = 0 := rfl; have zq : rg 0 9 (f201 5) := q201 5 (by decide); have zq1 := zq.1; have zq2 := zq.2; have r1_0 := (h_22).1; have r2_0 := (h_22).2; have r1_1 := (h_3).1; have r2_1 := (h_3).2; omega)), hP, hS, (lv_sub hl [0, 1, 2, 3] rfl)⟩
            · skip
              have zc_38 : (0 : Int32).toInt = 0 := rfl
              have tc_34 : ¬ (r_33 : Int32).toInt = (0 : Int32).toInt := fun z9 => c_34 (Int32.toInt_inj.mp z9)
              have h_39 : rg 1 1 r_33 := rg_w (rg_neL hr_33 c_34 (by decide)) (by decide) (by decide)
              refine lv_iload_n hx hb dX12_mostOf_69 rfl (lv_at hl 0 rfl) ?_
              refine lv_istore_n (lv' := [(2, .int (y_1.1 0)), (3, .int (y_1.1 0)), (0, .ref (a 200)), (1, .int p0)]) hx hb dX12_mostOf_70 rfl hl (by decide) rfl (fun ls hl => ?_)
              obtain ⟨x_40, ex_40⟩ : ∃ y9 : Int32, y9 = (y_1.1 0) + 1 := ⟨_, rfl⟩
              have hx_40 : rg 1 9 x_40 := by rw [ex_40]; exact rg_add h_11 (rg_c (x := 1) (k := 1) (by decide)) (by decide) (by decide) (by decide) (by decide)
              have tx_40 : x_40.toInt = (y_1.1 0).toInt + 1 := by rw [ex_40]; exact inc_tk h_11 (by decide) (by decide) (by decide)
              refine lv_iinc (v := x_40) (lv' := [(3, .int x_40), (2, .int (y_1.1 0)), (0, .ref (a 200)), (1, .int p0)]) hx hb dX12_mostOf_71 hl (k := 1) rfl (by rw [ex_40]; rfl) (by decide) rfl (fun ls hl => ?_)
              refine lv_goto (tgt := 4) hx hb dX12_mostOf_74 (by decide) ?_
              exact ih_6 (fun k => [x_40, (y_1.1 0)].getD k 0, fun k => [].getD k (fun _ => 0), fun k => [].getD k (fun _ => 0), fun k => [].getD k 0) _ _ ls ⟨(m_upk me_7 tx_40 (by decide)), (rg_w (c := 0) (d := 9) hx_40 (by decide) (by decide)), (rg_w (c := (-1)) (d := 8) h_11 (by decide) (by decide)), (show 0 ≤ (y_1.1 0).toInt ∨ x_40.toInt ≤ (k0 : Int) from (by have zc1 : (-1 : Int32).toInt = -1 := (by decide); have zc0 : (0 : Int32).toInt = 0 := rfl; have zq : rg 0 9 (f201 5) := q201 5 (by decide); have zq1 := zq.1; have zq2 := zq.2; have r1_0 := (h_11).1; have r2_0 := (h_11).2; have r1_1 := (h_3).1; have r2_1 := (h_3).2; omega)), (show (y_1.1 0).toInt < (f201 5).toInt from (by have zc1 : (-1 : Int32).toInt = -1 := (by decide); have zc0 : (0 : Int32).toInt = 0 := rfl; have zq : rg 0 9 (f201 5) := q201 5 (by decide); have zq1 := zq.1; have zq2 := zq.2; have r1_0 := (h_11).1; have r2_0 := (h_11).2; have r1_1 := (h_3).1; have r2_1 := (h_3).2; omega)), hP, hS, (lv_sub hl [0, 1, 2, 3] rfl)⟩
    · skip
      have zc_41 : (0 : Int32).toInt = 0 := rfl
      have tc_14 : (r_13 : Int32).toInt = (0 : Int32).toInt := congrArg Int32.toInt (by first | exact c_14 | exact Classical.not_not.mp c_14)
      have h_42 : rg 0 0 r_13 := rg_eq c_14 (rg_c (x := 0) (k := 0) (by decide))
      have nk : ¬ (y_1.1 0).toInt = (k0 : Int) := nzk hk0 or_13 tc_14 hk2
      refine lv_goto (tgt := 71) hx hb dX12_mostOf_22 (by decide) ?_
      obtain ⟨x_43, ex_43⟩ : ∃ y9 : Int32, y9 = (y_1.1 0) + 1 := ⟨_, rfl⟩
      have hx_43 : rg 1 9 x_43 := by rw [ex_43]; exact rg_add h_11 (rg_c (x := 1) (k := 1) (by decide)) (by decide) (by decide) (by decide) (by decide)
      have tx_43 : x_43.toInt = (y_1.1 0).toInt + 1 := by rw [ex_43]; exact inc_tk h_11 (by decide) (by decide) (by decide)
      refine lv_iinc (v := x_43) (lv' := [(3, .int x_43), (2, .int (y_1.1 1)), (0, .ref (a 200)), (1, .int p0)]) hx hb dX12_mostOf_71 hl (k := 0) rfl (by rw [ex_43]; rfl) (by decide) rfl (fun ls hl => ?_)
      refine lv_goto (tgt := 4) hx hb dX12_mostOf_74 (by decide) ?_
      exact ih_6 (fun k => [x_43, (y_1.1 1)].getD k 0, fun k => [].getD k (fun _ => 0), fun k => [].getD k (fun _ => 0), fun k => [].getD k 0) _ _ ls ⟨(m_upk me_7 tx_43 (by decide)), (rg_w (c := 0) (d := 9) hx_43 (by decide) (by decide)), h_3, (show 0 ≤ (y_1.1 1).toInt ∨ x_43.toInt ≤ (k0 : Int) from (by have zc1 : (-1 : Int32).toInt = -1 := (by decide); have zc0 : (0 : Int32).toInt = 0 := rfl; have zq : rg 0 9 (f201 5) := q201 5 (by decide); have zq1 := zq.1; have zq2 := zq.2; have r1_0 := (h_3).1; have r2_0 := (h_3).2; have r1_1 := (h_3).1; have r2_1 := (h_3).2; omega)), (show (y_1.1 1).toInt < (f201 5).toInt from (by have zc1 : (-1 : Int32).toInt = -1 := (by decide); have zc0 : (0 : Int32).toInt = 0 := rfl; have zq : rg 0 9 (f201 5) := q201 5 (by decide); have zq1 := zq.1; have zq2 := zq.2; have r1_0 := (h_3).1; have r2_0 := (h_3).2; have r1_1 := (h_3).1; have r2_1 := (h_3).2; omega)), hP, hS, (lv_sub hl [0, 1, 2, 3] rfl)⟩

set_option maxHeartbeats 4000000 in
set_option maxRecDepth 100000 in
theorem s_X12_strikes (l : Launch) (D : va_G) (t : Nat → ClassId) (a : Nat → Nat) (v200_0 : Int32) (v200_5 : Int32) (v200_7 : Int32) (v200_8 : Int32) (v200_9 : Int32) (v200_10 : Int32) (v200_11 : Int32) (v200_12 : Int32) (v200_13 : Int32) (v200_15 : Int32) (v200_17 : Int32) (v200_18 : Int32) (v200_19 : Int32) (v200_21 : Int32) (v200_23 : Int32) (v200_27 : Int32) (v200_28 : Int32) (v200_29 : Int32) (v200_33 : Int32) (v200_34 : Int32) (v200_35 : Int32) (f201 : Nat → Int32) (f207 : Nat → Int32) (f208 : Nat → Int32) (f209 : Nat → Int32) (p0 : Int32) (p1 : Int32) (r200_5 : rg 0 1600 v200_5) (r200_7 : rg 0 1600 v200_7) (r200_8 : rg 0 1600 v200_8) (r200_9 : rg 0 1600 v200_9) (r200_23 : rg 0 9 v200_23) (q201 : wR f201) (hw0 : lo9 (f201 5) p1) (hw1 : ¬ p1 = 0) (sz : Nat) : Met l yX12_strikes (wd yX12_strikes cX12_strikes 7 (some .int)) (RM 5 0 0) (PreW D (TY t) [.ref (a 200), .int p0, .int p1] [(a 200, .inr (12, .int v200_0 :: .ref (a 201) :: .ref (a 202) :: .ref (a 203) :: .ref (a 204) :: .int v200_5 :: .ref (a 205) :: .int v200_7 :: .int v200_8 :: .int v200_9 :: .int v200_10 :: .int v200_11 :: .int v200_12 :: .int v200_13 :: .ref (a 206) :: .int v200_15 :: .ref (a 207) :: .int v200_17 :: .int v200_18 :: .int v200_19 :: .ref (a 208) :: .int v200_21 :: .ref (a 209) :: .int v200_23 :: .ref (a 210) :: .ref (a 211) :: .ref (a 212) :: .int v200_27 :: .int v200_28 :: .int v200_29 :: .ref (a 213) :: .ref (a 214) :: .ref (a 215) :: .int v200_33 :: .int v200_34 :: .int v200_35 :: .ref (a 216) :: .ref (a 217) :: .ref (a 218) :: .ref (a 219) :: [])), (a 201, .inl (t 0, 841, .inl f201)), (a 207, .inl (t 0, 9, .inl f207)), (a 208, .inl (t 0, 9, .inl f208)), (a 209, .inl (t 0, 9, .inl f209))] sz) (va_Qi (fun (r : Int32) (u : US) => rg 0 8 r ∧ rg 0 9 (u.1 1)) (fun (u : US) t9 => va_P D classes ((fun u : US => [(a 200, .inr (12, .int v200_0 :: .ref (a 201) :: .ref (a 202) :: .ref (a 203) :: .ref (a 204) :: .int v200_5 :: .ref (a 205) :: .int v200_7 :: .int v200_8 :: .int v200_9 :: .int v200_10 :: .int v200_11 :: .int v200_12 :: .int v200_13 :: .ref (a 206) :: .int v200_15 :: .ref (a 207) :: .int v200_17 :: .int v200_18 :: .int v200_19 :: .ref (a 208) :: .int (u.1 0) :: .ref (a 209) :: .int (u.1 1) :: .ref (a 210) :: .ref (a 211) :: .ref (a 212) :: .int v200_27 :: .int v200_28 :: .int v200_29 :: .ref (a 213) :: .ref (a 214) :: .ref (a 215) :: .int v200_33 :: .int v200_34 :: .int v200_35 :: .ref (a 216) :: .ref (a 217) :: .ref (a 218) :: .ref (a 219) :: [])), (a 201, .inl (t 0, 841, .inl f201)), (a 207, .inl (t 0, 9, .inl f207)), (a 208, .inl (t 0, 9, .inl (u.2.1 0))), (a 209, .inl (t 0, 9, .inl (u.2.1 1)))]) u) t9.heap ∧ va_D (va_A [(a 200, .inr (12, .int v200_0 :: .ref (a 201) :: .ref (a 202) :: .ref (a 203) :: .ref (a 204) :: .int v200_5 :: .ref (a 205) :: .int v200_7 :: .int v200_8 :: .int v200_9 :: .int v200_10 :: .int v200_11 :: .int v200_12 :: .int v200_13 :: .ref (a 206) :: .int v200_15 :: .ref (a 207) :: .int v200_17 :: .int v200_18 :: .int v200_19 :: .ref (a 208) :: .int v200_21 :: .ref (a 209) :: .int v200_23 :: .ref (a 210) :: .ref (a 211) :: .ref (a 212) :: .int v200_27 :: .int v200_28 :: .int v200_29 :: .ref (a 213) :: .ref (a 214) :: .ref (a 215) :: .int v200_33 :: .int v200_34 :: .int v200_35 :: .ref (a 216) :: .ref (a 217) :: .ref (a 218) :: .ref (a 219) :: [])), (a 201, .inl (t 0, 841, .inl f201)), (a 207, .inl (t 0, 9, .inl f207)), (a 208, .inl (t 0, 9, .inl f208)), (a 209, .inl (t 0, 9, .inl f209))] sz) ((fun u : US => [(a 200, .inr (12, .int v200_0 :: .ref (a 201) :: .ref (a 202) :: .ref (a 203) :: .ref (a 204) :: .int v200_5 :: .ref (a 205) :: .int v200_7 :: .int v200_8 :: .int v200_9 :: .int v200_10 :: .int v200_11 :: .int v200_12 :: .int v200_13 :: .ref (a 206) :: .int v200_15 :: .ref (a 207) :: .int v200_17 :: .int v200_18 :: .int v200_19 :: .ref (a 208) :: .int (u.1 0) :: .ref (a 209) :: .int (u.1 1) :: .ref (a 210) :: .ref (a 211) :: .ref (a 212) :: .int v200_27 :: .int v200_28 :: .int v200_29 :: .ref (a 213) :: .ref (a 214) :: .ref (a 215) :: .int v200_33 :: .int v200_34 :: .int v200_35 :: .ref (a 216) :: .ref (a 217) :: .ref (a 218) :: .ref (a 219) :: [])), (a 201, .inl (t 0, 841, .inl f201)), (a 207, .inl (t 0, 9, .inl f207)), (a 208, .inl (t 0, 9, .inl (u.2.1 0))), (a 209, .inl (t 0, 9, .inl (u.2.1 1)))]) u)) (va_A [(a 200, .inr (12, .int v200_0 :: .ref (a 201) :: .ref (a 202) :: .ref (a 203) :: .ref (a 204) :: .int v200_5 :: .ref (a 205) :: .int v200_7 :: .int v200_8 :: .int v200_9 :: .int v200_10 :: .int v200_11 :: .int v200_12 :: .int v200_13 :: .ref (a 206) :: .int v200_15 :: .ref (a 207) :: .int v200_17 :: .int v200_18 :: .int v200_19 :: .ref (a 208) :: .int v200_21 :: .ref (a 209) :: .int v200_23 :: .ref (a 210) :: .ref (a 211) :: .ref (a 212) :: .int v200_27 :: .int v200_28 :: .int v200_29 :: .ref (a 213) :: .ref (a 214) :: .ref (a 215) :: .int v200_33 :: .int v200_34 :: .int v200_35 :: .ref (a 216) :: .ref (a 217) :: .ref (a 218) :: .ref (a 219) :: [])), (a 201, .inl (t 0, 841, .inl f201)), (a 207, .inl (t 0, 9, .inl f207)), (a 208, .inl (t 0, 9, .inl f208)), (a 209, .inl (t 0, 9, .inl f209))] sz)) 0 0 (va_A [(a 200, .inr (12, .int v200_0 :: .ref (a 201) :: .ref (a 202) :: .ref (a 203) :: .ref (a 204) :: .int v200_5 :: .ref (a 205) :: .int v200_7 :: .int v200_8 :: .int v200_9 :: .int v200_10 :: .int v200_11 :: .int v200_12 :: .int v200_13 :: .ref (a 206) :: .int v200_15 :: .ref (a 207) :: .int v200_17 :: .int v200_18 :: .int v200_19 :: .ref (a 208) :: .int v200_21 :: .ref (a 209) :: .int v200_23 :: .ref (a 210) :: .ref (a 211) :: .ref (a 212) :: .int v200_27 :: .int v200_28 :: .int v200_29 :: .ref (a 213) :: .ref (a 214) :: .ref (a 215) :: .int v200_33 :: .int v200_34 :: .int v200_35 :: .ref (a 216) :: .ref (a 217) :: .ref (a 218) :: .ref (a 219) :: [])), (a 201, .inl (t 0, 841, .inl f201)), (a 207, .inl (t 0, 9, .inl f207)), (a 208, .inl (t 0, 9, .inl f208)), (a 209, .inl (t 0, 9, .inl f209))] sz) := by
  refine Met.ofW (cc := cX12_strikes) (maxL := 7) (ret := (some .int)) (by decide) rfl ?_
  intro p e s m args below meth c s₁ B hml hv
  obtain ⟨rfl, hsz, hP, hK, hD0, hN⟩ := hv
  have hx := B.exec
  have hb := B.bytes
  have hr := B.returns
  have hts : ∀ w ∈ TB, w.before _ s = true := fun w h => atoms_spec (ws := wd yX12_strikes cX12_strikes 7 (some .int)) B.pre w (List.mem_cons_of_mem _ h)
  have hown : s.vm.findClass RX12 = some m.cls := findClass_of_methodNamed B.named
  have hlocks := B.notSynchronized
  have hF : CallFix p m c cX12_strikes 7 s _ TB RX12 := ⟨hx, hb, hml, hown, hts⟩
  have hl := lv_entry ([.ref (a 200), .int p0, .int p1]) (n := 7) (Nat.le_of_ble_eq_true rfl)
  rw [lg_entry_eq]
  generalize (lg_sl ([.ref (a 200), .int p0, .int p1]) ++ List.replicate (7 - (lg_sl ([.ref (a 200), .int p0, .int p1])).length) Slot.unset).toArray = ls at hl ⊢
  have hl : lv_has ls 7 [(0, .ref (a 200)), (1, .int p0), (2, .int p1)] := hl
  subst hsz
  have hD := hD0.self (sz := s.heap.size)
  generalize hAe : va_A [(a 200, .inr (12, .int v200_0 :: .ref (a 201) :: .ref (a 202) :: .ref (a 203) :: .ref (a 204) :: .int v200_5 :: .ref (a 205) :: .int v200_7 :: .int v200_8 :: .int v200_9 :: .int v200_10 :: .int v200_11 :: .int v200_12 :: .int v200_13 :: .ref (a 206) :: .int v200_15 :: .ref (a 207) :: .int v200_17 :: .int v200_18 :: .int v200_19 :: .ref (a 208) :: .int v200_21 :: .ref (a 209) :: .int v200_23 :: .ref (a 210) :: .ref (a 211) :: .ref (a 212) :: .int v200_27 :: .int v200_28 :: .int v200_29 :: .ref (a 213) :: .ref (a 214) :: .ref (a 215) :: .int v200_33 :: .int v200_34 :: .int v200_35 :: .ref (a 216) :: .ref (a 217) :: .ref (a 218) :: .ref (a 219) :: [])), (a 201, .inl (t 0, 841, .inl f201)), (a 207, .inl (t 0, 9, .inl f207)), (a 208, .inl (t 0, 9, .inl f208)), (a 209, .inl (t 0, 9, .inl f209))] s.heap.size = A at hD ⊢
  have hA : ∀ q : Nat, s.heap.size ≤ q → A q := fun q h => by rw [← hAe]; exact Or.inr h
  have hS : va_S A s.heap s.heap [] := va_S.rf
  have hP : va_P D classes [(a 200, .inr (12, .int v200_0 :: .ref (a 201) :: .ref (a 202) :: .ref (a 203) :: .ref (a 204) :: .int v200_5 :: .ref (a 205) :: .int v200_7 :: .int v200_8 :: .int v200_9 :: .int v200_10 :: .int v200_11 :: .int v200_12 :: .int v200_13 :: .ref (a 206) :: .int v200_15 :: .ref (a 207) :: .int v200_17 :: .int v200_18 :: .int v200_19 :: .ref (a 208) :: .int v200_21 :: .ref (a 209) :: .int v200_23 :: .ref (a 210) :: .ref (a 211) :: .ref (a 212) :: .int v200_27 :: .int v200_28 :: .int v200_29 :: .ref (a 213) :: .ref (a 214) :: .ref (a 215) :: .int v200_33 :: .int v200_34 :: .int v200_35 :: .ref (a 216) :: .ref (a 217) :: .ref (a 218) :: .ref (a 219) :: [])), (a 201, .inl (t 0, 841, .inl f201)), (a 207, .inl (t 0, 9, .inl f207)), (a 208, .inl (t 0, 9, .inl f208)), (a 209, .inl (t 0, 9, .inl f209))] s.heap := hP
  refine lv_iload_n hx hb dX12_strikes_0 rfl (lv_at hl 2 rfl) ?_
  refine lv_istore_n (lv' := [(3, .int p1), (0, .ref (a 200)), (1, .int p0), (2, .int p1)]) hx hb dX12_strikes_1 rfl hl (by decide) rfl (fun ls hl => ?_)
  refine lv_aload_n hx hb dX12_strikes_2 rfl (lv_at hl 1 rfl) ?_
  refine lv_iconst (v := 0) hx hb dX12_strikes_3 (by decide) ?_
  refine va_put (D := D) (ci := 12) (v := .int 0) (ty := .int) (C := RX12) (T := TX12) (N := 40) hx hb hts iX12 tyX12 tyX12_ok nmX12 hown hK hP hD hS 0 rfl rfl 23 (by decide) (hts _ m_1366) (fun _ h9 => h9) rfl (tyX12_ok 23 (by decide)) rfl rfl (Nat.le_of_ble_eq_true rfl) dX12_strikes_4 (fun H locs hP hD hS => ?_)
  have hP : va_P D classes [(a 200, .inr (12, .int v200_0 :: .ref (a 201) :: .ref (a 202) :: .ref (a 203) :: .ref (a 204) :: .int v200_5 :: .ref (a 205) :: .int v200_7 :: .int v200_8 :: .int v200_9 :: .int v200_10 :: .int v200_11 :: .int v200_12 :: .int v200_13 :: .ref (a 206) :: .int v200_15 :: .ref (a 207) :: .int v200_17 :: .int v200_18 :: .int v200_19 :: .ref (a 208) :: .int v200_21 :: .ref (a 209) :: .int 0 :: .ref (a 210) :: .ref (a 211) :: .ref (a 212) :: .int v200_27 :: .int v200_28 :: .int v200_29 :: .ref (a 213) :: .ref (a 214) :: .ref (a 215) :: .int v200_33 :: .int v200_34 :: .int v200_35 :: .ref (a 216) :: .ref (a 217) :: .ref (a 218) :: .ref (a 219) :: [])), (a 201, .inl (t 0, 841, .inl f201)), (a 207, .inl (t 0, 9, .inl f207)), (a 208, .inl (t 0, 9, .inl f208)), (a 209, .inl (t 0, 9, .inl f209))] H := hP
  have hD : va_D A [(a 200, .inr (12, .int v200_0 :: .ref (a 201) :: .ref (a 202) :: .ref (a 203) :: .ref (a 204) :: .int v200_5 :: .ref (a 205) :: .int v200_7 :: .int v200_8 :: .int v200_9 :: .int v200_10 :: .int v200_11 :: .int v200_12 :: .int v200_13 :: .ref (a 206) :: .int v200_15 :: .ref (a 207) :: .int v200_17 :: .int v200_18 :: .int v200_19 :: .ref (a 208) :: .int v200_21 :: .ref (a 209) :: .int 0 :: .ref (a 210) :: .ref (a 211) :: .ref (a 212) :: .int v200_27 :: .int v200_28 :: .int v200_29 :: .ref (a 213) :: .ref (a 214) :: .ref (a 215) :: .int v200_33 :: .int v200_34 :: .int v200_35 :: .ref (a 216) :: .ref (a 217) :: .ref (a 218) :: .ref (a 219) :: [])), (a 201, .inl (t 0, 841, .inl f201)), (a 207, .inl (t 0, 9, .inl f207)), (a 208, .inl (t 0, 9, .inl f208)), (a 209, .inl (t 0, 9, .inl f209))] := hD
  refine loopW (α := US) (fun n y_1 H locs ls => pcn (y_1.1 0) < (n : Int) ∧ rg 0 8 (y_1.1 2) ∧ (lo9 (f201 5) (y_1.1 0)) ∧ (1 ≤ pcn (y_1.1 0)) ∧ ((y_1.1 2).toInt + pcn (y_1.1 0) ≤ 9) ∧ va_P D classes [(a 200, .inr (12, .int v200_0 :: .ref (a 201) :: .ref (a 202) :: .ref (a 203) :: .ref (a 204) :: .int v200_5 :: .ref (a 205) :: .int v200_7 :: .int v200_8 :: .int v200_9 :: .int v200_10 :: .int v200_11 :: .int v200_12 :: .int v200_13 :: .ref (a 206) :: .int v200_15 :: .ref (a 207) :: .int v200_17 :: .int v200_18 :: .int v200_19 :: .ref (a 208) :: .int (y_1.1 1) :: .ref (a 209) :: .int (y_1.1 2) :: .ref (a 210) :: .ref (a 211) :: .ref (a 212) :: .int v200_27 :: .int v200_28 :: .int v200_29 :: .ref (a 213) :: .ref (a 214) :: .ref (a 215) :: .int v200_33 :: .int v200_34 :: .int v200_35 :: .ref (a 216) :: .ref (a 217) :: .ref (a 218) :: .ref (a 219) :: [])), (a 201, .inl (t 0, 841, .inl f201)), (a 207, .inl (t 0, 9, .inl f207)), (a 208, .inl (t 0, 9, .inl (y_1.2.1 0))), (a 209, .inl (t 0, 9, .inl (y_1.2.1 1)))] H ∧ va_D A [(a 200, .inr (12, .int v200_0 :: .ref (a 201) :: .ref (a 202) :: .ref (a 203) :: .ref (a 204) :: .int v200_5 :: .ref (a 205) :: .int v200_7 :: .int v200_8 :: .int v200_9 :: .int v200_10 :: .int v200_11 :: .int v200_12 :: .int v200_13 :: .ref (a 206) :: .int v200_15 :: .ref (a 207) :: .int v200_17 :: .int v200_18 :: .int v200_19 :: .ref (a 208) :: .int (y_1.1 1) :: .ref (a 209) :: .int (y_1.1 2) :: .ref (a 210) :: .ref (a 211) :: .ref (a 212) :: .int v200_27 :: .int v200_28 :: .int v200_29 :: .ref (a 213) :: .ref (a 214) :: .ref (a 215) :: .int v200_33 :: .int v200_34 :: .int v200_35 :: .ref (a 216) :: .ref (a 217) :: .ref (a 218) :: .ref (a 219) :: [])), (a 201, .inl (t 0, 841, .inl f201)), (a 207, .inl (t 0, 9, .inl f207)), (a 208, .inl (t 0, 9, .inl (y_1.2.1 0))), (a 209, .inl (t 0, 9, .inl (y_1.2.1 1)))] ∧ va_S A s.heap H locs ∧ lv_has ls 7 [(3, .int (y_1.1 0)), (0, .ref (a 200)), (1, .int p0), (2, .int p1)]) 7 (fun y_1 => []) (fun _ _ _ _ h9 => pcn_0 h9.1) (fun n_8 ih_6 y_1 H locs ls hI => ?_) 10 (fun k => [p1, v200_21, 0].getD k 0, fun k => [f208, f209].getD k (fun _ => 0), fun k => [].getD k (fun _ => 0), fun k => [].getD k 0) ⟨(show pcn p1 < ((10 : Nat) : Int) from (by have := (pcn_rg p1).2; omega)), (rg_w (c := 0) (d := 8) (rg_c (x := 0) (k := 0) (by decide)) (by decide) (by decide)), (show lo9 (f201 5) p1 from hw0), (show 1 ≤ pcn p1 from (pcn_1 (q201 5 (by decide)) hw0 hw1)), (show (0 : Int32).toInt + pcn p1 ≤ 9 from (by have zc0 : (0 : Int32).toInt = 0 := rfl; have o1 := (pcn_rg p1).2; omega)), hP, hD, hS, (lv_sub hl [0, 1, 2, 3] rfl)⟩
  obtain ⟨me_7, h_2, i_3, i_4, i_5, hP, hD, hS, hl⟩ := hI
  obtain ⟨k_9, k_9a, k_9b, k_9c⟩ := nz_of (n := (f201 5)) (q201 5 (by decide)) i_3 (pcn_nz i_4)
  refine lv_aload_n hx hb dX12_strikes_7 rfl (lv_at hl 1 rfl) ?_
  refine lv_iload_n hx hb dX12_strikes_8 rfl (lv_at hl 2 rfl) ?_
  refine lv_iload_n hx hb dX12_strikes_9 rfl (lv_at hl 0 rfl) ?_
  refine lv_iconst (v := 0) hx hb dX12_strikes_10 (by decide) ?_
  refine y_wV (wr := [(a 209, .inl (t 0, 9, .inl (y_1.2.1 1)))]) hF (s_X12_count l D t a v200_0 v200_5 v200_7 v200_8 v200_9 v200_10 v200_11 v200_12 v200_13 v200_15 v200_17 v200_18 v200_19 (y_1.1 1) (y_1.1 2) v200_27 v200_28 v200_29 v200_33 v200_34 v200_35 f201 f207 (y_1.2.1 0) p0 (y_1.1 0) 0 r200_5 r200_7 r200_8 r200_9 (rg_w (c := 0) (d := 9) h_2 (by decide) (by decide)) q201 (rg_w (c := 0) (d := 1) (rg_c (x := 0) (k := 0) (by decide)) (by decide) (by decide)) H.size) m_1695 m_1697 m_s72 m_13 m_1698 hd_X12_count ⟨Nat.le_of_ble_eq_true rfl, Nat.le_of_ble_eq_true rfl⟩ hK hN hP hD hS hA 0 (ci := 12) rfl rfl rfl [0, 1, 2, 3] [4] rfl rfl (by decide) (by decide) (by decide) hl.1 rfl (Nat.le_of_ble_eq_true rfl) dX12_strikes_11 ⟨Nat.zero_le _, Nat.zero_le _⟩ (fun u_10 H locs hu_10 hP hD hS => ?_)
  have hP : va_P D classes [(a 209, .inl (t 0, 9, .inl (y_1.2.1 1))), (a 200, .inr (12, .int v200_0 :: .ref (a 201) :: .ref (a 202) :: .ref (a 203) :: .ref (a 204) :: .int v200_5 :: .ref (a 205) :: .int v200_7 :: .int v200_8 :: .int v200_9 :: .int v200_10 :: .int v200_11 :: .int v200_12 :: .int v200_13 :: .ref (a 206) :: .int v200_15 :: .ref (a 207) :: .int v200_17 :: .int v200_18 :: .int v200_19 :: .ref (a 208) :: .int (u_10.1 0) :: .ref (a 209) :: .int (y_1.1 2) :: .ref (a 210) :: .ref (a 211) :: .ref (a 212) :: .int v200_27 :: .int v200_28 :: .int v200_29 :: .ref (a 213) :: .ref (a 214) :: .ref (a 215) :: .int v200_33 :: .int v200_34 :: .int v200_35 :: .ref (a 216) :: .ref (a 217) :: .ref (a 218) :: .ref (a 219) :: [])), (a 201, .inl (t 0, 841, .inl f201)), (a 207, .inl (t 0, 9, .inl f207)), (a 208, .inl (t 0, 9, .inl (u_10.2.1 0)))] H := hP
  have hD : va_D A [(a 209, .inl (t 0, 9, .inl (y_1.2.1 1))), (a 200, .inr (12, .int v200_0 :: .ref (a 201) :: .ref (a 202) :: .ref (a 203) :: .ref (a 204) :: .int v200_5 :: .ref (a 205) :: .int v200_7 :: .int v200_8 :: .int v200_9 :: .int v200_10 :: .int v200_11 :: .int v200_12 :: .int v200_13 :: .ref (a 206) :: .int v200_15 :: .ref (a 207) :: .int v200_17 :: .int v200_18 :: .int v200_19 :: .ref (a 208) :: .int (u_10.1 0) :: .ref (a 209) :: .int (y_1.1 2) :: .ref (a 210) :: .ref (a 211) :: .ref (a 212) :: .int v200_27 :: .int v200_28 :: .int v200_29 :: .ref (a 213) :: .ref (a 214) :: .ref (a 215) :: .int v200_33 :: .int v200_34 :: .int v200_35 :: .ref (a 216) :: .ref (a 217) :: .ref (a 218) :: .ref (a 219) :: [])), (a 201, .inl (t 0, 841, .inl f201)), (a 207, .inl (t 0, 9, .inl f207)), (a 208, .inl (t 0, 9, .inl (u_10.2.1 0)))] := hD
  refine lv_aload_n hx hb dX12_strikes_14 rfl (lv_at hl 1 rfl) ?_
  refine lv_iload_n hx hb dX12_strikes_15 rfl (lv_at hl 0 rfl) ?_
  refine y_pV hF (s_X12_mostOfNZ l D t a v200_0 v200_5 v200_7 v200_8 v200_9 v200_10 v200_11 v200_12 v200_13 v200_15 v200_17 v200_18 v200_19 (u_10.1 0) (y_1.1 2) v200_27 v200_28 v200_29 v200_33 v200_34 v200_35 f201 (u_10.2.1 0) (y_1.1 0) r200_5 r200_7 r200_8 r200_9 (rg_w (c := 0) (d := 9) h_2 (by decide) (by decide)) q201 k_9 k_9a k_9b k_9c) m_1722 m_1724 m_s76 m_13 m_1725 hd_X12_mostOf ⟨Nat.le_of_ble_eq_true rfl, Nat.le_of_ble_eq_true rfl⟩ hK hN hP hS [1, 2, 4] rfl 0 (ci := 12) rfl rfl rfl hl.1 rfl (Nat.le_of_ble_eq_true rfl) dX12_strikes_16 ⟨Nat.zero_le _, Nat.zero_le _⟩ (fun r_12 H locs hr_12 hP hS => ?_)
  have or_12 := hr_12.2
  refine lv_istore (lv' := [(4, .int r_12), (3, .int (y_1.1 0)), (0, .ref (a 200)), (1, .int p0), (2, .int p1)]) hx hb dX12_strikes_19 hl (by decide) rfl (fun ls hl => ?_)
  refine lv_iload_n hx hb dX12_strikes_21 rfl (lv_at hl 1 rfl) ?_
  refine y_pS hF (s_X12_bits l D t a (y_1.1 0)) m_1668 m_1669 m_13 m_1670 hd_X12_bits ⟨Nat.le_of_ble_eq_true rfl, Nat.le_of_ble_eq_true rfl⟩ hK hN hP hS [] rfl hl.1 rfl (Nat.le_of_ble_eq_true rfl) dX12_strikes_22 ⟨Nat.zero_le _, Nat.zero_le _⟩ (fun r_13 H locs hr_13 hP hS => ?_)
  have or_13 := hr_13.2
  refine lv_iconst (v := 2) hx hb dX12_strikes_25 (by decide) ?_
  refine lv_icmp_lt (tgt := 45) hx hb dX12_strikes_26 (by decide) (fun c_14 => ?_) (fun c_14 => ?_)
  · skip
    have zc_15 : (2 : Int32).toInt = 2 := by decide
    have tc_14 := t_lt c_14
    have h_16 : rg 0 1 r_13 := ⟨(hr_13.1).1, Int.le_trans (c_lt c_14 (rg_c (x := 2) (k := 2) (by decide))) (by decide)⟩
    refine lv_iload hx hb dX12_strikes_45 (lv_at hl 0 rfl) ?_
    have hP9 := hP.sub (ws' := [(a 200, .inr (12, .int v200_0 :: .ref (a 201) :: .ref (a 202) :: .ref (a 203) :: .ref (a 204) :: .int v200_5 :: .ref (a 205) :: .int v200_7 :: .int v200_8 :: .int v200_9 :: .int v200_10 :: .int v200_11 :: .int v200_12 :: .int v200_13 :: .ref (a 206) :: .int v200_15 :: .ref (a 207) :: .int v200_17 :: .int v200_18 :: .int v200_19 :: .ref (a 208) :: .int (u_10.1 0) :: .ref (a 209) :: .int (y_1.1 2) :: .ref (a 210) :: .ref (a 211) :: .ref (a 212) :: .int v200_27 :: .int v200_28 :: .int v200_29 :: .ref (a 213) :: .ref (a 214) :: .ref (a 215) :: .int v200_33 :: .int v200_34 :: .int v200_35 :: .ref (a 216) :: .ref (a 217) :: .ref (a 218) :: .ref (a 219) :: [])), (a 201, .inl (t 0, 841, .inl f201)), (a 207, .inl (t 0, 9, .inl f207)), (a 208, .inl (t 0, 9, .inl (u_10.2.1 0))), (a 209, .inl (t 0, 9, .inl (y_1.2.1 1)))]) [1, 2, 3, 4, 0] rfl
    have hD9 := hD.sub (ws' := [(a 200, .inr (12, .int v200_0 :: .ref (a 201) :: .ref (a 202) :: .ref (a 203) :: .ref (a 204) :: .int v200_5 :: .ref (a 205) :: .int v200_7 :: .int v200_8 :: .int v200_9 :: .int v200_10 :: .int v200_11 :: .int v200_12 :: .int v200_13 :: .ref (a 206) :: .int v200_15 :: .ref (a 207) :: .int v200_17 :: .int v200_18 :: .int v200_19 :: .ref (a 208) :: .int (u_10.1 0) :: .ref (a 209) :: .int (y_1.1 2) :: .ref (a 210) :: .ref (a 211) :: .ref (a 212) :: .int v200_27 :: .int v200_28 :: .int v200_29 :: .ref (a 213) :: .ref (a 214) :: .ref (a 215) :: .int v200_33 :: .int v200_34 :: .int v200_35 :: .ref (a 216) :: .ref (a 217) :: .ref (a 218) :: .ref (a 219) :: [])), (a 201, .inl (t 0, 841, .inl f201)), (a 207, .inl (t 0, 9, .inl f207)), (a 208, .inl (t 0, 9, .inl (u_10.2.1 0))), (a 209, .inl (t 0, 9, .inl (y_1.2.1 1)))]) [1, 2, 3, 4, 0] (by decide) rfl
    exact W.iret (v := r_12) hx hb hr (fun t9 ht hW => ⟨⟨r_12, (fun k => [(u_10.1 0), (y_1.1 2)].getD k 0, fun k => [(u_10.2.1 0), (y_1.2.1 1)].getD k (fun _ => 0), fun k => [].getD k (fun _ => 0), fun _ => 0), rfl, ⟨hr_12.1, (rg_w (c := 0) (d := 9) h_2 (by decide) (by decide))⟩, by rw [ht]; exact hP9, hD9⟩, hS.F ht⟩) hS.2.2 dX12_strikes_47
  · skip
    have zc_17 : (2 : Int32).toInt = 2 := by decide
    have tc_14 := t_nlt c_14
    have h_18 : rg 2 9 r_13 := ⟨Int.le_trans (by decide) (c_nlt c_14 (rg_c (x := 2) (k := 2) (by decide))), (hr_13.1).2⟩
    refine lv_iconst (v := 2) hx hb dX12_strikes_29 (by decide) ?_
    refine lv_aload_n hx hb dX12_strikes_30 rfl (lv_at hl 2 rfl) ?_
    refine va_get (D := D) (ci := 12) (v := .ref (a 208)) (C := RX12) (T := TX12) (N := 40) hx hb hts iX12 hown hK hP 1 rfl rfl 20 (by decide) (hts _ m_1363) (fun _ h9 => h9) rfl dX12_strikes_31 ?_
    refine lv_iload hx hb dX12_strikes_34 (lv_at hl 0 rfl) ?_
    refine va_iald hx hb hK hP 4 0 rfl rfl (in_rg hr_12.1 (by decide) (by decide)) dX12_strikes_36 ?_
    refine lv_topi (fun x_19 ex_19 => ?_)
    refine lv_imul hx hb dX12_strikes_37 ?_
    refine lv_topi (fun x_20 ex_20 => ?_)
    refine lv_aload_n hx hb dX12_strikes_38 rfl (lv_at hl 2 rfl) ?_
    refine va_get (D := D) (ci := 12) (v := .int (u_10.1 0)) (C := RX12) (T := TX12) (N := 40) hx hb hts iX12 hown hK hP 1 rfl rfl 21 (by decide) (hts _ m_1364) (fun _ h9 => h9) rfl dX12_strikes_39 ?_
    refine lv_icmp_le (tgt := 48) hx hb dX12_strikes_42 (by decide) (fun c_21 => ?_) (fun c_21 => ?_)
    · skip
      have tc_21 := t_le c_21
      refine lv_iconst (v := (-1)) hx hb dX12_strikes_48 (by decide) ?_
      refine lv_istore (lv' := [(5, .int (-1)), (4, .int r_12), (3, .int (y_1.1 0)), (0, .ref (a 200)), (1, .int p0), (2, .int p1)]) hx hb dX12_strikes_49 hl (by decide) rfl (fun ls hl => ?_)
      refine lv_iconst (v := 0) hx hb dX12_strikes_51 (by decide) ?_
      refine lv_istore (lv' := [(6, .int 0), (5, .int (-1)), (4, .int r_12), (3, .int (y_1.1 0)), (0, .ref (a 200)), (1, .int p0), (2, .int p1)]) hx hb dX12_strikes_52 hl (by decide) rfl (fun ls hl => ?_)
      refine loopW (α := US) (fun n y_22 H locs ls => 9 < (y_22.1 0).toInt + (n : Int) ∧ rg 0 9 (y_22.1 0) ∧ rg (-1) 8 (y_22.1 1) ∧ (0 ≤ (y_22.1 1).toInt ∨ (y_22.1 0).toInt ≤ (k_9 : Int)) ∧ ((y_22.1 1).toInt < 0 ∨ bt (y_1.1 0) (y_22.1 1) = 1) ∧ va_P D classes [(a 209, .inl (t 0, 9, .inl (y_1.2.1 1))), (a 200, .inr (12, .int v200_0 :: .ref (a 201) :: .ref (a 202) :: .ref (a 203) :: .ref (a 204) :: .int v200_5 :: .ref (a 205) :: .int v200_7 :: .int v200_8 :: .int v200_9 :: .int v200_10 :: .int v200_11 :: .int v200_12 :: .int v200_13 :: .ref (a 206) :: .int v200_15 :: .ref (a 207) :: .int v200_17 :: .int v200_18 :: .int v200_19 :: .ref (a 208) :: .int (u_10.1 0) :: .ref (a 209) :: .int (y_1.1 2) :: .ref (a 210) :: .ref (a 211) :: .ref (a 212) :: .int v200_27 :: .int v200_28 :: .int v200_29 :: .ref (a 213) :: .ref (a 214) :: .ref (a 215) :: .int v200_33 :: .int v200_34 :: .int v200_35 :: .ref (a 216) :: .ref (a 217) :: .ref (a 218) :: .ref (a 219) :: [])), (a 201, .inl (t 0, 841, .inl f201)), (a 207, .inl (t 0, 9, .inl f207)), (a 208, .inl (t 0, 9, .inl (u_10.2.1 0)))] H ∧ va_D A [(a 209, .inl (t 0, 9, .inl (y_1.2.1 1))), (a 200, .inr (12, .int v200_0 :: .ref (a 201) :: .ref (a 202) :: .ref (a 203) :: .ref (a 204) :: .int v200_5 :: .ref (a 205) :: .int v200_7 :: .int v200_8 :: .int v200_9 :: .int v200_10 :: .int v200_11 :: .int v200_12 :: .int v200_13 :: .ref (a 206) :: .int v200_15 :: .ref (a 207) :: .int v200_17 :: .int v200_18 :: .int v200_19 :: .ref (a 208) :: .int (u_10.1 0) :: .ref (a 209) :: .int (y_1.1 2) :: .ref (a 210) :: .ref (a 211) :: .ref (a 212) :: .int v200_27 :: .int v200_28 :: .int v200_29 :: .ref (a 213) :: .ref (a 214) :: .ref (a 215) :: .int v200_33 :: .int v200_34 :: .int v200_35 :: .ref (a 216) :: .ref (a 217) :: .ref (a 218) :: .ref (a 219) :: [])), (a 201, .inl (t 0, 841, .inl f201)), (a 207, .inl (t 0, 9, .inl f207)), (a 208, .inl (t 0, 9, .inl (u_10.2.1 0)))] ∧ va_S A s.heap H locs ∧ lv_has ls 7 [(6, .int (y_22.1 0)), (5, .int (y_22.1 1)), (4, .int r_12), (3, .int (y_1.1 0)), (0, .ref (a 200)), (1, .int p0), (2, .int p1)]) 54 (fun y_22 => []) (fun _ _ _ _ h9 => m_0 h9.1 h9.2.1) (fun n ih_27 y_22 H locs ls hI => ?_) 10 (fun k => [0, (-1)].getD k 0, fun k => [].getD k (fun _ => 0), fun k => [].getD k (fun _ => 0), fun k => [].getD k 0) ⟨(m_i (rg_c (x := 0) (k := 0) (by decide)) (by decide)), (rg_w (c := 0) (d := 9) (rg_c (x := 0) (k := 0) (by decide)) (by decide) (by decide)), (rg_w (c := (-1)) (d := 8) (rg_c (x := (-1)) (k := (-1)) (by decide)) (by decide) (by decide)), (show 0 ≤ ((-1) : Int32).toInt ∨ (0 : Int32).toInt ≤ (k_9 : Int) from (by have zc1 : (-1 : Int32).toInt = -1 := (by decide); have zc0 : (0 : Int32).toInt = 0 := rfl; have zq : rg 0 9 (f201 5) := q201 5 (by decide); have zq1 := zq.1; have zq2 := zq.2; have r1_0 := ((rg_c (x := (-1)) (k := (-1)) (by decide))).1; have r2_0 := ((rg_c (x := (-1)) (k := (-1)) (by decide))).2; omega)), (show ((-1) : Int32).toInt < 0 ∨ bt (y_1.1 0) ((-1) : Int32) = 1 from (Or.inl (by decide))), hP, hD, hS, (lv_sub hl [0, 1, 2, 3, 4, 5, 6] rfl)⟩
      obtain ⟨me_28, h_23, h_24, i_25, i_26, hP, hD, hS, hl⟩ := hI
      refine lv_iload hx hb dX12_strikes_54 (lv_at hl 0 rfl) ?_
      refine lv_aload_n hx hb dX12_strikes_56 rfl (lv_at hl 4 rfl) ?_
      refine va_get (D := D) (ci := 12) (v := .ref (a 201)) (C := RX12) (T := TX12) (N := 40) hx hb hts iX12 hown hK hP 1 rfl rfl 1 (by decide) (hts _ m_1344) (fun _ h9 => h9) rfl dX12_strikes_57 ?_
      refine lv_iconst (v := 5) hx hb dX12_strikes_60 (by decide) ?_
      refine va_iald hx hb hK hP 2 0 rfl rfl (in_rg (rg_c (x := 5) (k := 5) (by decide)) (by decide) (by decide)) dX12_strikes_61 ?_
      refine x_seti (f201 5) rfl ?_
      have h_29 : rg 0 9 (f201 5) := q201 5 (by decide)
      refine lv_icmp_ge (tgt := 138) hx hb dX12_strikes_62 (by decide) (fun c_30 => ?_) (fun c_30 => ?_)
      · skip
        have tc_30 := t_le c_30
        have h_31 : rg 0 8 (y_22.1 1) := ⟨by have zc1 : (-1 : Int32).toInt = -1 := (by decide); have zc0 : (0 : Int32).toInt = 0 := rfl; have zq : rg 0 9 (f201 5) := q201 5 (by decide); have zq1 := zq.1; have zq2 := zq.2; have r1_0 := (h_24).1; have r2_0 := (h_24).2; omega, (h_24).2⟩
        have h_32 : bt (y_1.1 0) (y_22.1 1) = 1 := (i_26).resolve_left (by have := (h_31).1; omega)
        have h_33 : rg 0 7 (y_1.1 2) := ⟨(h_2).1, by have zc2 : (2 : Int32).toInt = 2 := (by decide); have o1 := or_13; have o2 := i_5; omega⟩
        refine lv_aload_n hx hb dX12_strikes_138 rfl (lv_at hl 4 rfl) ?_
        refine va_get (D := D) (ci := 12) (v := .ref (a 209)) (C := RX12) (T := TX12) (N := 40) hx hb hts iX12 hown hK hP 1 rfl rfl 22 (by decide) (hts _ m_1365) (fun _ h9 => h9) rfl dX12_strikes_139 ?_
        refine lv_aload_n hx hb dX12_strikes_142 rfl (lv_at hl 4 rfl) ?_
        refine va_get (D := D) (ci := 12) (v := .int (y_1.1 2)) (C := RX12) (T := TX12) (N := 40) hx hb hts iX12 hown hK hP 1 rfl rfl 23 (by decide) (hts _ m_1366) (fun _ h9 => h9) rfl dX12_strikes_143 ?_
        refine lv_iload hx hb dX12_strikes_146 (lv_at hl 1 rfl) ?_
        refine x_iast hx hb hK hP hD hS 0 0 rfl rfl (in_rg h_33 (by decide) (by decide)) dX12_strikes_148 (fun g_34 H locs hP hD hS => ?_)
        have hP : va_P D classes [(a 209, .inl (t 0, 9, .inl g_34)), (a 200, .inr (12, .int v200_0 :: .ref (a 201) :: .ref (a 202) :: .ref (a 203) :: .ref (a 204) :: .int v200_5 :: .ref (a 205) :: .int v200_7 :: .int v200_8 :: .int v200_9 :: .int v200_10 :: .int v200_11 :: .int v200_12 :: .int v200_13 :: .ref (a 206) :: .int v200_15 :: .ref (a 207) :: .int v200_17 :: .int v200_18 :: .int v200_19 :: .ref (a 208) :: .int (u_10.1 0) :: .ref (a 209) :: .int (y_1.1 2) :: .ref (a 210) :: .ref (a 211) :: .ref (a 212) :: .int v200_27 :: .int v200_28 :: .int v200_29 :: .ref (a 213) :: .ref (a 214) :: .ref (a 215) :: .int v200_33 :: .int v200_34 :: .int v200_35 :: .ref (a 216) :: .ref (a 217) :: .ref (a 218) :: .ref (a 219) :: [])), (a 201, .inl (t 0, 841, .inl f201)), (a 207, .inl (t 0, 9, .inl f207)), (a 208, .inl (t 0, 9, .inl (u_10.2.1 0)))] H := hP
        have hD : va_D A [(a 209, .inl (t 0, 9, .inl g_34)), (a 200, .inr (12, .int v200_0 :: .ref (a 201) :: .ref (a 202) :: .ref (a 203) :: .ref (a 204) :: .int v200_5 :: .ref (a 205) :: .int v200_7 :: .int v200_8 :: .int v200_9 :: .int v200_10 :: .int v200_11 :: .int v200_12 :: .int v200_13 :: .ref (a 206) :: .int v200_15 :: .ref (a 207) :: .int v200_17 :: .int v200_18 :: .int v200_19 :: .ref (a 208) :: .int (u_10.1 0) :: .ref (a 209) :: .int (y_1.1 2) :: .ref (a 210) :: .ref (a 211) :: .ref (a 212) :: .int v200_27 :: .int v200_28 :: .int v200_29 :: .ref (a 213) :: .ref (a 214) :: .ref (a 215) :: .int v200_33 :: .int v200_34 :: .int v200_35 :: .ref (a 216) :: .ref (a 217) :: .ref (a 218) :: .ref (a 219) :: [])), (a 201, .inl (t 0, 841, .inl f201)), (a 207, .inl (t 0, 9, .inl f207)), (a 208, .inl (t 0, 9, .inl (u_10.2.1 0)))] := hD
        refine lv_aload_n hx hb dX12_strikes_149 rfl (lv_at hl 4 rfl) ?_
        refine lv_dup hx hb dX12_strikes_150 rfl ?_
        refine va_get (D := D) (ci := 12) (v := .int (y_1.1 2)) (C := RX12) (T := TX12) (N := 40) hx hb hts iX12 hown hK hP 1 rfl rfl 23 (by decide) (hts _ m_1366) (fun _ h9 => h9) rfl dX12_strikes_151 ?_
        refine lv_iconst (v := 1) hx hb dX12_strikes_154 (by decide) ?_
        refine lv_iadd hx hb dX12_strikes_155 ?_
        refine lv_topi (fun x_35 ex_35 => ?_)
        have hx_35 : rg 1 8 x_35 := by rw [ex_35]; exact rg_add h_33 (rg_c (x := 1) (k := 1) (by decide)) (by decide) (by decide) (by decide) (by decide)
        have tx_35 : x_35.toInt = (y_1.1 2).toInt + 1 := by rw [ex_35]; exact inc_tk h_33 (by decide) (by decide) (by decide)
        refine va_put (D := D) (ci := 12) (v := .int x_35) (ty := .int) (C := RX12) (T := TX12) (N := 40) hx hb hts iX12 tyX12 tyX12_ok nmX12 hown hK hP hD hS 1 rfl rfl 23 (by decide) (hts _ m_1366) (fun _ h9 => h9) rfl (tyX12_ok 23 (by decide)) rfl rfl (Nat.le_of_ble_eq_true rfl) dX12_strikes_156 (fun H locs hP hD hS => ?_)
        have hP : va_P D classes [(a 209, .inl (t 0, 9, .inl g_34)), (a 200, .inr (12, .int v200_0 :: .ref (a 201) :: .ref (a 202) :: .ref (a 203) :: .ref (a 204) :: .int v200_5 :: .ref (a 205) :: .int v200_7 :: .int v200_8 :: .int v200_9 :: .int v200_10 :: .int v200_11 :: .int v200_12 :: .int v200_13 :: .ref (a 206) :: .int v200_15 :: .ref (a 207) :: .int v200_17 :: .int v200_18 :: .int v200_19 :: .ref (a 208) :: .int (u_10.1 0) :: .ref (a 209) :: .int x_35 :: .ref (a 210) :: .ref (a 211) :: .ref (a 212) :: .int v200_27 :: .int v200_28 :: .int v200_29 :: .ref (a 213) :: .ref (a 214) :: .ref (a 215) :: .int v200_33 :: .int v200_34 :: .int v200_35 :: .ref (a 216) :: .ref (a 217) :: .ref (a 218) :: .ref (a 219) :: [])), (a 201, .inl (t 0, 841, .inl f201)), (a 207, .inl (t 0, 9, .inl f207)), (a 208, .inl (t 0, 9, .inl (u_10.2.1 0)))] H := hP
        have hD : va_D A [(a 209, .inl (t 0, 9, .inl g_34)), (a 200, .inr (12, .int v200_0 :: .ref (a 201) :: .ref (a 202) :: .ref (a 203) :: .ref (a 204) :: .int v200_5 :: .ref (a 205) :: .int v200_7 :: .int v200_8 :: .int v200_9 :: .int v200_10 :: .int v200_11 :: .int v200_12 :: .int v200_13 :: .ref (a 206) :: .int v200_15 :: .ref (a 207) :: .int v200_17 :: .int v200_18 :: .int v200_19 :: .ref (a 208) :: .int (u_10.1 0) :: .ref (a 209) :: .int x_35 :: .ref (a 210) :: .ref (a 211) :: .ref (a 212) :: .int v200_27 :: .int v200_28 :: .int v200_29 :: .ref (a 213) :: .ref (a 214) :: .ref (a 215) :: .int v200_33 :: .int v200_34 :: .int v200_35 :: .ref (a 216) :: .ref (a 217) :: .ref (a 218) :: .ref (a 219) :: [])), (a 201, .inl (t 0, 841, .inl f201)), (a 207, .inl (t 0, 9, .inl f207)), (a 208, .inl (t 0, 9, .inl (u_10.2.1 0)))] := hD
        refine lv_iload_n hx hb dX12_strikes_159 rfl (lv_at hl 3 rfl) ?_
        refine lv_iconst (v := 1) hx hb dX12_strikes_160 (by decide) ?_
        refine lv_iload hx hb dX12_strikes_161 (lv_at hl 1 rfl) ?_
        refine lv_ishl hx hb dX12_strikes_163 ?_
        refine lv_topi (fun x_36 ex_36 => ?_)
        have hx_36 : rg 1 256 x_36 := by rw [ex_36]; exact rg_shl1 (b := 8) h_31 (by decide) (by decide)
        refine lv_iconst (v := (-1)) hx hb dX12_strikes_164 (by decide) ?_
        refine lv_ixor hx hb dX12_strikes_165 ?_
        refine lv_topi (fun x_37 ex_37 => ?_)
        refine lv_iand hx hb dX12_strikes_166 ?_
        refine lv_topi (fun x_38 ex_38 => ?_)
        refine lv_istore_n (lv' := [(3, .int x_38), (6, .int (y_22.1 0)), (5, .int (y_22.1 1)), (4, .int r_12), (0, .ref (a 200)), (1, .int p0), (2, .int p1)]) hx hb dX12_strikes_167 rfl hl (by decide) rfl (fun ls hl => ?_)
        have h_39 := strike_l (n := (f201 5)) (q201 5 (by decide)) i_3 h_31 h_32 ex_36 ex_37 ex_38
        refine lv_goto (tgt := 7) hx hb dX12_strikes_168 (by decide) ?_
        exact ih_6 (fun k => [x_38, (u_10.1 0), x_35].getD k 0, fun k => [(u_10.2.1 0), g_34].getD k (fun _ => 0), fun k => [].getD k (fun _ => 0), fun k => [].getD k 0) _ _ ls ⟨(show pcn x_38 < (n_8 : Int) from (by have o1 := (h_39).2; have o2 := me_7; omega)), (rg_w (c := 0) (d := 8) hx_35 (by decide) (by decide)), (show lo9 (f201 5) x_38 from (h_39).1), (show 1 ≤ pcn x_38 from (by have zc2 : (2 : Int32).toInt = 2 := (by decide); have o1 := (h_39).2; have o2 := or_13; omega)), (show x_35.toInt + pcn x_38 ≤ 9 from (by have o1 := (h_39).2; have o2 := tx_35; have o3 := i_5; omega)), (hP.sub [1, 2, 3, 4, 0] rfl), (hD.sub [1, 2, 3, 4, 0] (by decide) rfl), hS, (lv_sub hl [0, 4, 5, 6] rfl)⟩
      · skip
        have tc_30 := t_nle c_30
        have h_40 : rg 0 8 (y_22.1 0) := ⟨(h_23).1, Int.le_trans (c_nleR c_30 h_29) (by decide)⟩
        have h_41 : rg 1 9 (f201 5) := ⟨Int.le_trans (by decide) (c_nle c_30 h_23), (h_29).2⟩
        refine lv_iload_n hx hb dX12_strikes_65 rfl (lv_at hl 3 rfl) ?_
        refine lv_iload hx hb dX12_strikes_66 (lv_at hl 0 rfl) ?_
        refine y_pS hF (s_X12_bit l D t a (y_1.1 0) (y_22.1 0)) m_1616 m_1617 m_13 m_1618 hd_X12_bit ⟨Nat.le_of_ble_eq_true rfl, Nat.le_of_ble_eq_true rfl⟩ hK hN hP hS [] rfl hl.1 rfl (Nat.le_of_ble_eq_true rfl) dX12_strikes_68 ⟨Nat.zero_le _, Nat.zero_le _⟩ (fun r_42 H locs hr_42 hP hS => ?_)
        have or_42 := hr_42.2
        refine lv_if_ne (tgt := 77) hx hb dX12_strikes_71 (by decide) (fun c_43 => ?_) (fun c_43 => ?_)
        · skip
          have zc_44 : (0 : Int32).toInt = 0 := rfl
          have tc_43 : ¬ (r_42 : Int32).toInt = (0 : Int32).toInt := fun z9 => c_43 (Int32.toInt_inj.mp z9)
          have h_45 : rg 1 1 r_42 := rg_w (rg_neL hr_42.1 c_43 (by decide)) (by decide) (by decide)
          refine lv_iload hx hb dX12_strikes_77 (lv_at hl 1 rfl) ?_
          refine lv_iconst (v := (-1)) hx hb dX12_strikes_79 (by decide) ?_
          refine lv_icmp_eq (tgt := 128) hx hb dX12_strikes_80 (by decide) (fun c_46 => ?_) (fun c_46 => ?_)
          · skip
            have zc_47 : ((-1) : Int32).toInt = (-1) := by decide
            have tc_46 : ((y_22.1 1) : Int32).toInt = ((-1) : Int32).toInt := congrArg Int32.toInt (by first | exact c_46 | exact Classical.not_not.mp c_46)
            have h_48 : rg (-1) (-1) (y_22.1 1) := rg_eq c_46 (rg_c (x := (-1)) (k := (-1)) (by decide))
            refine lv_iload hx hb dX12_strikes_128 (lv_at hl 0 rfl) ?_
            refine lv_istore (lv' := [(5, .int (y_22.1 0)), (6, .int (y_22.1 0)), (4, .int r_12), (3, .int (y_1.1 0)), (0, .ref (a 200)), (1, .int p0), (2, .int p1)]) hx hb dX12_strikes_130 hl (by decide) rfl (fun ls hl => ?_)
            obtain ⟨x_49, ex_49⟩ : ∃ y9 : Int32, y9 = (y_22.1 0) + 1 := ⟨_, rfl⟩
            have hx_49 : rg 1 9 x_49 := by rw [ex_49]; exact rg_add h_40 (rg_c (x := 1) (k := 1) (by decide)) (by decide) (by decide) (by decide) (by decide)
            have tx_49 : x_49.toInt = (y_22.1 0).toInt + 1 := by rw [ex_49]; exact inc_tk h_40 (by decide) (by decide) (by decide)
            refine lv_iinc (v := x_49) (lv' := [(6, .int x_49), (5, .int (y_22.1 0)), (4, .int r_12), (3, .int (y_1.1 0)), (0, .ref (a 200)), (1, .int p0), (2, .int p1)]) hx hb dX12_strikes_132 hl (k := 1) rfl (by rw [ex_49]; rfl) (by decide) rfl (fun ls hl => ?_)
            refine lv_goto (tgt := 54) hx hb dX12_strikes_135 (by decide) ?_
            exact ih_27 (fun k => [x_49, (y_22.1 0)].getD k 0, fun k => [].getD k (fun _ => 0), fun k => [].getD k (fun _ => 0), fun k => [].getD k 0) _ _ ls ⟨(m_upk me_28 tx_49 (by decide)), (rg_w (c := 0) (d := 9) hx_49 (by decide) (by decide)), (rg_w (c := (-1)) (d := 8) h_40 (by decide) (by decide)), (show 0 ≤ (y_22.1 0).toInt ∨ x_49.toInt ≤ (k_9 : Int) from (by have zc1 : (-1 : Int32).toInt = -1 := (by decide); have zc0 : (0 : Int32).toInt = 0 := rfl; have zq : rg 0 9 (f201 5) := q201 5 (by decide); have zq1 := zq.1; have zq2 := zq.2; have r1_0 := (h_40).1; have r2_0 := (h_40).2; have r1_1 := (h_24).1; have r2_1 := (h_24).2; omega)), (show (y_22.1 0).toInt < 0 ∨ bt (y_1.1 0) (y_22.1 0) = 1 from (Or.inr (bt1 or_42 tc_43))), hP, hD, hS, (lv_sub hl [0, 1, 2, 3, 4, 5, 6] rfl)⟩
          · skip
            have zc_50 : ((-1) : Int32).toInt = (-1) := by decide
            have tc_46 : ¬ ((y_22.1 1) : Int32).toInt = ((-1) : Int32).toInt := fun z9 => c_46 (Int32.toInt_inj.mp z9)
            have h_51 : rg 0 8 (y_22.1 1) := rg_w (rg_neL h_24 c_46 (by decide)) (by decide) (by decide)
            refine lv_aload_n hx hb dX12_strikes_83 rfl (lv_at hl 4 rfl) ?_
            refine va_get (D := D) (ci := 12) (v := .ref (a 208)) (C := RX12) (T := TX12) (N := 40) hx hb hts iX12 hown hK hP 1 rfl rfl 20 (by decide) (hts _ m_1363) (fun _ h9 => h9) rfl dX12_strikes_84 ?_
            refine lv_iload hx hb dX12_strikes_87 (lv_at hl 0 rfl) ?_
            refine va_iald hx hb hK hP 4 0 rfl rfl (in_rg h_40 (by decide) (by decide)) dX12_strikes_89 ?_
            refine lv_topi (fun x_52 ex_52 => ?_)
            refine lv_aload_n hx hb dX12_strikes_90 rfl (lv_at hl 4 rfl) ?_
            refine va_get (D := D) (ci := 12) (v := .ref (a 208)) (C := RX12) (T := TX12) (N := 40) hx hb hts iX12 hown hK hP 1 rfl rfl 20 (by decide) (hts _ m_1363) (fun _ h9 => h9) rfl dX12_strikes_91 ?_
            refine lv_iload hx hb dX12_strikes_94 (lv_at hl 1 rfl) ?_
            refine va_iald hx hb hK hP 4 0 rfl rfl (in_rg h_51 (by decide) (by decide)) dX12_strikes_96 ?_
            refine lv_topi (fun x_53 ex_53 => ?_)
            refine lv_icmp_lt (tgt := 128) hx hb dX12_strikes_97 (by decide) (fun c_54 => ?_) (fun c_54 => ?_)
            · skip
              have tc_54 := t_lt c_54
              have h_55 : rg (-2147483648) 2147483646 x_52 := ⟨((rg_any x_52)).1, Int.le_trans (c_lt c_54 (rg_any x_53)) (by decide)⟩
              have h_56 : rg (-2147483647) 2147483647 x_53 := ⟨Int.le_trans (by decide) (c_ltR c_54 (rg_any x_52)), ((rg_any x_53)).2⟩
              refine lv_iload hx hb dX12_strikes_128 (lv_at hl 0 rfl) ?_
              refine lv_istore (lv' := [(5, .int (y_22.1 0)), (6, .int (y_22.1 0)), (4, .int r_12), (3, .int (y_1.1 0)), (0, .ref (a 200)), (1, .int p0), (2, .int p1)]) hx hb dX12_strikes_130 hl (by decide) rfl (fun ls hl => ?_)
              obtain ⟨x_57, ex_57⟩ : ∃ y9 : Int32, y9 = (y_22.1 0) + 1 := ⟨_, rfl⟩
              have hx_57 : rg 1 9 x_57 := by rw [ex_57]; exact rg_add h_40 (rg_c (x := 1) (k := 1) (by decide)) (by decide) (by decide) (by decide) (by decide)
              have tx_57 : x_57.toInt = (y_22.1 0).toInt + 1 := by rw [ex_57]; exact inc_tk h_40 (by decide) (by decide) (by decide)
              refine lv_iinc (v := x_57) (lv' := [(6, .int x_57), (5, .int (y_22.1 0)), (4, .int r_12), (3, .int (y_1.1 0)), (0, .ref (a 200)), (1, .int p0), (2, .int p1)]) hx hb dX12_strikes_132 hl (k := 1) rfl (by rw [ex_57]; rfl) (by decide) rfl (fun ls hl => ?_)
              refine lv_goto (tgt := 54) hx hb dX12_strikes_135 (by decide) ?_
              exact ih_27 (fun k => [x_57, (y_22.1 0)].getD k 0, fun k => [].getD k (fun _ => 0), fun k => [].getD k (fun _ => 0), fun k => [].getD k 0) _ _ ls ⟨(m_upk me_28 tx_57 (by decide)), (rg_w (c := 0) (d := 9) hx_57 (by decide) (by decide)), (rg_w (c := (-1)) (d := 8) h_40 (by decide) (by decide)), (show 0 ≤ (y_22.1 0).toInt ∨ x_57.toInt ≤ (k_9 : Int) from (by have zc1 : (-1 : Int32).toInt = -1 := (by decide); have zc0 : (0 : Int32).toInt = 0 := rfl; have zq : rg 0 9 (f201 5) := q201 5 (by decide); have zq1 := zq.1; have zq2 := zq.2; have r1_0 := (h_40).1; have r2_0 := (h_40).2; have r1_1 := (h_24).1; have r2_1 := (h_24).2; omega)), (show (y_22.1 0).toInt < 0 ∨ bt (y_1.1 0) (y_22.1 0) = 1 from (Or.inr (bt1 or_42 tc_43))), hP, hD, hS, (lv_sub hl [0, 1, 2, 3, 4, 5, 6] rfl)⟩
            · skip
              have tc_54 := t_nlt c_54
              refine lv_aload_n hx hb dX12_strikes_100 rfl (lv_at hl 4 rfl) ?_
              refine va_get (D := D) (ci := 12) (v := .ref (a 208)) (C := RX12) (T := TX12) (N := 40) hx hb hts iX12 hown hK hP 1 rfl rfl 20 (by decide) (hts _ m_1363) (fun _ h9 => h9) rfl dX12_strikes_101 ?_
              refine lv_iload hx hb dX12_strikes_104 (lv_at hl 0 rfl) ?_
              refine va_iald hx hb hK hP 4 0 rfl rfl (in_rg h_40 (by decide) (by decide)) dX12_strikes_106 ?_
              refine lv_topi (fun x_58 ex_58 => ?_)
              refine lv_aload_n hx hb dX12_strikes_107 rfl (lv_at hl 4 rfl) ?_
              refine va_get (D := D) (ci := 12) (v := .ref (a 208)) (C := RX12) (T := TX12) (N := 40) hx hb hts iX12 hown hK hP 1 rfl rfl 20 (by decide) (hts _ m_1363) (fun _ h9 => h9) rfl dX12_strikes_108 ?_
              refine lv_iload hx hb dX12_strikes_111 (lv_at hl 1 rfl) ?_
              refine va_iald hx hb hK hP 4 0 rfl rfl (in_rg h_51 (by decide) (by decide)) dX12_strikes_113 ?_
              refine lv_topi (fun x_59 ex_59 => ?_)
              refine lv_icmp_ne (tgt := 132) hx hb dX12_strikes_114 (by decide) (fun c_60 => ?_) (fun c_60 => ?_)
              · skip
                have tc_60 : ¬ (x_58 : Int32).toInt = (x_59 : Int32).toInt := fun z9 => c_60 (Int32.toInt_inj.mp z9)
                obtain ⟨x_61, ex_61⟩ : ∃ y9 : Int32, y9 = (y_22.1 0) + 1 := ⟨_, rfl⟩
                have hx_61 : rg 1 9 x_61 := by rw [ex_61]; exact rg_add h_40 (rg_c (x := 1) (k := 1) (by decide)) (by decide) (by decide) (by decide) (by decide)
                have tx_61 : x_61.toInt = (y_22.1 0).toInt + 1 := by rw [ex_61]; exact inc_tk h_40 (by decide) (by decide) (by decide)
                refine lv_iinc (v := x_61) (lv' := [(6, .int x_61), (5, .int (y_22.1 1)), (4, .int r_12), (3, .int (y_1.1 0)), (0, .ref (a 200)), (1, .int p0), (2, .int p1)]) hx hb dX12_strikes_132 hl (k := 0) rfl (by rw [ex_61]; rfl) (by decide) rfl (fun ls hl => ?_)
                refine lv_goto (tgt := 54) hx hb dX12_strikes_135 (by decide) ?_
                exact ih_27 (fun k => [x_61, (y_22.1 1)].getD k 0, fun k => [].getD k (fun _ => 0), fun k => [].getD k (fun _ => 0), fun k => [].getD k 0) _ _ ls ⟨(m_upk me_28 tx_61 (by decide)), (rg_w (c := 0) (d := 9) hx_61 (by decide) (by decide)), (rg_w (c := (-1)) (d := 8) h_51 (by decide) (by decide)), (show 0 ≤ (y_22.1 1).toInt ∨ x_61.toInt ≤ (k_9 : Int) from (by have zc1 : (-1 : Int32).toInt = -1 := (by decide); have zc0 : (0 : Int32).toInt = 0 := rfl; have zq : rg 0 9 (f201 5) := q201 5 (by decide); have zq1 := zq.1; have zq2 := zq.2; have r1_0 := (h_51).1; have r2_0 := (h_51).2; have r1_1 := (h_24).1; have r2_1 := (h_24).2; omega)), (show (y_22.1 1).toInt < 0 ∨ bt (y_1.1 0) (y_22.1 1) = 1 from i_26), hP, hD, hS, (lv_sub hl [0, 1, 2, 3, 4, 5, 6] rfl)⟩
              · skip
                have tc_60 : (x_58 : Int32).toInt = (x_59 : Int32).toInt := congrArg Int32.toInt (by first | exact c_60 | exact Classical.not_not.mp c_60)
                refine lv_aload_n hx hb dX12_strikes_117 rfl (lv_at hl 4 rfl) ?_
                refine lv_iload hx hb dX12_strikes_118 (lv_at hl 1 rfl) ?_
                refine lv_iload hx hb dX12_strikes_120 (lv_at hl 0 rfl) ?_
                refine y_pV hF (s_X12_isLonger l D t a v200_0 v200_5 v200_7 v200_8 v200_9 v200_10 v200_11 v200_12 v200_13 v200_15 v200_17 v200_18 v200_19 (u_10.1 0) (y_1.1 2) v200_27 v200_28 v200_29 v200_33 v200_34 v200_35 f201 (y_22.1 1) (y_22.1 0) r200_5 r200_7 r200_8 r200_9 (rg_w (c := 0) (d := 9) h_2 (by decide) (by decide)) q201 h_51 h_40) m_1687 m_1689 m_s71 m_13 m_1690 hd_X12_isLonger ⟨Nat.le_of_ble_eq_true rfl, Nat.le_of_ble_eq_true rfl⟩ hK hN hP hS [1, 2] rfl 0 (ci := 12) rfl rfl rfl hl.1 rfl (Nat.le_of_ble_eq_true rfl) dX12_strikes_122 ⟨Nat.zero_le _, Nat.zero_le _⟩ (fun r_62 H locs hr_62 hP hS => ?_)
                refine lv_if_eq (tgt := 132) hx hb dX12_strikes_125 (by decide) (fun c_63 => ?_) (fun c_63 => ?_)
                · skip
                  have zc_64 : (0 : Int32).toInt = 0 := rfl
                  have tc_63 : (r_62 : Int32).toInt = (0 : Int32).toInt := congrArg Int32.toInt (by first | exact c_63 | exact Classical.not_not.mp c_63)
                  have h_65 : rg 0 0 r_62 := rg_eq c_63 (rg_c (x := 0) (k := 0) (by decide))
                  obtain ⟨x_66, ex_66⟩ : ∃ y9 : Int32, y9 = (y_22.1 0) + 1 := ⟨_, rfl⟩
                  have hx_66 : rg 1 9 x_66 := by rw [ex_66]; exact rg_add h_40 (rg_c (x := 1) (k := 1) (by decide)) (by decide) (by decide) (by decide) (by decide)
                  have tx_66 : x_66.toInt = (y_22.1 0).toInt + 1 := by rw [ex_66]; exact inc_tk h_40 (by decide) (by decide) (by decide)
                  refine lv_iinc (v := x_66) (lv' := [(6, .int x_66), (5, .int (y_22.1 1)), (4, .int r_12), (3, .int (y_1.1 0)), (0, .ref (a 200)), (1, .int p0), (2, .int p1)]) hx hb dX12_strikes_132 hl (k := 0) rfl (by rw [ex_66]; rfl) (by decide) rfl (fun ls hl => ?_)
                  refine lv_goto (tgt := 54) hx hb dX12_strikes_135 (by decide) ?_
                  exact ih_27 (fun k => [x_66, (y_22.1 1)].getD k 0, fun k => [].getD k (fun _ => 0), fun k => [].getD k (fun _ => 0), fun k => [].getD k 0) _ _ ls ⟨(m_upk me_28 tx_66 (by decide)), (rg_w (c := 0) (d := 9) hx_66 (by decide) (by decide)), (rg_w (c := (-1)) (d := 8) h_51 (by decide) (by decide)), (show 0 ≤ (y_22.1 1).toInt ∨ x_66.toInt ≤ (k_9 : Int) from (by have zc1 : (-1 : Int32).toInt = -1 := (by decide); have zc0 : (0 : Int32).toInt = 0 := rfl; have zq : rg 0 9 (f201 5) := q201 5 (by decide); have zq1 := zq.1; have zq2 := zq.2; have r1_0 := (h_51).1; have r2_0 := (h_51).2; have r1_1 := (h_24).1; have r2_1 := (h_24).2; omega)), (show (y_22.1 1).toInt < 0 ∨ bt (y_1.1 0) (y_22.1 1) = 1 from i_26), hP, hD, hS, (lv_sub hl [0, 1, 2, 3, 4, 5, 6] rfl)⟩
                · skip
                  have zc_67 : (0 : Int32).toInt = 0 := rfl
                  have tc_63 : ¬ (r_62 : Int32).toInt = (0 : Int32).toInt := fun z9 => c_63 (Int32.toInt_inj.mp z9)
                  have h_68 : rg 1 1 r_62 := rg_w (rg_neL hr_62 c_63 (by decide)) (by decide) (by decide)
                  refine lv_iload hx hb dX12_strikes_128 (lv_at hl 0 rfl) ?_
                  refine lv_istore (lv' := [(5, .int (y_22.1 0)), (6, .int (y_22.1 0)), (4, .int r_12), (3, .int (y_1.1 0)), (0, .ref (a 200)), (1, .int p0), (2, .int p1)]) hx hb dX12_strikes_130 hl (by decide) rfl (fun ls hl => ?_)
                  obtain ⟨x_69, ex_69⟩ : ∃ y9 : Int32, y9 = (y_22.1 0) + 1 := ⟨_, rfl⟩
                  have hx_69 : rg 1 9 x_69 := by rw [ex_69]; exact rg_add h_40 (rg_c (x := 1) (k := 1) (by decide)) (by decide) (by decide) (by decide) (by decide)
                  have tx_69 : x_69.toInt = (y_22.1 0).toInt + 1 := by rw [ex_69]; exact inc_tk h_40 (by decide) (by decide) (by decide)
                  refine lv_iinc (v := x_69) (lv' := [(6, .int x_69), (5, .int (y_22.1 0)), (4, .int r_12), (3, .int (y_1.1 0)), (0, .ref (a 200)), (1, .int p0), (2, .int p1)]) hx hb dX12_strikes_132 hl (k := 1) rfl (by rw [ex_69]; rfl) (by decide) rfl (fun ls hl => ?_)
                  refine lv_goto (tgt := 54) hx hb dX12_strikes_135 (by decide) ?_
                  exact ih_27 (fun k => [x_69, (y_22.1 0)].getD k 0, fun k => [].getD k (fun _ => 0), fun k => [].getD k (fun _ => 0), fun k => [].getD k 0) _ _ ls ⟨(m_upk me_28 tx_69 (by decide)), (rg_w (c := 0) (d := 9) hx_69 (by decide) (by decide)), (rg_w (c := (-1)) (d := 8) h_40 (by decide) (by decide)), (show 0 ≤ (y_22.1 0).toInt ∨ x_69.toInt ≤ (k_9 : Int) from (by have zc1 : (-1 : Int32).toInt = -1 := (by decide); have zc0 : (0 : Int32).toInt = 0 := rfl; have zq : rg 0 9 (f201 5) := q201 5 (by decide); have zq1 := zq.1; have zq2 := zq.2; have r1_0 := (h_40).1; have r2_0 := (h_40).2; have r1_1 := (h_24).1; have r2_1 := (h_24).2; omega)), (show (y_22.1 0).toInt < 0 ∨ bt (y_1.1 0) (y_22.1 0) = 1 from (Or.inr (bt1 or_42 tc_43))), hP, hD, hS, (lv_sub hl [0, 1, 2, 3, 4, 5, 6] rfl)⟩
        · skip
          have zc_70 : (0 : Int32).toInt = 0 := rfl
          have tc_43 : (r_42 : Int32).toInt = (0 : Int32).toInt := congrArg Int32.toInt (by first | exact c_43 | exact Classical.not_not.mp c_43)
          have h_71 : rg 0 0 r_42 := rg_eq c_43 (rg_c (x := 0) (k := 0) (by decide))
          have nk : ¬ (y_22.1 0).toInt = (k_9 : Int) := nzk k_9a or_42 tc_43 k_9c
          refine lv_goto (tgt := 132) hx hb dX12_strikes_74 (by decide) ?_
          obtain ⟨x_72, ex_72⟩ : ∃ y9 : Int32, y9 = (y_22.1 0) + 1 := ⟨_, rfl⟩
          have hx_72 : rg 1 9 x_72 := by rw [ex_72]; exact rg_add h_40 (rg_c (x := 1) (k := 1) (by decide)) (by decide) (by decide) (by decide) (by decide)
          have tx_72 : x_72.toInt = (y_22.1 0).toInt + 1 := by rw [ex_72]; exact inc_tk h_40 (by decide) (by decide) (by decide)
          refine lv_iinc (v := x_72) (lv' := [(6, .int x_72), (5, .int (y_22.1 1)), (4, .int r_12), (3, .int (y_1.1 0)), (0, .ref (a 200)), (1, .int p0), (2, .int p1)]) hx hb dX12_strikes_132 hl (k := 0) rfl (by rw [ex_72]; rfl) (by decide) rfl (fun ls hl => ?_)
          refine lv_goto (tgt := 54) hx hb dX12_strikes_135 (by decide) ?_
          exact ih_27 (fun k => [x_72, (y_22.1 1)].getD k 0, fun k => [].getD k (fun _ => 0), fun k => [].getD k (fun _ => 0), fun k => [].getD k 0) _ _ ls ⟨(m_upk me_28 tx_72 (by decide)), (rg_w (c := 0) (d := 9) hx_72 (by decide) (by decide)), h_24, (show 0 ≤ (y_22.1 1).toInt ∨ x_72.toInt ≤ (k_9 : Int) from (by have zc1 : (-1 : Int32).toInt = -1 := (by decide); have zc0 : (0 : Int32).toInt = 0 := rfl; have zq : rg 0 9 (f201 5) := q201 5 (by decide); have zq1 := zq.1; have zq2 := zq.2; have r1_0 := (h_24).1; have r2_0 := (h_24).2; have r1_1 := (h_24).1; have r2_1 := (h_24).2; omega)), (show (y_22.1 1).toInt < 0 ∨ bt (y_1.1 0) (y_22.1 1) = 1 from i_26), hP, hD, hS, (lv_sub hl [0, 1, 2, 3, 4, 5, 6] rfl)⟩
    · skip
      have tc_21 := t_nle c_21
      have h_73 : rg (-2147483647) 2147483647 x_20 := ⟨Int.le_trans (by decide) (c_nle c_21 (rg_any (u_10.1 0))), ((rg_any x_20)).2⟩
      have h_74 : rg (-2147483648) 2147483646 (u_10.1 0) := ⟨((rg_any (u_10.1 0))).1, Int.le_trans (c_nleR c_21 (rg_any x_20)) (by decide)⟩
      refine lv_iload hx hb dX12_strikes_45 (lv_at hl 0 rfl) ?_
      have hP9 := hP.sub (ws' := [(a 200, .inr (12, .int v200_0 :: .ref (a 201) :: .ref (a 202) :: .ref (a 203) :: .ref (a 204) :: .int v200_5 :: .ref (a 205) :: .int v200_7 :: .int v200_8 :: .int v200_9 :: .int v200_10 :: .int v200_11 :: .int v200_12 :: .int v200_13 :: .ref (a 206) :: .int v200_15 :: .ref (a 207) :: .int v200_17 :: .int v200_18 :: .int v200_19 :: .ref (a 208) :: .int (u_10.1 0) :: .ref (a 209) :: .int (y_1.1 2) :: .ref (a 210) :: .ref (a 211) :: .ref (a 212) :: .int v200_27 :: .int v200_28 :: .int v200_29 :: .ref (a 213) :: .ref (a 214) :: .ref (a 215) :: .int v200_33 :: .int v200_34 :: .int v200_35 :: .ref (a 216) :: .ref (a 217) :: .ref (a 218) :: .ref (a 219) :: [])), (a 201, .inl (t 0, 841, .inl f201)), (a 207, .inl (t 0, 9, .inl f207)), (a 208, .inl (t 0, 9, .inl (u_10.2.1 0))), (a 209, .inl (t 0, 9, .inl (y_1.2.1 1)))]) [1, 2, 3, 4, 0] rfl
      have hD9 := hD.sub (ws' := [(a 200, .inr (12, .int v200_0 :: .ref (a 201) :: .ref (a 202) :: .ref (a 203) :: .ref (a 204) :: .int v200_5 :: .ref (a 205) :: .int v200_7 :: .int v200_8 :: .int v200_9 :: .int v200_10 :: .int v200_11 :: .int v200_12 :: .int v200_13 :: .ref (a 206) :: .int v200_15 :: .ref (a 207) :: .int v200_17 :: .int v200_18 :: .int v200_19 :: .ref (a 208) :: .int (u_10.1 0) :: .ref (a 209) :: .int (y_1.1 2) :: .ref (a 210) :: .ref (a 211) :: .ref (a 212) :: .int v200_27 :: .int v200_28 :: .int v200_29 :: .ref (a 213) :: .ref (a 214) :: .ref (a 215) :: .int v200_33 :: .int v200_34 :: .int v200_35 :: .ref (a 216) :: .ref (a 217) :: .ref (a 218) :: .ref (a 219) :: [])), (a 201, .inl (t 0, 841, .inl f201)), (a 207, .inl (t 0, 9, .inl f207)), (a 208, .inl (t 0, 9, .inl (u_10.2.1 0))), (a 209, .inl (t 0, 9, .inl (y_1.2.1 1)))]) [1, 2, 3, 4, 0] (by decide) rfl
      exact W.iret (v := r_12) hx hb hr (fun t9 ht hW => ⟨⟨r_12, (fun k => [(u_10.1 0), (y_1.1 2)].getD k 0, fun k => [(u_10.2.1 0), (y_1.2.1 1)].getD k (fun _ => 0), fun k => [].getD k (fun _ => 0), fun _ => 0), rfl, ⟨hr_12.1, (rg_w (c := 0) (d := 9) h_2 (by decide) (by decide))⟩, by rw [ht]; exact hP9, hD9⟩, hS.F ht⟩) hS.2.2 dX12_strikes_47

set_option maxHeartbeats 4000000 in
set_option maxRecDepth 100000 in
theorem s_X12_runsOff (l : Launch) (D : va_G) (t : Nat → ClassId) (a : Nat → Nat) (v200_0 : Int32) (v200_5 : Int32) (v200_7 : Int32) (v200_8 : Int32) (v200_9 : Int32) (v200_10 : Int32) (v200_11 : Int32) (v200_12 : Int32) (v200_13 : Int32) (v200_15 : Int32) (v200_17 : Int32) (v200_18 : Int32) (v200_19 : Int32) (v200_21 : Int32) (v200_23 : Int32) (v200_27 : Int32) (v200_28 : Int32) (v200_29 : Int32) (v200_33 : Int32) (v200_34 : Int32) (v200_35 : Int32) (f201 : Nat → Int32) (f207 : Nat → Int32) (f208 : Nat → Int32) (p0 : Int32) (p1 : Int32) (r200_5 : rg 0 1600 v200_5) (r200_7 : rg 0 1600 v200_7) (r200_8 : rg 0 1600 v200_8) (r200_9 : rg 0 1600 v200_9) (r200_23 : rg 0 9 v200_23) (q201 : wR f201) (hw0 : lo9 (f201 5) p1) (hw1 : ¬ p1 = 0) (sz : Nat) : Met l yX12_runsOff (wd yX12_runsOff cX12_runsOff 6 (some .int)) (RM 5 0 0) (PreW D (TY t) [.ref (a 200), .int p0, .int p1] [(a 200, .inr (12, .int v200_0 :: .ref (a 201) :: .ref (a 202) :: .ref (a 203) :: .ref (a 204) :: .int v200_5 :: .ref (a 205) :: .int v200_7 :: .int v200_8 :: .int v200_9 :: .int v200_10 :: .int v200_11 :: .int v200_12 :: .int v200_13 :: .ref (a 206) :: .int v200_15 :: .ref (a 207) :: .int v200_17 :: .int v200_18 :: .int v200_19 :: .ref (a 208) :: .int v200_21 :: .ref (a 209) :: .int v200_23 :: .ref (a 210) :: .ref (a 211) :: .ref (a 212) :: .int v200_27 :: .int v200_28 :: .int v200_29 :: .ref (a 213) :: .ref (a 214) :: .ref (a 215) :: .int v200_33 :: .int v200_34 :: .int v200_35 :: .ref (a 216) :: .ref (a 217) :: .ref (a 218) :: .ref (a 219) :: [])), (a 201, .inl (t 0, 841, .inl f201)), (a 207, .inl (t 0, 9, .inl f207)), (a 208, .inl (t 0, 9, .inl f208))] sz) (va_Qi (fun (r : Int32) (_ : US) => rg 0 8 r) (fun (u : US) t9 => va_P D classes ((fun u : US => [(a 200, .inr (12, .int v200_0 :: .ref (a 201) :: .ref (a 202) :: .ref (a 203) :: .ref (a 204) :: .int v200_5 :: .ref (a 205) :: .int v200_7 :: .int v200_8 :: .int v200_9 :: .int v200_10 :: .int v200_11 :: .int v200_12 :: .int v200_13 :: .ref (a 206) :: .int v200_15 :: .ref (a 207) :: .int v200_17 :: .int v200_18 :: .int v200_19 :: .ref (a 208) :: .int (u.1 0) :: .ref (a 209) :: .int v200_23 :: .ref (a 210) :: .ref (a 211) :: .ref (a 212) :: .int v200_27 :: .int v200_28 :: .int v200_29 :: .ref (a 213) :: .ref (a 214) :: .ref (a 215) :: .int v200_33 :: .int v200_34 :: .int v200_35 :: .ref (a 216) :: .ref (a 217) :: .ref (a 218) :: .ref (a 219) :: [])), (a 201, .inl (t 0, 841, .inl f201)), (a 207, .inl (t 0, 9, .inl f207)), (a 208, .inl (t 0, 9, .inl (u.2.1 0)))]) u) t9.heap ∧ va_D (va_A [(a 200, .inr (12, .int v200_0 :: .ref (a 201) :: .ref (a 202) :: .ref (a 203) :: .ref (a 204) :: .int v200_5 :: .ref (a 205) :: .int v200_7 :: .int v200_8 :: .int v200_9 :: .int v200_10 :: .int v200_11 :: .int v200_12 :: .int v200_13 :: .ref (a 206) :: .int v200_15 :: .ref (a 207) :: .int v200_17 :: .int v200_18 :: .int v200_19 :: .ref (a 208) :: .int v200_21 :: .ref (a 209) :: .int v200_23 :: .ref (a 210) :: .ref (a 211) :: .ref (a 212) :: .int v200_27 :: .int v200_28 :: .int v200_29 :: .ref (a 213) :: .ref (a 214) :: .ref (a 215) :: .int v200_33 :: .int v200_34 :: .int v200_35 :: .ref (a 216) :: .ref (a 217) :: .ref (a 218) :: .ref (a 219) :: [])), (a 201, .inl (t 0, 841, .inl f201)), (a 207, .inl (t 0, 9, .inl f207)), (a 208, .inl (t 0, 9, .inl f208))] sz) ((fun u : US => [(a 200, .inr (12, .int v200_0 :: .ref (a 201) :: .ref (a 202) :: .ref (a 203) :: .ref (a 204) :: .int v200_5 :: .ref (a 205) :: .int v200_7 :: .int v200_8 :: .int v200_9 :: .int v200_10 :: .int v200_11 :: .int v200_12 :: .int v200_13 :: .ref (a 206) :: .int v200_15 :: .ref (a 207) :: .int v200_17 :: .int v200_18 :: .int v200_19 :: .ref (a 208) :: .int (u.1 0) :: .ref (a 209) :: .int v200_23 :: .ref (a 210) :: .ref (a 211) :: .ref (a 212) :: .int v200_27 :: .int v200_28 :: .int v200_29 :: .ref (a 213) :: .ref (a 214) :: .ref (a 215) :: .int v200_33 :: .int v200_34 :: .int v200_35 :: .ref (a 216) :: .ref (a 217) :: .ref (a 218) :: .ref (a 219) :: [])), (a 201, .inl (t 0, 841, .inl f201)), (a 207, .inl (t 0, 9, .inl f207)), (a 208, .inl (t 0, 9, .inl (u.2.1 0)))]) u)) (va_A [(a 200, .inr (12, .int v200_0 :: .ref (a 201) :: .ref (a 202) :: .ref (a 203) :: .ref (a 204) :: .int v200_5 :: .ref (a 205) :: .int v200_7 :: .int v200_8 :: .int v200_9 :: .int v200_10 :: .int v200_11 :: .int v200_12 :: .int v200_13 :: .ref (a 206) :: .int v200_15 :: .ref (a 207) :: .int v200_17 :: .int v200_18 :: .int v200_19 :: .ref (a 208) :: .int v200_21 :: .ref (a 209) :: .int v200_23 :: .ref (a 210) :: .ref (a 211) :: .ref (a 212) :: .int v200_27 :: .int v200_28 :: .int v200_29 :: .ref (a 213) :: .ref (a 214) :: .ref (a 215) :: .int v200_33 :: .int v200_34 :: .int v200_35 :: .ref (a 216) :: .ref (a 217) :: .ref (a 218) :: .ref (a 219) :: [])), (a 201, .inl (t 0, 841, .inl f201)), (a 207, .inl (t 0, 9, .inl f207)), (a 208, .inl (t 0, 9, .inl f208))] sz)) 0 0 (va_A [(a 200, .inr (12, .int v200_0 :: .ref (a 201) :: .ref (a 202) :: .ref (a 203) :: .ref (a 204) :: .int v200_5 :: .ref (a 205) :: .int v200_7 :: .int v200_8 :: .int v200_9 :: .int v200_10 :: .int v200_11 :: .int v200_12 :: .int v200_13 :: .ref (a 206) :: .int v200_15 :: .ref (a 207) :: .int v200_17 :: .int v200_18 :: .int v200_19 :: .ref (a 208) :: .int v200_21 :: .ref (a 209) :: .int v200_23 :: .ref (a 210) :: .ref (a 211) :: .ref (a 212) :: .int v200_27 :: .int v200_28 :: .int v200_29 :: .ref (a 213) :: .ref (a 214) :: .ref (a 215) :: .int v200_33 :: .int v200_34 :: .int v200_35 :: .ref (a 216) :: .ref (a 217) :: .ref (a 218) :: .ref (a 219) :: [])), (a 201, .inl (t 0, 841, .inl f201)), (a 207, .inl (t 0, 9, .inl f207)), (a 208, .inl (t 0, 9, .inl f208))] sz) := by
  refine Met.ofW (cc := cX12_runsOff) (maxL := 6) (ret := (some .int)) (by decide) rfl ?_
  intro p e s m args below meth c s₁ B hml hv
  obtain ⟨rfl, hsz, hP, hK, hD0, hN⟩ := hv
  have hx := B.exec
  have hb := B.bytes
  have hr := B.returns
  have hts : ∀ w ∈ TB, w.before _ s = true := fun w h => atoms_spec (ws := wd yX12_runsOff cX12_runsOff 6 (some .int)) B.pre w (List.mem_cons_of_mem _ h)
  have hown : s.vm.findClass RX12 = some m.cls := findClass_of_methodNamed B.named
  have hlocks := B.notSynchronized
  have hF : CallFix p m c cX12_runsOff 6 s _ TB RX12 := ⟨hx, hb, hml, hown, hts⟩
  have hl := lv_entry ([.ref (a 200), .int p0, .int p1]) (n := 6) (Nat.le_of_ble_eq_true rfl)
  rw [lg_entry_eq]
  generalize (lg_sl ([.ref (a 200), .int p0, .int p1]) ++ List.replicate (6 - (lg_sl ([.ref (a 200), .int p0, .int p1])).length) Slot.unset).toArray = ls at hl ⊢
  have hl : lv_has ls 6 [(0, .ref (a 200)), (1, .int p0), (2, .int p1)] := hl
  subst hsz
  have hD := hD0.self (sz := s.heap.size)
  generalize hAe : va_A [(a 200, .inr (12, .int v200_0 :: .ref (a 201) :: .ref (a 202) :: .ref (a 203) :: .ref (a 204) :: .int v200_5 :: .ref (a 205) :: .int v200_7 :: .int v200_8 :: .int v200_9 :: .int v200_10 :: .int v200_11 :: .int v200_12 :: .int v200_13 :: .ref (a 206) :: .int v200_15 :: .ref (a 207) :: .int v200_17 :: .int v200_18 :: .int v200_19 :: .ref (a 208) :: .int v200_21 :: .ref (a 209) :: .int v200_23 :: .ref (a 210) :: .ref (a 211) :: .ref (a 212) :: .int v200_27 :: .int v200_28 :: .int v200_29 :: .ref (a 213) :: .ref (a 214) :: .ref (a 215) :: .int v200_33 :: .int v200_34 :: .int v200_35 :: .ref (a 216) :: .ref (a 217) :: .ref (a 218) :: .ref (a 219) :: [])), (a 201, .inl (t 0, 841, .inl f201)), (a 207, .inl (t 0, 9, .inl f207)), (a 208, .inl (t 0, 9, .inl f208))] s.heap.size = A at hD ⊢
  have hA : ∀ q : Nat, s.heap.size ≤ q → A q := fun q h => by rw [← hAe]; exact Or.inr h
  have hS : va_S A s.heap s.heap [] := va_S.rf
  have hP : va_P D classes [(a 200, .inr (12, .int v200_0 :: .ref (a 201) :: .ref (a 202) :: .ref (a 203) :: .ref (a 204) :: .int v200_5 :: .ref (a 205) :: .int v200_7 :: .int v200_8 :: .int v200_9 :: .int v200_10 :: .int v200_11 :: .int v200_12 :: .int v200_13 :: .ref (a 206) :: .int v200_15 :: .ref (a 207) :: .int v200_17 :: .int v200_18 :: .int v200_19 :: .ref (a 208) :: .int v200_21 :: .ref (a 209) :: .int v200_23 :: .ref (a 210) :: .ref (a 211) :: .ref (a 212) :: .int v200_27 :: .int v200_28 :: .int v200_29 :: .ref (a 213) :: .ref (a 214) :: .ref (a 215) :: .int v200_33 :: .int v200_34 :: .int v200_35 :: .ref (a 216) :: .ref (a 217) :: .ref (a 218) :: .ref (a 219) :: [])), (a 201, .inl (t 0, 841, .inl f201)), (a 207, .inl (t 0, 9, .inl f207)), (a 208, .inl (t 0, 9, .inl f208))] s.heap := hP
  obtain ⟨k_1, k_1a, k_1b, k_1c⟩ := nz_of (n := (f201 5)) (q201 5 (by decide)) hw0 hw1
  refine lv_aload_n hx hb dX12_runsOff_0 rfl (lv_at hl 0 rfl) ?_
  refine lv_iload_n hx hb dX12_runsOff_1 rfl (lv_at hl 1 rfl) ?_
  refine lv_iload_n hx hb dX12_runsOff_2 rfl (lv_at hl 2 rfl) ?_
  refine lv_iconst (v := 0) hx hb dX12_runsOff_3 (by decide) ?_
  refine y_wV (wr := []) hF (s_X12_count l D t a v200_0 v200_5 v200_7 v200_8 v200_9 v200_10 v200_11 v200_12 v200_13 v200_15 v200_17 v200_18 v200_19 v200_21 v200_23 v200_27 v200_28 v200_29 v200_33 v200_34 v200_35 f201 f207 f208 p0 p1 0 r200_5 r200_7 r200_8 r200_9 r200_23 q201 (rg_w (c := 0) (d := 1) (rg_c (x := 0) (k := 0) (by decide)) (by decide) (by decide)) s.heap.size) m_1695 m_1697 m_s72 m_13 m_1698 hd_X12_count ⟨Nat.le_of_ble_eq_true rfl, Nat.le_of_ble_eq_true rfl⟩ hK hN hP hD hS hA 0 (ci := 12) rfl rfl rfl [0, 1, 2, 3] [] rfl rfl (by decide) (by decide) (by decide) hl.1 rfl (Nat.le_of_ble_eq_true rfl) dX12_runsOff_4 ⟨Nat.zero_le _, Nat.zero_le _⟩ (fun u_2 H locs hu_2 hP hD hS => ?_)
  have hP : va_P D classes [(a 200, .inr (12, .int v200_0 :: .ref (a 201) :: .ref (a 202) :: .ref (a 203) :: .ref (a 204) :: .int v200_5 :: .ref (a 205) :: .int v200_7 :: .int v200_8 :: .int v200_9 :: .int v200_10 :: .int v200_11 :: .int v200_12 :: .int v200_13 :: .ref (a 206) :: .int v200_15 :: .ref (a 207) :: .int v200_17 :: .int v200_18 :: .int v200_19 :: .ref (a 208) :: .int (u_2.1 0) :: .ref (a 209) :: .int v200_23 :: .ref (a 210) :: .ref (a 211) :: .ref (a 212) :: .int v200_27 :: .int v200_28 :: .int v200_29 :: .ref (a 213) :: .ref (a 214) :: .ref (a 215) :: .int v200_33 :: .int v200_34 :: .int v200_35 :: .ref (a 216) :: .ref (a 217) :: .ref (a 218) :: .ref (a 219) :: [])), (a 201, .inl (t 0, 841, .inl f201)), (a 207, .inl (t 0, 9, .inl f207)), (a 208, .inl (t 0, 9, .inl (u_2.2.1 0)))] H := hP
  have hD : va_D A [(a 200, .inr (12, .int v200_0 :: .ref (a 201) :: .ref (a 202) :: .ref (a 203) :: .ref (a 204) :: .int v200_5 :: .ref (a 205) :: .int v200_7 :: .int v200_8 :: .int v200_9 :: .int v200_10 :: .int v200_11 :: .int v200_12 :: .int v200_13 :: .ref (a 206) :: .int v200_15 :: .ref (a 207) :: .int v200_17 :: .int v200_18 :: .int v200_19 :: .ref (a 208) :: .int (u_2.1 0) :: .ref (a 209) :: .int v200_23 :: .ref (a 210) :: .ref (a 211) :: .ref (a 212) :: .int v200_27 :: .int v200_28 :: .int v200_29 :: .ref (a 213) :: .ref (a 214) :: .ref (a 215) :: .int v200_33 :: .int v200_34 :: .int v200_35 :: .ref (a 216) :: .ref (a 217) :: .ref (a 218) :: .ref (a 219) :: [])), (a 201, .inl (t 0, 841, .inl f201)), (a 207, .inl (t 0, 9, .inl f207)), (a 208, .inl (t 0, 9, .inl (u_2.2.1 0)))] := hD
  refine lv_aload_n hx hb dX12_runsOff_7 rfl (lv_at hl 0 rfl) ?_
  refine lv_iload_n hx hb dX12_runsOff_8 rfl (lv_at hl 2 rfl) ?_
  refine y_pV hF (s_X12_mostOfNZ l D t a v200_0 v200_5 v200_7 v200_8 v200_9 v200_10 v200_11 v200_12 v200_13 v200_15 v200_17 v200_18 v200_19 (u_2.1 0) v200_23 v200_27 v200_28 v200_29 v200_33 v200_34 v200_35 f201 (u_2.2.1 0) p1 r200_5 r200_7 r200_8 r200_9 r200_23 q201 k_1 k_1a k_1b k_1c) m_1722 m_1724 m_s76 m_13 m_1725 hd_X12_mostOf ⟨Nat.le_of_ble_eq_true rfl, Nat.le_of_ble_eq_true rfl⟩ hK hN hP hS [0, 1, 3] rfl 0 (ci := 12) rfl rfl rfl hl.1 rfl (Nat.le_of_ble_eq_true rfl) dX12_runsOff_9 ⟨Nat.zero_le _, Nat.zero_le _⟩ (fun r_4 H locs hr_4 hP hS => ?_)
  have or_4 := hr_4.2
  refine lv_istore_n (lv' := [(3, .int r_4), (0, .ref (a 200)), (1, .int p0), (2, .int p1)]) hx hb dX12_runsOff_12 rfl hl (by decide) rfl (fun ls hl => ?_)
  refine lv_iload_n hx hb dX12_runsOff_13 rfl (lv_at hl 0 rfl) ?_
  refine lv_iconst (v := (-1)) hx hb dX12_runsOff_14 (by decide) ?_
  refine lv_icmp_ne (tgt := 22) hx hb dX12_runsOff_15 (by decide) (fun c_5 => ?_) (fun c_5 => False.elim (by have q1 := (hr_4.1).1; have q2 := (hr_4.1).2; have q3 := ((rg_c (x := (-1)) (k := (-1)) (by decide))).1; have q4 := ((rg_c (x := (-1)) (k := (-1)) (by decide))).2; have q5 := congrArg Int32.toInt c_5; omega))
  have zc_6 : ((-1) : Int32).toInt = (-1) := by decide
  have tc_5 : ¬ (r_4 : Int32).toInt = ((-1) : Int32).toInt := fun z9 => c_5 (Int32.toInt_inj.mp z9)
  refine lv_aload_n hx hb dX12_runsOff_22 rfl (lv_at hl 1 rfl) ?_
  refine lv_iload_n hx hb dX12_runsOff_23 rfl (lv_at hl 3 rfl) ?_
  refine lv_iconst (v := 1) hx hb dX12_runsOff_24 (by decide) ?_
  refine lv_iload_n hx hb dX12_runsOff_25 rfl (lv_at hl 0 rfl) ?_
  refine lv_ishl hx hb dX12_runsOff_26 ?_
  refine lv_topi (fun x_7 ex_7 => ?_)
  have hx_7 : rg 1 256 x_7 := by rw [ex_7]; exact rg_shl1 (b := 8) hr_4.1 (by decide) (by decide)
  refine lv_iconst (v := (-1)) hx hb dX12_runsOff_27 (by decide) ?_
  refine lv_ixor hx hb dX12_runsOff_28 ?_
  refine lv_topi (fun x_8 ex_8 => ?_)
  refine lv_iand hx hb dX12_runsOff_29 ?_
  refine lv_topi (fun x_9 ex_9 => ?_)
  refine y_pV hF (s_X12_mostOf l D t a v200_0 v200_5 v200_7 v200_8 v200_9 v200_10 v200_11 v200_12 v200_13 v200_15 v200_17 v200_18 v200_19 (u_2.1 0) v200_23 v200_27 v200_28 v200_29 v200_33 v200_34 v200_35 f201 (u_2.2.1 0) x_9 r200_5 r200_7 r200_8 r200_9 r200_23 q201) m_1722 m_1724 m_s76 m_13 m_1725 hd_X12_mostOf ⟨Nat.le_of_ble_eq_true rfl, Nat.le_of_ble_eq_true rfl⟩ hK hN hP hS [0, 1, 3] rfl 0 (ci := 12) rfl rfl rfl hl.1 rfl (Nat.le_of_ble_eq_true rfl) dX12_runsOff_30 ⟨Nat.zero_le _, Nat.zero_le _⟩ (fun r_10 H locs hr_10 hP hS => ?_)
  refine lv_istore (lv' := [(4, .int r_10), (3, .int r_4), (0, .ref (a 200)), (1, .int p0), (2, .int p1)]) hx hb dX12_runsOff_33 hl (by decide) rfl (fun ls hl => ?_)
  refine lv_iload_n hx hb dX12_runsOff_35 rfl (lv_at hl 1 rfl) ?_
  refine lv_iconst (v := (-1)) hx hb dX12_runsOff_36 (by decide) ?_
  refine lv_icmp_ne (tgt := 44) hx hb dX12_runsOff_37 (by decide) (fun c_11 => ?_) (fun c_11 => False.elim (by have q1 := (hr_4.1).1; have q2 := (hr_4.1).2; have q3 := ((rg_c (x := (-1)) (k := (-1)) (by decide))).1; have q4 := ((rg_c (x := (-1)) (k := (-1)) (by decide))).2; have q5 := congrArg Int32.toInt c_11; omega))
  have zc_12 : ((-1) : Int32).toInt = (-1) := by decide
  have tc_11 : ¬ (r_4 : Int32).toInt = ((-1) : Int32).toInt := fun z9 => c_11 (Int32.toInt_inj.mp z9)
  refine lv_iconst (v := 1) hx hb dX12_runsOff_44 (by decide) ?_
  refine lv_iload_n hx hb dX12_runsOff_45 rfl (lv_at hl 1 rfl) ?_
  refine lv_ishl hx hb dX12_runsOff_46 ?_
  refine lv_topi (fun x_13 ex_13 => ?_)
  have hx_13 : rg 1 256 x_13 := by rw [ex_13]; exact rg_shl1 (b := 8) hr_4.1 (by decide) (by decide)
  refine lv_iload hx hb dX12_runsOff_47 (lv_at hl 0 rfl) ?_
  refine lv_iconst (v := (-1)) hx hb dX12_runsOff_49 (by decide) ?_
  refine lv_icmp_ne (tgt := 57) hx hb dX12_runsOff_50 (by decide) (fun c_14 => ?_) (fun c_14 => ?_)
  · skip
    have zc_15 : ((-1) : Int32).toInt = (-1) := by decide
    have tc_14 : ¬ (r_10 : Int32).toInt = ((-1) : Int32).toInt := fun z9 => c_14 (Int32.toInt_inj.mp z9)
    have h_16 : rg 0 8 r_10 := rg_w (rg_neL hr_10 c_14 (by decide)) (by decide) (by decide)
    refine lv_iconst (v := 1) hx hb dX12_runsOff_57 (by decide) ?_
    refine lv_iload hx hb dX12_runsOff_58 (lv_at hl 0 rfl) ?_
    refine lv_ishl hx hb dX12_runsOff_60 ?_
    refine lv_topi (fun x_17 ex_17 => ?_)
    have hx_17 : rg 1 256 x_17 := by rw [ex_17]; exact rg_shl1 (b := 8) h_16 (by decide) (by decide)
    refine lv_ior hx hb dX12_runsOff_61 ?_
    refine lv_topi (fun x_18 ex_18 => ?_)
    have hx_18 : rg 0 511 x_18 := by rw [ex_18]; exact rg_or (m := 9) (rg_w (c := 0) (d := 511) hx_13 (by decide) (by decide)) (rg_w (c := 0) (d := 511) hx_17 (by decide) (by decide)) (by decide) (by decide)
    obtain ⟨k_19, k_19a, k_19b, k_19c⟩ := nz_or (n := (f201 5)) hr_4.1 or_4 ex_13 (rg_w (c := 0) (d := 511) hx_17 (by decide) (by decide)) ex_18
    refine lv_istore (lv' := [(5, .int x_18), (4, .int r_10), (3, .int r_4), (0, .ref (a 200)), (1, .int p0), (2, .int p1)]) hx hb dX12_runsOff_62 hl (by decide) rfl (fun ls hl => ?_)
    refine lv_aload_n hx hb dX12_runsOff_64 rfl (lv_at hl 3 rfl) ?_
    refine lv_iload_n hx hb dX12_runsOff_65 rfl (lv_at hl 4 rfl) ?_
    refine lv_iload hx hb dX12_runsOff_66 (lv_at hl 0 rfl) ?_
    refine lv_iconst (v := 0) hx hb dX12_runsOff_68 (by decide) ?_
    refine y_wV (wr := []) hF (s_X12_count l D t a v200_0 v200_5 v200_7 v200_8 v200_9 v200_10 v200_11 v200_12 v200_13 v200_15 v200_17 v200_18 v200_19 (u_2.1 0) v200_23 v200_27 v200_28 v200_29 v200_33 v200_34 v200_35 f201 f207 (u_2.2.1 0) p0 x_18 0 r200_5 r200_7 r200_8 r200_9 r200_23 q201 (rg_w (c := 0) (d := 1) (rg_c (x := 0) (k := 0) (by decide)) (by decide) (by decide)) H.size) m_1695 m_1697 m_s72 m_13 m_1698 hd_X12_count ⟨Nat.le_of_ble_eq_true rfl, Nat.le_of_ble_eq_true rfl⟩ hK hN hP hD hS hA 0 (ci := 12) rfl rfl rfl [0, 1, 2, 3] [] rfl rfl (by decide) (by decide) (by decide) hl.1 rfl (Nat.le_of_ble_eq_true rfl) dX12_runsOff_69 ⟨Nat.zero_le _, Nat.zero_le _⟩ (fun u_20 H locs hu_20 hP hD hS => ?_)
    have hP : va_P D classes [(a 200, .inr (12, .int v200_0 :: .ref (a 201) :: .ref (a 202) :: .ref (a 203) :: .ref (a 204) :: .int v200_5 :: .ref (a 205) :: .int v200_7 :: .int v200_8 :: .int v200_9 :: .int v200_10 :: .int v200_11 :: .int v200_12 :: .int v200_13 :: .ref (a 206) :: .int v200_15 :: .ref (a 207) :: .int v200_17 :: .int v200_18 :: .int v200_19 :: .ref (a 208) :: .int (u_20.1 0) :: .ref (a 209) :: .int v200_23 :: .ref (a 210) :: .ref (a 211) :: .ref (a 212) :: .int v200_27 :: .int v200_28 :: .int v200_29 :: .ref (a 213) :: .ref (a 214) :: .ref (a 215) :: .int v200_33 :: .int v200_34 :: .int v200_35 :: .ref (a 216) :: .ref (a 217) :: .ref (a 218) :: .ref (a 219) :: [])), (a 201, .inl (t 0, 841, .inl f201)), (a 207, .inl (t 0, 9, .inl f207)), (a 208, .inl (t 0, 9, .inl (u_20.2.1 0)))] H := hP
    have hD : va_D A [(a 200, .inr (12, .int v200_0 :: .ref (a 201) :: .ref (a 202) :: .ref (a 203) :: .ref (a 204) :: .int v200_5 :: .ref (a 205) :: .int v200_7 :: .int v200_8 :: .int v200_9 :: .int v200_10 :: .int v200_11 :: .int v200_12 :: .int v200_13 :: .ref (a 206) :: .int v200_15 :: .ref (a 207) :: .int v200_17 :: .int v200_18 :: .int v200_19 :: .ref (a 208) :: .int (u_20.1 0) :: .ref (a 209) :: .int v200_23 :: .ref (a 210) :: .ref (a 211) :: .ref (a 212) :: .int v200_27 :: .int v200_28 :: .int v200_29 :: .ref (a 213) :: .ref (a 214) :: .ref (a 215) :: .int v200_33 :: .int v200_34 :: .int v200_35 :: .ref (a 216) :: .ref (a 217) :: .ref (a 218) :: .ref (a 219) :: [])), (a 201, .inl (t 0, 841, .inl f201)), (a 207, .inl (t 0, 9, .inl f207)), (a 208, .inl (t 0, 9, .inl (u_20.2.1 0)))] := hD
    refine lv_aload_n hx hb dX12_runsOff_72 rfl (lv_at hl 3 rfl) ?_
    refine lv_iload hx hb dX12_runsOff_73 (lv_at hl 0 rfl) ?_
    refine y_pV hF (s_X12_mostOfNZ l D t a v200_0 v200_5 v200_7 v200_8 v200_9 v200_10 v200_11 v200_12 v200_13 v200_15 v200_17 v200_18 v200_19 (u_20.1 0) v200_23 v200_27 v200_28 v200_29 v200_33 v200_34 v200_35 f201 (u_20.2.1 0) x_18 r200_5 r200_7 r200_8 r200_9 r200_23 q201 k_19 k_19a k_19b k_19c) m_1722 m_1724 m_s76 m_13 m_1725 hd_X12_mostOf ⟨Nat.le_of_ble_eq_true rfl, Nat.le_of_ble_eq_true rfl⟩ hK hN hP hS [0, 1, 3] rfl 0 (ci := 12) rfl rfl rfl hl.1 rfl (Nat.le_of_ble_eq_true rfl) dX12_runsOff_75 ⟨Nat.zero_le _, Nat.zero_le _⟩ (fun r_22 H locs hr_22 hP hS => ?_)
    have or_22 := hr_22.2
    have hP9 := hP.sub (ws' := [(a 200, .inr (12, .int v200_0 :: .ref (a 201) :: .ref (a 202) :: .ref (a 203) :: .ref (a 204) :: .int v200_5 :: .ref (a 205) :: .int v200_7 :: .int v200_8 :: .int v200_9 :: .int v200_10 :: .int v200_11 :: .int v200_12 :: .int v200_13 :: .ref (a 206) :: .int v200_15 :: .ref (a 207) :: .int v200_17 :: .int v200_18 :: .int v200_19 :: .ref (a 208) :: .int (u_20.1 0) :: .ref (a 209) :: .int v200_23 :: .ref (a 210) :: .ref (a 211) :: .ref (a 212) :: .int v200_27 :: .int v200_28 :: .int v200_29 :: .ref (a 213) :: .ref (a 214) :: .ref (a 215) :: .int v200_33 :: .int v200_34 :: .int v200_35 :: .ref (a 216) :: .ref (a 217) :: .ref (a 218) :: .ref (a 219) :: [])), (a 201, .inl (t 0, 841, .inl f201)), (a 207, .inl (t 0, 9, .inl f207)), (a 208, .inl (t 0, 9, .inl (u_20.2.1 0)))]) [0, 1, 2, 3] rfl
    have hD9 := hD.sub (ws' := [(a 200, .inr (12, .int v200_0 :: .ref (a 201) :: .ref (a 202) :: .ref (a 203) :: .ref (a 204) :: .int v200_5 :: .ref (a 205) :: .int v200_7 :: .int v200_8 :: .int v200_9 :: .int v200_10 :: .int v200_11 :: .int v200_12 :: .int v200_13 :: .ref (a 206) :: .int v200_15 :: .ref (a 207) :: .int v200_17 :: .int v200_18 :: .int v200_19 :: .ref (a 208) :: .int (u_20.1 0) :: .ref (a 209) :: .int v200_23 :: .ref (a 210) :: .ref (a 211) :: .ref (a 212) :: .int v200_27 :: .int v200_28 :: .int v200_29 :: .ref (a 213) :: .ref (a 214) :: .ref (a 215) :: .int v200_33 :: .int v200_34 :: .int v200_35 :: .ref (a 216) :: .ref (a 217) :: .ref (a 218) :: .ref (a 219) :: [])), (a 201, .inl (t 0, 841, .inl f201)), (a 207, .inl (t 0, 9, .inl f207)), (a 208, .inl (t 0, 9, .inl (u_20.2.1 0)))]) [0, 1, 2, 3] (by decide) rfl
    exact W.iret (v := r_22) hx hb hr (fun t9 ht hW => ⟨⟨r_22, (fun k => [(u_20.1 0)].getD k 0, fun k => [(u_20.2.1 0)].getD k (fun _ => 0), fun k => [].getD k (fun _ => 0), fun _ => 0), rfl, hr_22.1, by rw [ht]; exact hP9, hD9⟩, hS.F ht⟩) hS.2.2 dX12_runsOff_78
  · skip
    have zc_23 : ((-1) : Int32).toInt = (-1) := by decide
    have tc_14 : (r_10 : Int32).toInt = ((-1) : Int32).toInt := congrArg Int32.toInt (by first | exact c_14 | exact Classical.not_not.mp c_14)
    have h_24 : rg (-1) (-1) r_10 := rg_eq c_14 (rg_c (x := (-1)) (k := (-1)) (by decide))
    refine lv_iconst (v := 0) hx hb dX12_runsOff_53 (by decide) ?_
    refine lv_goto (tgt := 61) hx hb dX12_runsOff_54 (by decide) ?_
    refine lv_ior hx hb dX12_runsOff_61 ?_
    refine lv_topi (fun x_25 ex_25 => ?_)
    have hx_25 : rg 0 511 x_25 := by rw [ex_25]; exact rg_or (m := 9) (rg_w (c := 0) (d := 511) hx_13 (by decide) (by decide)) (rg_w (c := 0) (d := 511) (rg_c (x := 0) (k := 0) (by decide)) (by decide) (by decide)) (by decide) (by decide)
    obtain ⟨k_26, k_26a, k_26b, k_26c⟩ := nz_or (n := (f201 5)) hr_4.1 or_4 ex_13 (rg_w (c := 0) (d := 511) (rg_c (x := 0) (k := 0) (by decide)) (by decide) (by decide)) ex_25
    refine lv_istore (lv' := [(5, .int x_25), (4, .int r_10), (3, .int r_4), (0, .ref (a 200)), (1, .int p0), (2, .int p1)]) hx hb dX12_runsOff_62 hl (by decide) rfl (fun ls hl => ?_)
    refine lv_aload_n hx hb dX12_runsOff_64 rfl (lv_at hl 3 rfl) ?_
    refine lv_iload_n hx hb dX12_runsOff_65 rfl (lv_at hl 4 rfl) ?_
    refine lv_iload hx hb dX12_runsOff_66 (lv_at hl 0 rfl) ?_
    refine lv_iconst (v := 0) hx hb dX12_runsOff_68 (by decide) ?_
    refine y_wV (wr := []) hF (s_X12_count l D t a v200_0 v200_5 v200_7 v200_8 v200_9 v200_10 v200_11 v200_12 v200_13 v200_15 v200_17 v200_18 v200_19 (u_2.1 0) v200_23 v200_27 v200_28 v200_29 v200_33 v200_34 v200_35 f201 f207 (u_2.2.1 0) p0 x_25 0 r200_5 r200_7 r200_8 r200_9 r200_23 q201 (rg_w (c := 0) (d := 1) (rg_c (x := 0) (k := 0) (by decide)) (by decide) (by decide)) H.size) m_1695 m_1697 m_s72 m_13 m_1698 hd_X12_count ⟨Nat.le_of_ble_eq_true rfl, Nat.le_of_ble_eq_true rfl⟩ hK hN hP hD hS hA 0 (ci := 12) rfl rfl rfl [0, 1, 2, 3] [] rfl rfl (by decide) (by decide) (by decide) hl.1 rfl (Nat.le_of_ble_eq_true rfl) dX12_runsOff_69 ⟨Nat.zero_le _, Nat.zero_le _⟩ (fun u_27 H locs hu_27 hP hD hS => ?_)
    have hP : va_P D classes [(a 200, .inr (12, .int v200_0 :: .ref (a 201) :: .ref (a 202) :: .ref (a 203) :: .ref (a 204) :: .int v200_5 :: .ref (a 205) :: .int v200_7 :: .int v200_8 :: .int v200_9 :: .int v200_10 :: .int v200_11 :: .int v200_12 :: .int v200_13 :: .ref (a 206) :: .int v200_15 :: .ref (a 207) :: .int v200_17 :: .int v200_18 :: .int v200_19 :: .ref (a 208) :: .int (u_27.1 0) :: .ref (a 209) :: .int v200_23 :: .ref (a 210) :: .ref (a 211) :: .ref (a 212) :: .int v200_27 :: .int v200_28 :: .int v200_29 :: .ref (a 213) :: .ref (a 214) :: .ref (a 215) :: .int v200_33 :: .int v200_34 :: .int v200_35 :: .ref (a 216) :: .ref (a 217) :: .ref (a 218) :: .ref (a 219) :: [])), (a 201, .inl (t 0, 841, .inl f201)), (a 207, .inl (t 0, 9, .inl f207)), (a 208, .inl (t 0, 9, .inl (u_27.2.1 0)))] H := hP
    have hD : va_D A [(a 200, .inr (12, .int v200_0 :: .ref (a 201) :: .ref (a 202) :: .ref (a 203) :: .ref (a 204) :: .int v200_5 :: .ref (a 205) :: .int v200_7 :: .int v200_8 :: .int v200_9 :: .int v200_10 :: .int v200_11 :: .int v200_12 :: .int v200_13 :: .ref (a 206) :: .int v200_15 :: .ref (a 207) :: .int v200_17 :: .int v200_18 :: .int v200_19 :: .ref (a 208) :: .int (u_27.1 0) :: .ref (a 209) :: .int v200_23 :: .ref (a 210) :: .ref (a 211) :: .ref (a 212) :: .int v200_27 :: .int v200_28 :: .int v200_29 :: .ref (a 213) :: .ref (a 214) :: .ref (a 215) :: .int v200_33 :: .int v200_34 :: .int v200_35 :: .ref (a 216) :: .ref (a 217) :: .ref (a 218) :: .ref (a 219) :: [])), (a 201, .inl (t 0, 841, .inl f201)), (a 207, .inl (t 0, 9, .inl f207)), (a 208, .inl (t 0, 9, .inl (u_27.2.1 0)))] := hD
    refine lv_aload_n hx hb dX12_runsOff_72 rfl (lv_at hl 3 rfl) ?_
    refine lv_iload hx hb dX12_runsOff_73 (lv_at hl 0 rfl) ?_
    refine y_pV hF (s_X12_mostOfNZ l D t a v200_0 v200_5 v200_7 v200_8 v200_9 v200_10 v200_11 v200_12 v200_13 v200_15 v200_17 v200_18 v200_19 (u_27.1 0) v200_23 v200_27 v200_28 v200_29 v200_33 v200_34 v200_35 f201 (u_27.2.1 0) x_25 r200_5 r200_7 r200_8 r200_9 r200_23 q201 k_26 k_26a k_26b k_26c) m_1722 m_1724 m_s76 m_13 m_1725 hd_X12_mostOf ⟨Nat.le_of_ble_eq_true rfl, Nat.le_of_ble_eq_true rfl⟩ hK hN hP hS [0, 1, 3] rfl 0 (ci := 12) rfl rfl rfl hl.1 rfl (Nat.le_of_ble_eq_true rfl) dX12_runsOff_75 ⟨Nat.zero_le _, Nat.zero_le _⟩ (fun r_29 H locs hr_29 hP hS => ?_)
    have or_29 := hr_29.2
    have hP9 := hP.sub (ws' := [(a 200, .inr (12, .int v200_0 :: .ref (a 201) :: .ref (a 202) :: .ref (a 203) :: .ref (a 204) :: .int v200_5 :: .ref (a 205) :: .int v200_7 :: .int v200_8 :: .int v200_9 :: .int v200_10 :: .int v200_11 :: .int v200_12 :: .int v200_13 :: .ref (a 206) :: .int v200_15 :: .ref (a 207) :: .int v200_17 :: .int v200_18 :: .int v200_19 :: .ref (a 208) :: .int (u_27.1 0) :: .ref (a 209) :: .int v200_23 :: .ref (a 210) :: .ref (a 211) :: .ref (a 212) :: .int v200_27 :: .int v200_28 :: .int v200_29 :: .ref (a 213) :: .ref (a 214) :: .ref (a 215) :: .int v200_33 :: .int v200_34 :: .int v200_35 :: .ref (a 216) :: .ref (a 217) :: .ref (a 218) :: .ref (a 219) :: [])), (a 201, .inl (t 0, 841, .inl f201)), (a 207, .inl (t 0, 9, .inl f207)), (a 208, .inl (t 0, 9, .inl (u_27.2.1 0)))]) [0, 1, 2, 3] rfl
    have hD9 := hD.sub (ws' := [(a 200, .inr (12, .int v200_0 :: .ref (a 201) :: .ref (a 202) :: .ref (a 203) :: .ref (a 204) :: .int v200_5 :: .ref (a 205) :: .int v200_7 :: .int v200_8 :: .int v200_9 :: .int v200_10 :: .int v200_11 :: .int v200_12 :: .int v200_13 :: .ref (a 206) :: .int v200_15 :: .ref (a 207) :: .int v200_17 :: .int v200_18 :: .int v200_19 :: .ref (a 208) :: .int (u_27.1 0) :: .ref (a 209) :: .int v200_23 :: .ref (a 210) :: .ref (a 211) :: .ref (a 212) :: .int v200_27 :: .int v200_28 :: .int v200_29 :: .ref (a 213) :: .ref (a 214) :: .ref (a 215) :: .int v200_33 :: .int v200_34 :: .int v200_35 :: .ref (a 216) :: .ref (a 217) :: .ref (a 218) :: .ref (a 219) :: [])), (a 201, .inl (t 0, 841, .inl f201)), (a 207, .inl (t 0, 9, .inl f207)), (a 208, .inl (t 0, 9, .inl (u_27.2.1 0)))]) [0, 1, 2, 3] (by decide) rfl
    exact W.iret (v := r_29) hx hb hr (fun t9 ht hW => ⟨⟨r_29, (fun k => [(u_27.1 0)].getD k 0, fun k => [(u_27.2.1 0)].getD k (fun _ => 0), fun k => [].getD k (fun _ => 0), fun _ => 0), rfl, hr_29.1, by rw [ht]; exact hP9, hD9⟩, hS.F ht⟩) hS.2.2 dX12_runsOff_78

set_option maxHeartbeats 4000000 in
set_option maxRecDepth 100000 in
theorem s_X12_winner (l : Launch) (D : va_G) (t : Nat → ClassId) (a : Nat → Nat) (v200_0 : Int32) (v200_5 : Int32) (v200_7 : Int32) (v200_8 : Int32) (v200_9 : Int32) (v200_10 : Int32) (v200_11 : Int32) (v200_12 : Int32) (v200_13 : Int32) (v200_15 : Int32) (v200_17 : Int32) (v200_18 : Int32) (v200_19 : Int32) (v200_21 : Int32) (v200_23 : Int32) (v200_27 : Int32) (v200_28 : Int32) (v200_29 : Int32) (v200_33 : Int32) (v200_34 : Int32) (v200_35 : Int32) (f201 : Nat → Int32) (f207 : Nat → Int32) (f208 : Nat → Int32) (f209 : Nat → Int32) (p0 : Int32) (p1 : Int32) (r200_5 : rg 0 1600 v200_5) (r200_7 : rg 0 1600 v200_7) (r200_8 : rg 0 1600 v200_8) (r200_9 : rg 0 1600 v200_9) (r200_23 : rg 0 9 v200_23) (q201 : wR f201) (sz : Nat) : Met l yX12_winner (wd yX12_winner cX12_winner 5 (some .int)) (RM 6 0 0) (PreW D (TY t) [.ref (a 200), .int p0, .int p1] [(a 200, .inr (12, .int v200_0 :: .ref (a 201) :: .ref (a 202) :: .ref (a 203) :: .ref (a 204) :: .int v200_5 :: .ref (a 205) :: .int v200_7 :: .int v200_8 :: .int v200_9 :: .int v200_10 :: .int v200_11 :: .int v200_12 :: .int v200_13 :: .ref (a 206) :: .int v200_15 :: .ref (a 207) :: .int v200_17 :: .int v200_18 :: .int v200_19 :: .ref (a 208) :: .int v200_21 :: .ref (a 209) :: .int v200_23 :: .ref (a 210) :: .ref (a 211) :: .ref (a 212) :: .int v200_27 :: .int v200_28 :: .int v200_29 :: .ref (a 213) :: .ref (a 214) :: .ref (a 215) :: .int v200_33 :: .int v200_34 :: .int v200_35 :: .ref (a 216) :: .ref (a 217) :: .ref (a 218) :: .ref (a 219) :: [])), (a 201, .inl (t 0, 841, .inl f201)), (a 207, .inl (t 0, 9, .inl f207)), (a 208, .inl (t 0, 9, .inl f208)), (a 209, .inl (t 0, 9, .inl f209))] sz) (va_Qi (fun (r : Int32) (u : US) => rg (-1) 8 r ∧ rg 0 9 (u.1 1)) (fun (u : US) t9 => va_P D classes ((fun u : US => [(a 200, .inr (12, .int v200_0 :: .ref (a 201) :: .ref (a 202) :: .ref (a 203) :: .ref (a 204) :: .int v200_5 :: .ref (a 205) :: .int v200_7 :: .int v200_8 :: .int v200_9 :: .int v200_10 :: .int v200_11 :: .int v200_12 :: .int v200_13 :: .ref (a 206) :: .int v200_15 :: .ref (a 207) :: .int v200_17 :: .int v200_18 :: .int v200_19 :: .ref (a 208) :: .int (u.1 0) :: .ref (a 209) :: .int (u.1 1) :: .ref (a 210) :: .ref (a 211) :: .ref (a 212) :: .int v200_27 :: .int v200_28 :: .int v200_29 :: .ref (a 213) :: .ref (a 214) :: .ref (a 215) :: .int v200_33 :: .int v200_34 :: .int v200_35 :: .ref (a 216) :: .ref (a 217) :: .ref (a 218) :: .ref (a 219) :: [])), (a 201, .inl (t 0, 841, .inl f201)), (a 207, .inl (t 0, 9, .inl f207)), (a 208, .inl (t 0, 9, .inl (u.2.1 0))), (a 209, .inl (t 0, 9, .inl (u.2.1 1)))]) u) t9.heap ∧ va_D (va_A [(a 200, .inr (12, .int v200_0 :: .ref (a 201) :: .ref (a 202) :: .ref (a 203) :: .ref (a 204) :: .int v200_5 :: .ref (a 205) :: .int v200_7 :: .int v200_8 :: .int v200_9 :: .int v200_10 :: .int v200_11 :: .int v200_12 :: .int v200_13 :: .ref (a 206) :: .int v200_15 :: .ref (a 207) :: .int v200_17 :: .int v200_18 :: .int v200_19 :: .ref (a 208) :: .int v200_21 :: .ref (a 209) :: .int v200_23 :: .ref (a 210) :: .ref (a 211) :: .ref (a 212) :: .int v200_27 :: .int v200_28 :: .int v200_29 :: .ref (a 213) :: .ref (a 214) :: .ref (a 215) :: .int v200_33 :: .int v200_34 :: .int v200_35 :: .ref (a 216) :: .ref (a 217) :: .ref (a 218) :: .ref (a 219) :: [])), (a 201, .inl (t 0, 841, .inl f201)), (a 207, .inl (t 0, 9, .inl f207)), (a 208, .inl (t 0, 9, .inl f208)), (a 209, .inl (t 0, 9, .inl f209))] sz) ((fun u : US => [(a 200, .inr (12, .int v200_0 :: .ref (a 201) :: .ref (a 202) :: .ref (a 203) :: .ref (a 204) :: .int v200_5 :: .ref (a 205) :: .int v200_7 :: .int v200_8 :: .int v200_9 :: .int v200_10 :: .int v200_11 :: .int v200_12 :: .int v200_13 :: .ref (a 206) :: .int v200_15 :: .ref (a 207) :: .int v200_17 :: .int v200_18 :: .int v200_19 :: .ref (a 208) :: .int (u.1 0) :: .ref (a 209) :: .int (u.1 1) :: .ref (a 210) :: .ref (a 211) :: .ref (a 212) :: .int v200_27 :: .int v200_28 :: .int v200_29 :: .ref (a 213) :: .ref (a 214) :: .ref (a 215) :: .int v200_33 :: .int v200_34 :: .int v200_35 :: .ref (a 216) :: .ref (a 217) :: .ref (a 218) :: .ref (a 219) :: [])), (a 201, .inl (t 0, 841, .inl f201)), (a 207, .inl (t 0, 9, .inl f207)), (a 208, .inl (t 0, 9, .inl (u.2.1 0))), (a 209, .inl (t 0, 9, .inl (u.2.1 1)))]) u)) (va_A [(a 200, .inr (12, .int v200_0 :: .ref (a 201) :: .ref (a 202) :: .ref (a 203) :: .ref (a 204) :: .int v200_5 :: .ref (a 205) :: .int v200_7 :: .int v200_8 :: .int v200_9 :: .int v200_10 :: .int v200_11 :: .int v200_12 :: .int v200_13 :: .ref (a 206) :: .int v200_15 :: .ref (a 207) :: .int v200_17 :: .int v200_18 :: .int v200_19 :: .ref (a 208) :: .int v200_21 :: .ref (a 209) :: .int v200_23 :: .ref (a 210) :: .ref (a 211) :: .ref (a 212) :: .int v200_27 :: .int v200_28 :: .int v200_29 :: .ref (a 213) :: .ref (a 214) :: .ref (a 215) :: .int v200_33 :: .int v200_34 :: .int v200_35 :: .ref (a 216) :: .ref (a 217) :: .ref (a 218) :: .ref (a 219) :: [])), (a 201, .inl (t 0, 841, .inl f201)), (a 207, .inl (t 0, 9, .inl f207)), (a 208, .inl (t 0, 9, .inl f208)), (a 209, .inl (t 0, 9, .inl f209))] sz)) 0 0 (va_A [(a 200, .inr (12, .int v200_0 :: .ref (a 201) :: .ref (a 202) :: .ref (a 203) :: .ref (a 204) :: .int v200_5 :: .ref (a 205) :: .int v200_7 :: .int v200_8 :: .int v200_9 :: .int v200_10 :: .int v200_11 :: .int v200_12 :: .int v200_13 :: .ref (a 206) :: .int v200_15 :: .ref (a 207) :: .int v200_17 :: .int v200_18 :: .int v200_19 :: .ref (a 208) :: .int v200_21 :: .ref (a 209) :: .int v200_23 :: .ref (a 210) :: .ref (a 211) :: .ref (a 212) :: .int v200_27 :: .int v200_28 :: .int v200_29 :: .ref (a 213) :: .ref (a 214) :: .ref (a 215) :: .int v200_33 :: .int v200_34 :: .int v200_35 :: .ref (a 216) :: .ref (a 217) :: .ref (a 218) :: .ref (a 219) :: [])), (a 201, .inl (t 0, 841, .inl f201)), (a 207, .inl (t 0, 9, .inl f207)), (a 208, .inl (t 0, 9, .inl f208)), (a 209, .inl (t 0, 9, .inl f209))] sz) := by
  refine Met.ofW (cc := cX12_winner) (maxL := 5) (ret := (some .int)) (by decide) rfl ?_
  intro p e s m args below meth c s₁ B hml hv
  obtain ⟨rfl, hsz, hP, hK, hD0, hN⟩ := hv
  have hx := B.exec
  have hb := B.bytes
  have hr := B.returns
  have hts : ∀ w ∈ TB, w.before _ s = true := fun w h => atoms_spec (ws := wd yX12_winner cX12_winner 5 (some .int)) B.pre w (List.mem_cons_of_mem _ h)
  have hown : s.vm.findClass RX12 = some m.cls := findClass_of_methodNamed B.named
  have hlocks := B.notSynchronized
  have hF : CallFix p m c cX12_winner 5 s _ TB RX12 := ⟨hx, hb, hml, hown, hts⟩
  have hl := lv_entry ([.ref (a 200), .int p0, .int p1]) (n := 5) (Nat.le_of_ble_eq_true rfl)
  rw [lg_entry_eq]
  generalize (lg_sl ([.ref (a 200), .int p0, .int p1]) ++ List.replicate (5 - (lg_sl ([.ref (a 200), .int p0, .int p1])).length) Slot.unset).toArray = ls at hl ⊢
  have hl : lv_has ls 5 [(0, .ref (a 200)), (1, .int p0), (2, .int p1)] := hl
  subst hsz
  have hD := hD0.self (sz := s.heap.size)
  generalize hAe : va_A [(a 200, .inr (12, .int v200_0 :: .ref (a 201) :: .ref (a 202) :: .ref (a 203) :: .ref (a 204) :: .int v200_5 :: .ref (a 205) :: .int v200_7 :: .int v200_8 :: .int v200_9 :: .int v200_10 :: .int v200_11 :: .int v200_12 :: .int v200_13 :: .ref (a 206) :: .int v200_15 :: .ref (a 207) :: .int v200_17 :: .int v200_18 :: .int v200_19 :: .ref (a 208) :: .int v200_21 :: .ref (a 209) :: .int v200_23 :: .ref (a 210) :: .ref (a 211) :: .ref (a 212) :: .int v200_27 :: .int v200_28 :: .int v200_29 :: .ref (a 213) :: .ref (a 214) :: .ref (a 215) :: .int v200_33 :: .int v200_34 :: .int v200_35 :: .ref (a 216) :: .ref (a 217) :: .ref (a 218) :: .ref (a 219) :: [])), (a 201, .inl (t 0, 841, .inl f201)), (a 207, .inl (t 0, 9, .inl f207)), (a 208, .inl (t 0, 9, .inl f208)), (a 209, .inl (t 0, 9, .inl f209))] s.heap.size = A at hD ⊢
  have hA : ∀ q : Nat, s.heap.size ≤ q → A q := fun q h => by rw [← hAe]; exact Or.inr h
  have hS : va_S A s.heap s.heap [] := va_S.rf
  have hP : va_P D classes [(a 200, .inr (12, .int v200_0 :: .ref (a 201) :: .ref (a 202) :: .ref (a 203) :: .ref (a 204) :: .int v200_5 :: .ref (a 205) :: .int v200_7 :: .int v200_8 :: .int v200_9 :: .int v200_10 :: .int v200_11 :: .int v200_12 :: .int v200_13 :: .ref (a 206) :: .int v200_15 :: .ref (a 207) :: .int v200_17 :: .int v200_18 :: .int v200_19 :: .ref (a 208) :: .int v200_21 :: .ref (a 209) :: .int v200_23 :: .ref (a 210) :: .ref (a 211) :: .ref (a 212) :: .int v200_27 :: .int v200_28 :: .int v200_29 :: .ref (a 213) :: .ref (a 214) :: .ref (a 215) :: .int v200_33 :: .int v200_34 :: .int v200_35 :: .ref (a 216) :: .ref (a 217) :: .ref (a 218) :: .ref (a 219) :: [])), (a 201, .inl (t 0, 841, .inl f201)), (a 207, .inl (t 0, 9, .inl f207)), (a 208, .inl (t 0, 9, .inl f208)), (a 209, .inl (t 0, 9, .inl f209))] s.heap := hP
  refine lv_aload_n hx hb dX12_winner_0 rfl (lv_at hl 0 rfl) ?_
  refine lv_iload_n hx hb dX12_winner_1 rfl (lv_at hl 1 rfl) ?_
  refine y_pV hF (s_X12_standingIn l D t a v200_0 v200_5 v200_7 v200_8 v200_9 v200_10 v200_11 v200_12 v200_13 v200_15 v200_17 v200_18 v200_19 v200_21 v200_23 v200_27 v200_28 v200_29 v200_33 v200_34 v200_35 f201 p0 r200_5 r200_7 r200_8 r200_9 r200_23 q201) m_1652 m_1654 m_s65 m_13 m_1655 hd_X12_standingIn ⟨Nat.le_of_ble_eq_true rfl, Nat.le_of_ble_eq_true rfl⟩ hK hN hP hS [0, 1] rfl 0 (ci := 12) rfl rfl rfl hl.1 rfl (Nat.le_of_ble_eq_true rfl) dX12_winner_2 ⟨Nat.zero_le _, Nat.zero_le _⟩ (fun r_1 H locs hr_1 hP hS => ?_)
  have or_1 := hr_1.2
  refine lv_istore_n (lv' := [(3, .int r_1), (0, .ref (a 200)), (1, .int p0), (2, .int p1)]) hx hb dX12_winner_5 rfl hl (by decide) rfl (fun ls hl => ?_)
  refine lv_iload_n hx hb dX12_winner_6 rfl (lv_at hl 0 rfl) ?_
  refine lv_if_ne (tgt := 12) hx hb dX12_winner_7 (by decide) (fun c_2 => ?_) (fun c_2 => ?_)
  · skip
    have zc_3 : (0 : Int32).toInt = 0 := rfl
    have tc_2 : ¬ (r_1 : Int32).toInt = (0 : Int32).toInt := fun z9 => c_2 (Int32.toInt_inj.mp z9)
    have h_4 : rg 1 511 r_1 := rg_w (rg_neL hr_1.1 c_2 (by decide)) (by decide) (by decide)
    have k_5z : ¬ r_1 = 0 := fun z9 => by have z8 := congrArg Int32.toInt z9; have z7 : (0 : Int32).toInt = 0 := rfl; omega
    obtain ⟨k_5, k_5a, k_5b, k_5c⟩ := nz_of (n := (f201 5)) (q201 5 (by decide)) or_1 k_5z
    refine lv_iload_n hx hb dX12_winner_12 rfl (lv_at hl 3 rfl) ?_
    refine lv_iconst (v := 2) hx hb dX12_winner_13 (by decide) ?_
    refine lv_icmp_ne (tgt := 28) hx hb dX12_winner_14 (by decide) (fun c_6 => ?_) (fun c_6 => ?_)
    · skip
      have zc_7 : (2 : Int32).toInt = 2 := by decide
      have tc_6 : ¬ (p1 : Int32).toInt = (2 : Int32).toInt := fun z9 => c_6 (Int32.toInt_inj.mp z9)
      refine lv_iload_n hx hb dX12_winner_28 rfl (lv_at hl 3 rfl) ?_
      refine lv_iconst (v := 1) hx hb dX12_winner_29 (by decide) ?_
      refine lv_icmp_ne (tgt := 44) hx hb dX12_winner_30 (by decide) (fun c_8 => ?_) (fun c_8 => ?_)
      · skip
        have zc_9 : (1 : Int32).toInt = 1 := by decide
        have tc_8 : ¬ (p1 : Int32).toInt = (1 : Int32).toInt := fun z9 => c_8 (Int32.toInt_inj.mp z9)
        refine lv_aload_n hx hb dX12_winner_44 rfl (lv_at hl 1 rfl) ?_
        refine lv_iload_n hx hb dX12_winner_45 rfl (lv_at hl 2 rfl) ?_
        refine lv_iload_n hx hb dX12_winner_46 rfl (lv_at hl 0 rfl) ?_
        refine lv_iload_n hx hb dX12_winner_47 rfl (lv_at hl 3 rfl) ?_
        refine lv_iconst (v := 3) hx hb dX12_winner_48 (by decide) ?_
        refine lv_icmp_ne (tgt := 56) hx hb dX12_winner_49 (by decide) (fun c_10 => ?_) (fun c_10 => ?_)
        · skip
          have zc_11 : (3 : Int32).toInt = 3 := by decide
          have tc_10 : ¬ (p1 : Int32).toInt = (3 : Int32).toInt := fun z9 => c_10 (Int32.toInt_inj.mp z9)
          refine lv_iconst (v := 0) hx hb dX12_winner_56 (by decide) ?_
          refine y_wV (wr := [(a 209, .inl (t 0, 9, .inl f209))]) hF (s_X12_count l D t a v200_0 v200_5 v200_7 v200_8 v200_9 v200_10 v200_11 v200_12 v200_13 v200_15 v200_17 v200_18 v200_19 v200_21 v200_23 v200_27 v200_28 v200_29 v200_33 v200_34 v200_35 f201 f207 f208 p0 r_1 0 r200_5 r200_7 r200_8 r200_9 r200_23 q201 (rg_w (c := 0) (d := 1) (rg_c (x := 0) (k := 0) (by decide)) (by decide) (by decide)) H.size) m_1695 m_1697 m_s72 m_13 m_1698 hd_X12_count ⟨Nat.le_of_ble_eq_true rfl, Nat.le_of_ble_eq_true rfl⟩ hK hN hP hD hS hA 0 (ci := 12) rfl rfl rfl [0, 1, 2, 3] [4] rfl rfl (by decide) (by decide) (by decide) hl.1 rfl (Nat.le_of_ble_eq_true rfl) dX12_winner_57 ⟨Nat.zero_le _, Nat.zero_le _⟩ (fun u_12 H locs hu_12 hP hD hS => ?_)
          have hP : va_P D classes [(a 209, .inl (t 0, 9, .inl f209)), (a 200, .inr (12, .int v200_0 :: .ref (a 201) :: .ref (a 202) :: .ref (a 203) :: .ref (a 204) :: .int v200_5 :: .ref (a 205) :: .int v200_7 :: .int v200_8 :: .int v200_9 :: .int v200_10 :: .int v200_11 :: .int v200_12 :: .int v200_13 :: .ref (a 206) :: .int v200_15 :: .ref (a 207) :: .int v200_17 :: .int v200_18 :: .int v200_19 :: .ref (a 208) :: .int (u_12.1 0) :: .ref (a 209) :: .int v200_23 :: .ref (a 210) :: .ref (a 211) :: .ref (a 212) :: .int v200_27 :: .int v200_28 :: .int v200_29 :: .ref (a 213) :: .ref (a 214) :: .ref (a 215) :: .int v200_33 :: .int v200_34 :: .int v200_35 :: .ref (a 216) :: .ref (a 217) :: .ref (a 218) :: .ref (a 219) :: [])), (a 201, .inl (t 0, 841, .inl f201)), (a 207, .inl (t 0, 9, .inl f207)), (a 208, .inl (t 0, 9, .inl (u_12.2.1 0)))] H := hP
          have hD : va_D A [(a 209, .inl (t 0, 9, .inl f209)), (a 200, .inr (12, .int v200_0 :: .ref (a 201) :: .ref (a 202) :: .ref (a 203) :: .ref (a 204) :: .int v200_5 :: .ref (a 205) :: .int v200_7 :: .int v200_8 :: .int v200_9 :: .int v200_10 :: .int v200_11 :: .int v200_12 :: .int v200_13 :: .ref (a 206) :: .int v200_15 :: .ref (a 207) :: .int v200_17 :: .int v200_18 :: .int v200_19 :: .ref (a 208) :: .int (u_12.1 0) :: .ref (a 209) :: .int v200_23 :: .ref (a 210) :: .ref (a 211) :: .ref (a 212) :: .int v200_27 :: .int v200_28 :: .int v200_29 :: .ref (a 213) :: .ref (a 214) :: .ref (a 215) :: .int v200_33 :: .int v200_34 :: .int v200_35 :: .ref (a 216) :: .ref (a 217) :: .ref (a 218) :: .ref (a 219) :: [])), (a 201, .inl (t 0, 841, .inl f201)), (a 207, .inl (t 0, 9, .inl f207)), (a 208, .inl (t 0, 9, .inl (u_12.2.1 0)))] := hD
          refine lv_aload_n hx hb dX12_winner_60 rfl (lv_at hl 1 rfl) ?_
          refine lv_iload_n hx hb dX12_winner_61 rfl (lv_at hl 0 rfl) ?_
          refine y_pV hF (s_X12_mostOfNZ l D t a v200_0 v200_5 v200_7 v200_8 v200_9 v200_10 v200_11 v200_12 v200_13 v200_15 v200_17 v200_18 v200_19 (u_12.1 0) v200_23 v200_27 v200_28 v200_29 v200_33 v200_34 v200_35 f201 (u_12.2.1 0) r_1 r200_5 r200_7 r200_8 r200_9 r200_23 q201 k_5 k_5a k_5b k_5c) m_1722 m_1724 m_s76 m_13 m_1725 hd_X12_mostOf ⟨Nat.le_of_ble_eq_true rfl, Nat.le_of_ble_eq_true rfl⟩ hK hN hP hS [1, 2, 4] rfl 0 (ci := 12) rfl rfl rfl hl.1 rfl (Nat.le_of_ble_eq_true rfl) dX12_winner_62 ⟨Nat.zero_le _, Nat.zero_le _⟩ (fun r_14 H locs hr_14 hP hS => ?_)
          have or_14 := hr_14.2
          refine lv_istore (lv' := [(4, .int r_14), (3, .int r_1), (0, .ref (a 200)), (1, .int p0), (2, .int p1)]) hx hb dX12_winner_65 hl (by decide) rfl (fun ls hl => ?_)
          refine lv_aload_n hx hb dX12_winner_67 rfl (lv_at hl 2 rfl) ?_
          refine va_get (D := D) (ci := 12) (v := .ref (a 208)) (C := RX12) (T := TX12) (N := 40) hx hb hts iX12 hown hK hP 1 rfl rfl 20 (by decide) (hts _ m_1363) (fun _ h9 => h9) rfl dX12_winner_68 ?_
          refine lv_iload hx hb dX12_winner_71 (lv_at hl 0 rfl) ?_
          refine va_iald hx hb hK hP 4 0 rfl rfl (in_rg hr_14.1 (by decide) (by decide)) dX12_winner_73 ?_
          refine lv_topi (fun x_15 ex_15 => ?_)
          refine lv_if_ne (tgt := 81) hx hb dX12_winner_74 (by decide) (fun c_16 => ?_) (fun c_16 => ?_)
          · skip
            have zc_17 : (0 : Int32).toInt = 0 := rfl
            have tc_16 : ¬ (x_15 : Int32).toInt = (0 : Int32).toInt := fun z9 => c_16 (Int32.toInt_inj.mp z9)
            refine lv_iload hx hb dX12_winner_81 (lv_at hl 0 rfl) ?_
            have hP9 := hP.sub (ws' := [(a 200, .inr (12, .int v200_0 :: .ref (a 201) :: .ref (a 202) :: .ref (a 203) :: .ref (a 204) :: .int v200_5 :: .ref (a 205) :: .int v200_7 :: .int v200_8 :: .int v200_9 :: .int v200_10 :: .int v200_11 :: .int v200_12 :: .int v200_13 :: .ref (a 206) :: .int v200_15 :: .ref (a 207) :: .int v200_17 :: .int v200_18 :: .int v200_19 :: .ref (a 208) :: .int (u_12.1 0) :: .ref (a 209) :: .int v200_23 :: .ref (a 210) :: .ref (a 211) :: .ref (a 212) :: .int v200_27 :: .int v200_28 :: .int v200_29 :: .ref (a 213) :: .ref (a 214) :: .ref (a 215) :: .int v200_33 :: .int v200_34 :: .int v200_35 :: .ref (a 216) :: .ref (a 217) :: .ref (a 218) :: .ref (a 219) :: [])), (a 201, .inl (t 0, 841, .inl f201)), (a 207, .inl (t 0, 9, .inl f207)), (a 208, .inl (t 0, 9, .inl (u_12.2.1 0))), (a 209, .inl (t 0, 9, .inl f209))]) [1, 2, 3, 4, 0] rfl
            have hD9 := hD.sub (ws' := [(a 200, .inr (12, .int v200_0 :: .ref (a 201) :: .ref (a 202) :: .ref (a 203) :: .ref (a 204) :: .int v200_5 :: .ref (a 205) :: .int v200_7 :: .int v200_8 :: .int v200_9 :: .int v200_10 :: .int v200_11 :: .int v200_12 :: .int v200_13 :: .ref (a 206) :: .int v200_15 :: .ref (a 207) :: .int v200_17 :: .int v200_18 :: .int v200_19 :: .ref (a 208) :: .int (u_12.1 0) :: .ref (a 209) :: .int v200_23 :: .ref (a 210) :: .ref (a 211) :: .ref (a 212) :: .int v200_27 :: .int v200_28 :: .int v200_29 :: .ref (a 213) :: .ref (a 214) :: .ref (a 215) :: .int v200_33 :: .int v200_34 :: .int v200_35 :: .ref (a 216) :: .ref (a 217) :: .ref (a 218) :: .ref (a 219) :: [])), (a 201, .inl (t 0, 841, .inl f201)), (a 207, .inl (t 0, 9, .inl f207)), (a 208, .inl (t 0, 9, .inl (u_12.2.1 0))), (a 209, .inl (t 0, 9, .inl f209))]) [1, 2, 3, 4, 0] (by decide) rfl
            exact W.iret (v := r_14) hx hb hr (fun t9 ht hW => ⟨⟨r_14, (fun k => [(u_12.1 0), v200_23].getD k 0, fun k => [(u_12.2.1 0), f209].getD k (fun _ => 0), fun k => [].getD k (fun _ => 0), fun _ => 0), rfl, ⟨(rg_w (c := (-1)) (d := 8) hr_14.1 (by decide) (by decide)), r200_23⟩, by rw [ht]; exact hP9, hD9⟩, hS.F ht⟩) hS.2.2 dX12_winner_83
          · skip
            have zc_18 : (0 : Int32).toInt = 0 := rfl
            have tc_16 : (x_15 : Int32).toInt = (0 : Int32).toInt := congrArg Int32.toInt (by first | exact c_16 | exact Classical.not_not.mp c_16)
            have h_19 : rg 0 0 x_15 := rg_eq c_16 (rg_c (x := 0) (k := 0) (by decide))
            refine lv_iconst (v := (-1)) hx hb dX12_winner_77 (by decide) ?_
            refine lv_goto (tgt := 83) hx hb dX12_winner_78 (by decide) ?_
            have hP9 := hP.sub (ws' := [(a 200, .inr (12, .int v200_0 :: .ref (a 201) :: .ref (a 202) :: .ref (a 203) :: .ref (a 204) :: .int v200_5 :: .ref (a 205) :: .int v200_7 :: .int v200_8 :: .int v200_9 :: .int v200_10 :: .int v200_11 :: .int v200_12 :: .int v200_13 :: .ref (a 206) :: .int v200_15 :: .ref (a 207) :: .int v200_17 :: .int v200_18 :: .int v200_19 :: .ref (a 208) :: .int (u_12.1 0) :: .ref (a 209) :: .int v200_23 :: .ref (a 210) :: .ref (a 211) :: .ref (a 212) :: .int v200_27 :: .int v200_28 :: .int v200_29 :: .ref (a 213) :: .ref (a 214) :: .ref (a 215) :: .int v200_33 :: .int v200_34 :: .int v200_35 :: .ref (a 216) :: .ref (a 217) :: .ref (a 218) :: .ref (a 219) :: [])), (a 201, .inl (t 0, 841, .inl f201)), (a 207, .inl (t 0, 9, .inl f207)), (a 208, .inl (t 0, 9, .inl (u_12.2.1 0))), (a 209, .inl (t 0, 9, .inl f209))]) [1, 2, 3, 4, 0] rfl
            have hD9 := hD.sub (ws' := [(a 200, .inr (12, .int v200_0 :: .ref (a 201) :: .ref (a 202) :: .ref (a 203) :: .ref (a 204) :: .int v200_5 :: .ref (a 205) :: .int v200_7 :: .int v200_8 :: .int v200_9 :: .int v200_10 :: .int v200_11 :: .int v200_12 :: .int v200_13 :: .ref (a 206) :: .int v200_15 :: .ref (a 207) :: .int v200_17 :: .int v200_18 :: .int v200_19 :: .ref (a 208) :: .int (u_12.1 0) :: .ref (a 209) :: .int v200_23 :: .ref (a 210) :: .ref (a 211) :: .ref (a 212) :: .int v200_27 :: .int v200_28 :: .int v200_29 :: .ref (a 213) :: .ref (a 214) :: .ref (a 215) :: .int v200_33 :: .int v200_34 :: .int v200_35 :: .ref (a 216) :: .ref (a 217) :: .ref (a 218) :: .ref (a 219) :: [])), (a 201, .inl (t 0, 841, .inl f201)), (a 207, .inl (t 0, 9, .inl f207)), (a 208, .inl (t 0, 9, .inl (u_12.2.1 0))), (a 209, .inl (t 0, 9, .inl f209))]) [1, 2, 3, 4, 0] (by decide) rfl
            exact W.iret (v := (-1)) hx hb hr (fun t9 ht hW => ⟨⟨(-1), (fun k => [(u_12.1 0), v200_23].getD k 0, fun k => [(u_12.2.1 0), f209].getD k (fun _ => 0), fun k => [].getD k (fun _ => 0), fun _ => 0), rfl, ⟨(rg_w (c := (-1)) (d := 8) (rg_c (x := (-1)) (k := (-1)) (by decide)) (by decide) (by decide)), r200_23⟩, by rw [ht]; exact hP9, hD9⟩, hS.F ht⟩) hS.2.2 dX12_winner_83
        · skip
          have zc_20 : (3 : Int32).toInt = 3 := by decide
          have tc_10 : (p1 : Int32).toInt = (3 : Int32).toInt := congrArg Int32.toInt (by first | exact c_10 | exact Classical.not_not.mp c_10)
          have h_21 : rg 3 3 p1 := rg_eq c_10 (rg_c (x := 3) (k := 3) (by decide))
          refine lv_iconst (v := 1) hx hb dX12_winner_52 (by decide) ?_
          refine lv_goto (tgt := 57) hx hb dX12_winner_53 (by decide) ?_
          refine y_wV (wr := [(a 209, .inl (t 0, 9, .inl f209))]) hF (s_X12_count l D t a v200_0 v200_5 v200_7 v200_8 v200_9 v200_10 v200_11 v200_12 v200_13 v200_15 v200_17 v200_18 v200_19 v200_21 v200_23 v200_27 v200_28 v200_29 v200_33 v200_34 v200_35 f201 f207 f208 p0 r_1 1 r200_5 r200_7 r200_8 r200_9 r200_23 q201 (rg_w (c := 0) (d := 1) (rg_c (x := 1) (k := 1) (by decide)) (by decide) (by decide)) H.size) m_1695 m_1697 m_s72 m_13 m_1698 hd_X12_count ⟨Nat.le_of_ble_eq_true rfl, Nat.le_of_ble_eq_true rfl⟩ hK hN hP hD hS hA 0 (ci := 12) rfl rfl rfl [0, 1, 2, 3] [4] rfl rfl (by decide) (by decide) (by decide) hl.1 rfl (Nat.le_of_ble_eq_true rfl) dX12_winner_57 ⟨Nat.zero_le _, Nat.zero_le _⟩ (fun u_22 H locs hu_22 hP hD hS => ?_)
          have hP : va_P D classes [(a 209, .inl (t 0, 9, .inl f209)), (a 200, .inr (12, .int v200_0 :: .ref (a 201) :: .ref (a 202) :: .ref (a 203) :: .ref (a 204) :: .int v200_5 :: .ref (a 205) :: .int v200_7 :: .int v200_8 :: .int v200_9 :: .int v200_10 :: .int v200_11 :: .int v200_12 :: .int v200_13 :: .ref (a 206) :: .int v200_15 :: .ref (a 207) :: .int v200_17 :: .int v200_18 :: .int v200_19 :: .ref (a 208) :: .int (u_22.1 0) :: .ref (a 209) :: .int v200_23 :: .ref (a 210) :: .ref (a 211) :: .ref (a 212) :: .int v200_27 :: .int v200_28 :: .int v200_29 :: .ref (a 213) :: .ref (a 214) :: .ref (a 215) :: .int v200_33 :: .int v200_34 :: .int v200_35 :: .ref (a 216) :: .ref (a 217) :: .ref (a 218) :: .ref (a 219) :: [])), (a 201, .inl (t 0, 841, .inl f201)), (a 207, .inl (t 0, 9, .inl f207)), (a 208, .inl (t 0, 9, .inl (u_22.2.1 0)))] H := hP
          have hD : va_D A [(a 209, .inl (t 0, 9, .inl f209)), (a 200, .inr (12, .int v200_0 :: .ref (a 201) :: .ref (a 202) :: .ref (a 203) :: .ref (a 204) :: .int v200_5 :: .ref (a 205) :: .int v200_7 :: .int v200_8 :: .int v200_9 :: .int v200_10 :: .int v200_11 :: .int v200_12 :: .int v200_13 :: .ref (a 206) :: .int v200_15 :: .ref (a 207) :: .int v200_17 :: .int v200_18 :: .int v200_19 :: .ref (a 208) :: .int (u_22.1 0) :: .ref (a 209) :: .int v200_23 :: .ref (a 210) :: .ref (a 211) :: .ref (a 212) :: .int v200_27 :: .int v200_28 :: .int v200_29 :: .ref (a 213) :: .ref (a 214) :: .ref (a 215) :: .int v200_33 :: .int v200_34 :: .int v200_35 :: .ref (a 216) :: .ref (a 217) :: .ref (a 218) :: .ref (a 219) :: [])), (a 201, .inl (t 0, 841, .inl f201)), (a 207, .inl (t 0, 9, .inl f207)), (a 208, .inl (t 0, 9, .inl (u_22.2.1 0)))] := hD
          refine lv_aload_n hx hb dX12_winner_60 rfl (lv_at hl 1 rfl) ?_
          refine lv_iload_n hx hb dX12_winner_61 rfl (lv_at hl 0 rfl) ?_
          refine y_pV hF (s_X12_mostOfNZ l D t a v200_0 v200_5 v200_7 v200_8 v200_9 v200_10 v200_11 v200_12 v200_13 v200_15 v200_17 v200_18 v200_19 (u_22.1 0) v200_23 v200_27 v200_28 v200_29 v200_33 v200_34 v200_35 f201 (u_22.2.1 0) r_1 r200_5 r200_7 r200_8 r200_9 r200_23 q201 k_5 k_5a k_5b k_5c) m_1722 m_1724 m_s76 m_13 m_1725 hd_X12_mostOf ⟨Nat.le_of_ble_eq_true rfl, Nat.le_of_ble_eq_true rfl⟩ hK hN hP hS [1, 2, 4] rfl 0 (ci := 12) rfl rfl rfl hl.1 rfl (Nat.le_of_ble_eq_true rfl) dX12_winner_62 ⟨Nat.zero_le _, Nat.zero_le _⟩ (fun r_24 H locs hr_24 hP hS => ?_)
          have or_24 := hr_24.2
          refine lv_istore (lv' := [(4, .int r_24), (3, .int r_1), (0, .ref (a 200)), (1, .int p0), (2, .int p1)]) hx hb dX12_winner_65 hl (by decide) rfl (fun ls hl => ?_)
          refine lv_aload_n hx hb dX12_winner_67 rfl (lv_at hl 2 rfl) ?_
          refine va_get (D := D) (ci := 12) (v := .ref (a 208)) (C := RX12) (T := TX12) (N := 40) hx hb hts iX12 hown hK hP 1 rfl rfl 20 (by decide) (hts _ m_1363) (fun _ h9 => h9) rfl dX12_winner_68 ?_
          refine lv_iload hx hb dX12_winner_71 (lv_at hl 0 rfl) ?_
          refine va_iald hx hb hK hP 4 0 rfl rfl (in_rg hr_24.1 (by decide) (by decide)) dX12_winner_73 ?_
          refine lv_topi (fun x_25 ex_25 => ?_)
          refine lv_if_ne (tgt := 81) hx hb dX12_winner_74 (by decide) (fun c_26 => ?_) (fun c_26 => ?_)
          · skip
            have zc_27 : (0 : Int32).toInt = 0 := rfl
            have tc_26 : ¬ (x_25 : Int32).toInt = (0 : Int32).toInt := fun z9 => c_26 (Int32.toInt_inj.mp z9)
            refine lv_iload hx hb dX12_winner_81 (lv_at hl 0 rfl) ?_
            have hP9 := hP.sub (ws' := [(a 200, .inr (12, .int v200_0 :: .ref (a 201) :: .ref (a 202) :: .ref (a 203) :: .ref (a 204) :: .int v200_5 :: .ref (a 205) :: .int v200_7 :: .int v200_8 :: .int v200_9 :: .int v200_10 :: .int v200_11 :: .int v200_12 :: .int v200_13 :: .ref (a 206) :: .int v200_15 :: .ref (a 207) :: .int v200_17 :: .int v200_18 :: .int v200_19 :: .ref (a 208) :: .int (u_22.1 0) :: .ref (a 209) :: .int v200_23 :: .ref (a 210) :: .ref (a 211) :: .ref (a 212) :: .int v200_27 :: .int v200_28 :: .int v200_29 :: .ref (a 213) :: .ref (a 214) :: .ref (a 215) :: .int v200_33 :: .int v200_34 :: .int v200_35 :: .ref (a 216) :: .ref (a 217) :: .ref (a 218) :: .ref (a 219) :: [])), (a 201, .inl (t 0, 841, .inl f201)), (a 207, .inl (t 0, 9, .inl f207)), (a 208, .inl (t 0, 9, .inl (u_22.2.1 0))), (a 209, .inl (t 0, 9, .inl f209))]) [1, 2, 3, 4, 0] rfl
            have hD9 := hD.sub (ws' := [(a 200, .inr (12, .int v200_0 :: .ref (a 201) :: .ref (a 202) :: .ref (a 203) :: .ref (a 204) :: .int v200_5 :: .ref (a 205) :: .int v200_7 :: .int v200_8 :: .int v200_9 :: .int v200_10 :: .int v200_11 :: .int v200_12 :: .int v200_13 :: .ref (a 206) :: .int v200_15 :: .ref (a 207) :: .int v200_17 :: .int v200_18 :: .int v200_19 :: .ref (a 208) :: .int (u_22.1 0) :: .ref (a 209) :: .int v200_23 :: .ref (a 210) :: .ref (a 211) :: .ref (a 212) :: .int v200_27 :: .int v200_28 :: .int v200_29 :: .ref (a 213) :: .ref (a 214) :: .ref (a 215) :: .int v200_33 :: .int v200_34 :: .int v200_35 :: .ref (a 216) :: .ref (a 217) :: .ref (a 218) :: .ref (a 219) :: [])), (a 201, .inl (t 0, 841, .inl f201)), (a 207, .inl (t 0, 9, .inl f207)), (a 208, .inl (t 0, 9, .inl (u_22.2.1 0))), (a 209, .inl (t 0, 9, .inl f209))]) [1, 2, 3, 4, 0] (by decide) rfl
            exact W.iret (v := r_24) hx hb hr (fun t9 ht hW => ⟨⟨r_24, (fun k => [(u_22.1 0), v200_23].getD k 0, fun k => [(u_22.2.1 0), f209].getD k (fun _ => 0), fun k => [].getD k (fun _ => 0), fun _ => 0), rfl, ⟨(rg_w (c := (-1)) (d := 8) hr_24.1 (by decide) (by decide)), r200_23⟩, by rw [ht]; exact hP9, hD9⟩, hS.F ht⟩) hS.2.2 dX12_winner_83
          · skip
            have zc_28 : (0 : Int32).toInt = 0 := rfl
            have tc_26 : (x_25 : Int32).toInt = (0 : Int32).toInt := congrArg Int32.toInt (by first | exact c_26 | exact Classical.not_not.mp c_26)
            have h_29 : rg 0 0 x_25 := rg_eq c_26 (rg_c (x := 0) (k := 0) (by decide))
            refine lv_iconst (v := (-1)) hx hb dX12_winner_77 (by decide) ?_
            refine lv_goto (tgt := 83) hx hb dX12_winner_78 (by decide) ?_
            have hP9 := hP.sub (ws' := [(a 200, .inr (12, .int v200_0 :: .ref (a 201) :: .ref (a 202) :: .ref (a 203) :: .ref (a 204) :: .int v200_5 :: .ref (a 205) :: .int v200_7 :: .int v200_8 :: .int v200_9 :: .int v200_10 :: .int v200_11 :: .int v200_12 :: .int v200_13 :: .ref (a 206) :: .int v200_15 :: .ref (a 207) :: .int v200_17 :: .int v200_18 :: .int v200_19 :: .ref (a 208) :: .int (u_22.1 0) :: .ref (a 209) :: .int v200_23 :: .ref (a 210) :: .ref (a 211) :: .ref (a 212) :: .int v200_27 :: .int v200_28 :: .int v200_29 :: .ref (a 213) :: .ref (a 214) :: .ref (a 215) :: .int v200_33 :: .int v200_34 :: .int v200_35 :: .ref (a 216) :: .ref (a 217) :: .ref (a 218) :: .ref (a 219) :: [])), (a 201, .inl (t 0, 841, .inl f201)), (a 207, .inl (t 0, 9, .inl f207)), (a 208, .inl (t 0, 9, .inl (u_22.2.1 0))), (a 209, .inl (t 0, 9, .inl f209))]) [1, 2, 3, 4, 0] rfl
            have hD9 := hD.sub (ws' := [(a 200, .inr (12, .int v200_0 :: .ref (a 201) :: .ref (a 202) :: .ref (a 203) :: .ref (a 204) :: .int v200_5 :: .ref (a 205) :: .int v200_7 :: .int v200_8 :: .int v200_9 :: .int v200_10 :: .int v200_11 :: .int v200_12 :: .int v200_13 :: .ref (a 206) :: .int v200_15 :: .ref (a 207) :: .int v200_17 :: .int v200_18 :: .int v200_19 :: .ref (a 208) :: .int (u_22.1 0) :: .ref (a 209) :: .int v200_23 :: .ref (a 210) :: .ref (a 211) :: .ref (a 212) :: .int v200_27 :: .int v200_28 :: .int v200_29 :: .ref (a 213) :: .ref (a 214) :: .ref (a 215) :: .int v200_33 :: .int v200_34 :: .int v200_35 :: .ref (a 216) :: .ref (a 217) :: .ref (a 218) :: .ref (a 219) :: [])), (a 201, .inl (t 0, 841, .inl f201)), (a 207, .inl (t 0, 9, .inl f207)), (a 208, .inl (t 0, 9, .inl (u_22.2.1 0))), (a 209, .inl (t 0, 9, .inl f209))]) [1, 2, 3, 4, 0] (by decide) rfl
            exact W.iret (v := (-1)) hx hb hr (fun t9 ht hW => ⟨⟨(-1), (fun k => [(u_22.1 0), v200_23].getD k 0, fun k => [(u_22.2.1 0), f209].getD k (fun _ => 0), fun k => [].getD k (fun _ => 0), fun _ => 0), rfl, ⟨(rg_w (c := (-1)) (d := 8) (rg_c (x := (-1)) (k := (-1)) (by decide)) (by decide) (by decide)), r200_23⟩, by rw [ht]; exact hP9, hD9⟩, hS.F ht⟩) hS.2.2 dX12_winner_83
      · skip
        have zc_30 : (1 : Int32).toInt = 1 := by decide
        have tc_8 : (p1 : Int32).toInt = (1 : Int32).toInt := congrArg Int32.toInt (by first | exact c_8 | exact Classical.not_not.mp c_8)
        have h_31 : rg 1 1 p1 := rg_eq c_8 (rg_c (x := 1) (k := 1) (by decide))
        refine lv_aload_n hx hb dX12_winner_33 rfl (lv_at hl 1 rfl) ?_
        refine lv_iload_n hx hb dX12_winner_34 rfl (lv_at hl 2 rfl) ?_
        refine lv_iload_n hx hb dX12_winner_35 rfl (lv_at hl 0 rfl) ?_
        refine y_wVi (wr := [(a 209, .inl (t 0, 9, .inl f209))]) hF (s_X12_runsOff l D t a v200_0 v200_5 v200_7 v200_8 v200_9 v200_10 v200_11 v200_12 v200_13 v200_15 v200_17 v200_18 v200_19 v200_21 v200_23 v200_27 v200_28 v200_29 v200_33 v200_34 v200_35 f201 f207 f208 p0 r_1 r200_5 r200_7 r200_8 r200_9 r200_23 q201 or_1 k_5z H.size) m_1726 m_1728 m_s77 m_13 m_1729 hd_X12_runsOff ⟨Nat.le_of_ble_eq_true rfl, Nat.le_of_ble_eq_true rfl⟩ hK hN hP hD hS hA 0 (ci := 12) rfl rfl rfl [0, 1, 2, 3] [4] rfl rfl (by decide) (by decide) (by decide) hl.1 rfl (Nat.le_of_ble_eq_true rfl) dX12_winner_36 ⟨Nat.zero_le _, Nat.zero_le _⟩ (fun r_33 u_32 H locs hu_32 hP hD hS => ?_)
        have hr_33 := hu_32
        have hP : va_P D classes [(a 209, .inl (t 0, 9, .inl f209)), (a 200, .inr (12, .int v200_0 :: .ref (a 201) :: .ref (a 202) :: .ref (a 203) :: .ref (a 204) :: .int v200_5 :: .ref (a 205) :: .int v200_7 :: .int v200_8 :: .int v200_9 :: .int v200_10 :: .int v200_11 :: .int v200_12 :: .int v200_13 :: .ref (a 206) :: .int v200_15 :: .ref (a 207) :: .int v200_17 :: .int v200_18 :: .int v200_19 :: .ref (a 208) :: .int (u_32.1 0) :: .ref (a 209) :: .int v200_23 :: .ref (a 210) :: .ref (a 211) :: .ref (a 212) :: .int v200_27 :: .int v200_28 :: .int v200_29 :: .ref (a 213) :: .ref (a 214) :: .ref (a 215) :: .int v200_33 :: .int v200_34 :: .int v200_35 :: .ref (a 216) :: .ref (a 217) :: .ref (a 218) :: .ref (a 219) :: [])), (a 201, .inl (t 0, 841, .inl f201)), (a 207, .inl (t 0, 9, .inl f207)), (a 208, .inl (t 0, 9, .inl (u_32.2.1 0)))] H := hP
        have hD : va_D A [(a 209, .inl (t 0, 9, .inl f209)), (a 200, .inr (12, .int v200_0 :: .ref (a 201) :: .ref (a 202) :: .ref (a 203) :: .ref (a 204) :: .int v200_5 :: .ref (a 205) :: .int v200_7 :: .int v200_8 :: .int v200_9 :: .int v200_10 :: .int v200_11 :: .int v200_12 :: .int v200_13 :: .ref (a 206) :: .int v200_15 :: .ref (a 207) :: .int v200_17 :: .int v200_18 :: .int v200_19 :: .ref (a 208) :: .int (u_32.1 0) :: .ref (a 209) :: .int v200_23 :: .ref (a 210) :: .ref (a 211) :: .ref (a 212) :: .int v200_27 :: .int v200_28 :: .int v200_29 :: .ref (a 213) :: .ref (a 214) :: .ref (a 215) :: .int v200_33 :: .int v200_34 :: .int v200_35 :: .ref (a 216) :: .ref (a 217) :: .ref (a 218) :: .ref (a 219) :: [])), (a 201, .inl (t 0, 841, .inl f201)), (a 207, .inl (t 0, 9, .inl f207)), (a 208, .inl (t 0, 9, .inl (u_32.2.1 0)))] := hD
        refine lv_istore (lv' := [(4, .int r_33), (3, .int r_1), (0, .ref (a 200)), (1, .int p0), (2, .int p1)]) hx hb dX12_winner_39 hl (by decide) rfl (fun ls hl => ?_)
        refine lv_goto (tgt := 67) hx hb dX12_winner_41 (by decide) ?_
        refine lv_aload_n hx hb dX12_winner_67 rfl (lv_at hl 2 rfl) ?_
        refine va_get (D := D) (ci := 12) (v := .ref (a 208)) (C := RX12) (T := TX12) (N := 40) hx hb hts iX12 hown hK hP 1 rfl rfl 20 (by decide) (hts _ m_1363) (fun _ h9 => h9) rfl dX12_winner_68 ?_
        refine lv_iload hx hb dX12_winner_71 (lv_at hl 0 rfl) ?_
        refine va_iald hx hb hK hP 4 0 rfl rfl (in_rg hr_33 (by decide) (by decide)) dX12_winner_73 ?_
        refine lv_topi (fun x_34 ex_34 => ?_)
        refine lv_if_ne (tgt := 81) hx hb dX12_winner_74 (by decide) (fun c_35 => ?_) (fun c_35 => ?_)
        · skip
          have zc_36 : (0 : Int32).toInt = 0 := rfl
          have tc_35 : ¬ (x_34 : Int32).toInt = (0 : Int32).toInt := fun z9 => c_35 (Int32.toInt_inj.mp z9)
          refine lv_iload hx hb dX12_winner_81 (lv_at hl 0 rfl) ?_
          have hP9 := hP.sub (ws' := [(a 200, .inr (12, .int v200_0 :: .ref (a 201) :: .ref (a 202) :: .ref (a 203) :: .ref (a 204) :: .int v200_5 :: .ref (a 205) :: .int v200_7 :: .int v200_8 :: .int v200_9 :: .int v200_10 :: .int v200_11 :: .int v200_12 :: .int v200_13 :: .ref (a 206) :: .int v200_15 :: .ref (a 207) :: .int v200_17 :: .int v200_18 :: .int v200_19 :: .ref (a 208) :: .int (u_32.1 0) :: .ref (a 209) :: .int v200_23 :: .ref (a 210) :: .ref (a 211) :: .ref (a 212) :: .int v200_27 :: .int v200_28 :: .int v200_29 :: .ref (a 213) :: .ref (a 214) :: .ref (a 215) :: .int v200_33 :: .int v200_34 :: .int v200_35 :: .ref (a 216) :: .ref (a 217) :: .ref (a 218) :: .ref (a 219) :: [])), (a 201, .inl (t 0, 841, .inl f201)), (a 207, .inl (t 0, 9, .inl f207)), (a 208, .inl (t 0, 9, .inl (u_32.2.1 0))), (a 209, .inl (t 0, 9, .inl f209))]) [1, 2, 3, 4, 0] rfl
          have hD9 := hD.sub (ws' := [(a 200, .inr (12, .int v200_0 :: .ref (a 201) :: .ref (a 202) :: .ref (a 203) :: .ref (a 204) :: .int v200_5 :: .ref (a 205) :: .int v200_7 :: .int v200_8 :: .int v200_9 :: .int v200_10 :: .int v200_11 :: .int v200_12 :: .int v200_13 :: .ref (a 206) :: .int v200_15 :: .ref (a 207) :: .int v200_17 :: .int v200_18 :: .int v200_19 :: .ref (a 208) :: .int (u_32.1 0) :: .ref (a 209) :: .int v200_23 :: .ref (a 210) :: .ref (a 211) :: .ref (a 212) :: .int v200_27 :: .int v200_28 :: .int v200_29 :: .ref (a 213) :: .ref (a 214) :: .ref (a 215) :: .int v200_33 :: .int v200_34 :: .int v200_35 :: .ref (a 216) :: .ref (a 217) :: .ref (a 218) :: .ref (a 219) :: [])), (a 201, .inl (t 0, 841, .inl f201)), (a 207, .inl (t 0, 9, .inl f207)), (a 208, .inl (t 0, 9, .inl (u_32.2.1 0))), (a 209, .inl (t 0, 9, .inl f209))]) [1, 2, 3, 4, 0] (by decide) rfl
          exact W.iret (v := r_33) hx hb hr (fun t9 ht hW => ⟨⟨r_33, (fun k => [(u_32.1 0), v200_23].getD k 0, fun k => [(u_32.2.1 0), f209].getD k (fun _ => 0), fun k => [].getD k (fun _ => 0), fun _ => 0), rfl, ⟨(rg_w (c := (-1)) (d := 8) hr_33 (by decide) (by decide)), r200_23⟩, by rw [ht]; exact hP9, hD9⟩, hS.F ht⟩) hS.2.2 dX12_winner_83
        · skip
          have zc_37 : (0 : Int32).toInt = 0 := rfl
          have tc_35 : (x_34 : Int32).toInt = (0 : Int32).toInt := congrArg Int32.toInt (by first | exact c_35 | exact Classical.not_not.mp c_35)
          have h_38 : rg 0 0 x_34 := rg_eq c_35 (rg_c (x := 0) (k := 0) (by decide))
          refine lv_iconst (v := (-1)) hx hb dX12_winner_77 (by decide) ?_
          refine lv_goto (tgt := 83) hx hb dX12_winner_78 (by decide) ?_
          have hP9 := hP.sub (ws' := [(a 200, .inr (12, .int v200_0 :: .ref (a 201) :: .ref (a 202) :: .ref (a 203) :: .ref (a 204) :: .int v200_5 :: .ref (a 205) :: .int v200_7 :: .int v200_8 :: .int v200_9 :: .int v200_10 :: .int v200_11 :: .int v200_12 :: .int v200_13 :: .ref (a 206) :: .int v200_15 :: .ref (a 207) :: .int v200_17 :: .int v200_18 :: .int v200_19 :: .ref (a 208) :: .int (u_32.1 0) :: .ref (a 209) :: .int v200_23 :: .ref (a 210) :: .ref (a 211) :: .ref (a 212) :: .int v200_27 :: .int v200_28 :: .int v200_29 :: .ref (a 213) :: .ref (a 214) :: .ref (a 215) :: .int v200_33 :: .int v200_34 :: .int v200_35 :: .ref (a 216) :: .ref (a 217) :: .ref (a 218) :: .ref (a 219) :: [])), (a 201, .inl (t 0, 841, .inl f201)), (a 207, .inl (t 0, 9, .inl f207)), (a 208, .inl (t 0, 9, .inl (u_32.2.1 0))), (a 209, .inl (t 0, 9, .inl f209))]) [1, 2, 3, 4, 0] rfl
          have hD9 := hD.sub (ws' := [(a 200, .inr (12, .int v200_0 :: .ref (a 201) :: .ref (a 202) :: .ref (a 203) :: .ref (a 204) :: .int v200_5 :: .ref (a 205) :: .int v200_7 :: .int v200_8 :: .int v200_9 :: .int v200_10 :: .int v200_11 :: .int v200_12 :: .int v200_13 :: .ref (a 206) :: .int v200_15 :: .ref (a 207) :: .int v200_17 :: .int v200_18 :: .int v200_19 :: .ref (a 208) :: .int (u_32.1 0) :: .ref (a 209) :: .int v200_23 :: .ref (a 210) :: .ref (a 211) :: .ref (a 212) :: .int v200_27 :: .int v200_28 :: .int v200_29 :: .ref (a 213) :: .ref (a 214) :: .ref (a 215) :: .int v200_33 :: .int v200_34 :: .int v200_35 :: .ref (a 216) :: .ref (a 217) :: .ref (a 218) :: .ref (a 219) :: [])), (a 201, .inl (t 0, 841, .inl f201)), (a 207, .inl (t 0, 9, .inl f207)), (a 208, .inl (t 0, 9, .inl (u_32.2.1 0))), (a 209, .inl (t 0, 9, .inl f209))]) [1, 2, 3, 4, 0] (by decide) rfl
          exact W.iret (v := (-1)) hx hb hr (fun t9 ht hW => ⟨⟨(-1), (fun k => [(u_32.1 0), v200_23].getD k 0, fun k => [(u_32.2.1 0), f209].getD k (fun _ => 0), fun k => [].getD k (fun _ => 0), fun _ => 0), rfl, ⟨(rg_w (c := (-1)) (d := 8) (rg_c (x := (-1)) (k := (-1)) (by decide)) (by decide) (by decide)), r200_23⟩, by rw [ht]; exact hP9, hD9⟩, hS.F ht⟩) hS.2.2 dX12_winner_83
    · skip
      have zc_39 : (2 : Int32).toInt = 2 := by decide
      have tc_6 : (p1 : Int32).toInt = (2 : Int32).toInt := congrArg Int32.toInt (by first | exact c_6 | exact Classical.not_not.mp c_6)
      have h_40 : rg 2 2 p1 := rg_eq c_6 (rg_c (x := 2) (k := 2) (by decide))
      refine lv_aload_n hx hb dX12_winner_17 rfl (lv_at hl 1 rfl) ?_
      refine lv_iload_n hx hb dX12_winner_18 rfl (lv_at hl 2 rfl) ?_
      refine lv_iload_n hx hb dX12_winner_19 rfl (lv_at hl 0 rfl) ?_
      refine y_wVi (wr := []) hF (s_X12_strikes l D t a v200_0 v200_5 v200_7 v200_8 v200_9 v200_10 v200_11 v200_12 v200_13 v200_15 v200_17 v200_18 v200_19 v200_21 v200_23 v200_27 v200_28 v200_29 v200_33 v200_34 v200_35 f201 f207 f208 f209 p0 r_1 r200_5 r200_7 r200_8 r200_9 r200_23 q201 or_1 k_5z H.size) m_1718 m_1720 m_s75 m_13 m_1721 hd_X12_strikes ⟨Nat.le_of_ble_eq_true rfl, Nat.le_of_ble_eq_true rfl⟩ hK hN hP hD hS hA 0 (ci := 12) rfl rfl rfl [0, 1, 2, 3, 4] [] rfl rfl (by decide) (by decide) (by decide) hl.1 rfl (Nat.le_of_ble_eq_true rfl) dX12_winner_20 ⟨Nat.zero_le _, Nat.zero_le _⟩ (fun r_42 u_41 H locs hu_41 hP hD hS => ?_)
      obtain ⟨hr_42, h_43⟩ := hu_41
      have hP : va_P D classes [(a 200, .inr (12, .int v200_0 :: .ref (a 201) :: .ref (a 202) :: .ref (a 203) :: .ref (a 204) :: .int v200_5 :: .ref (a 205) :: .int v200_7 :: .int v200_8 :: .int v200_9 :: .int v200_10 :: .int v200_11 :: .int v200_12 :: .int v200_13 :: .ref (a 206) :: .int v200_15 :: .ref (a 207) :: .int v200_17 :: .int v200_18 :: .int v200_19 :: .ref (a 208) :: .int (u_41.1 0) :: .ref (a 209) :: .int (u_41.1 1) :: .ref (a 210) :: .ref (a 211) :: .ref (a 212) :: .int v200_27 :: .int v200_28 :: .int v200_29 :: .ref (a 213) :: .ref (a 214) :: .ref (a 215) :: .int v200_33 :: .int v200_34 :: .int v200_35 :: .ref (a 216) :: .ref (a 217) :: .ref (a 218) :: .ref (a 219) :: [])), (a 201, .inl (t 0, 841, .inl f201)), (a 207, .inl (t 0, 9, .inl f207)), (a 208, .inl (t 0, 9, .inl (u_41.2.1 0))), (a 209, .inl (t 0, 9, .inl (u_41.2.1 1)))] H := hP
      have hD : va_D A [(a 200, .inr (12, .int v200_0 :: .ref (a 201) :: .ref (a 202) :: .ref (a 203) :: .ref (a 204) :: .int v200_5 :: .ref (a 205) :: .int v200_7 :: .int v200_8 :: .int v200_9 :: .int v200_10 :: .int v200_11 :: .int v200_12 :: .int v200_13 :: .ref (a 206) :: .int v200_15 :: .ref (a 207) :: .int v200_17 :: .int v200_18 :: .int v200_19 :: .ref (a 208) :: .int (u_41.1 0) :: .ref (a 209) :: .int (u_41.1 1) :: .ref (a 210) :: .ref (a 211) :: .ref (a 212) :: .int v200_27 :: .int v200_28 :: .int v200_29 :: .ref (a 213) :: .ref (a 214) :: .ref (a 215) :: .int v200_33 :: .int v200_34 :: .int v200_35 :: .ref (a 216) :: .ref (a 217) :: .ref (a 218) :: .ref (a 219) :: [])), (a 201, .inl (t 0, 841, .inl f201)), (a 207, .inl (t 0, 9, .inl f207)), (a 208, .inl (t 0, 9, .inl (u_41.2.1 0))), (a 209, .inl (t 0, 9, .inl (u_41.2.1 1)))] := hD
      refine lv_istore (lv' := [(4, .int r_42), (3, .int r_1), (0, .ref (a 200)), (1, .int p0), (2, .int p1)]) hx hb dX12_winner_23 hl (by decide) rfl (fun ls hl => ?_)
      refine lv_goto (tgt := 67) hx hb dX12_winner_25 (by decide) ?_
      refine lv_aload_n hx hb dX12_winner_67 rfl (lv_at hl 2 rfl) ?_
      refine va_get (D := D) (ci := 12) (v := .ref (a 208)) (C := RX12) (T := TX12) (N := 40) hx hb hts iX12 hown hK hP 0 rfl rfl 20 (by decide) (hts _ m_1363) (fun _ h9 => h9) rfl dX12_winner_68 ?_
      refine lv_iload hx hb dX12_winner_71 (lv_at hl 0 rfl) ?_
      refine va_iald hx hb hK hP 3 0 rfl rfl (in_rg hr_42 (by decide) (by decide)) dX12_winner_73 ?_
      refine lv_topi (fun x_44 ex_44 => ?_)
      refine lv_if_ne (tgt := 81) hx hb dX12_winner_74 (by decide) (fun c_45 => ?_) (fun c_45 => ?_)
      · skip
        have zc_46 : (0 : Int32).toInt = 0 := rfl
        have tc_45 : ¬ (x_44 : Int32).toInt = (0 : Int32).toInt := fun z9 => c_45 (Int32.toInt_inj.mp z9)
        refine lv_iload hx hb dX12_winner_81 (lv_at hl 0 rfl) ?_
        have hP9 := hP.sub (ws' := [(a 200, .inr (12, .int v200_0 :: .ref (a 201) :: .ref (a 202) :: .ref (a 203) :: .ref (a 204) :: .int v200_5 :: .ref (a 205) :: .int v200_7 :: .int v200_8 :: .int v200_9 :: .int v200_10 :: .int v200_11 :: .int v200_12 :: .int v200_13 :: .ref (a 206) :: .int v200_15 :: .ref (a 207) :: .int v200_17 :: .int v200_18 :: .int v200_19 :: .ref (a 208) :: .int (u_41.1 0) :: .ref (a 209) :: .int (u_41.1 1) :: .ref (a 210) :: .ref (a 211) :: .ref (a 212) :: .int v200_27 :: .int v200_28 :: .int v200_29 :: .ref (a 213) :: .ref (a 214) :: .ref (a 215) :: .int v200_33 :: .int v200_34 :: .int v200_35 :: .ref (a 216) :: .ref (a 217) :: .ref (a 218) :: .ref (a 219) :: [])), (a 201, .inl (t 0, 841, .inl f201)), (a 207, .inl (t 0, 9, .inl f207)), (a 208, .inl (t 0, 9, .inl (u_41.2.1 0))), (a 209, .inl (t 0, 9, .inl (u_41.2.1 1)))]) [0, 1, 2, 3, 4] rfl
        have hD9 := hD.sub (ws' := [(a 200, .inr (12, .int v200_0 :: .ref (a 201) :: .ref (a 202) :: .ref (a 203) :: .ref (a 204) :: .int v200_5 :: .ref (a 205) :: .int v200_7 :: .int v200_8 :: .int v200_9 :: .int v200_10 :: .int v200_11 :: .int v200_12 :: .int v200_13 :: .ref (a 206) :: .int v200_15 :: .ref (a 207) :: .int v200_17 :: .int v200_18 :: .int v200_19 :: .ref (a 208) :: .int (u_41.1 0) :: .ref (a 209) :: .int (u_41.1 1) :: .ref (a 210) :: .ref (a 211) :: .ref (a 212) :: .int v200_27 :: .int v200_28 :: .int v200_29 :: .ref (a 213) :: .ref (a 214) :: .ref (a 215) :: .int v200_33 :: .int v200_34 :: .int v200_35 :: .ref (a 216) :: .ref (a 217) :: .ref (a 218) :: .ref (a 219) :: [])), (a 201, .inl (t 0, 841, .inl f201)), (a 207, .inl (t 0, 9, .inl f207)), (a 208, .inl (t 0, 9, .inl (u_41.2.1 0))), (a 209, .inl (t 0, 9, .inl (u_41.2.1 1)))]) [0, 1, 2, 3, 4] (by decide) rfl
        exact W.iret (v := r_42) hx hb hr (fun t9 ht hW => ⟨⟨r_42, (fun k => [(u_41.1 0), (u_41.1 1)].getD k 0, fun k => [(u_41.2.1 0), (u_41.2.1 1)].getD k (fun _ => 0), fun k => [].getD k (fun _ => 0), fun _ => 0), rfl, ⟨(rg_w (c := (-1)) (d := 8) hr_42 (by decide) (by decide)), h_43⟩, by rw [ht]; exact hP9, hD9⟩, hS.F ht⟩) hS.2.2 dX12_winner_83
      · skip
        have zc_47 : (0 : Int32).toInt = 0 := rfl
        have tc_45 : (x_44 : Int32).toInt = (0 : Int32).toInt := congrArg Int32.toInt (by first | exact c_45 | exact Classical.not_not.mp c_45)
        have h_48 : rg 0 0 x_44 := rg_eq c_45 (rg_c (x := 0) (k := 0) (by decide))
        refine lv_iconst (v := (-1)) hx hb dX12_winner_77 (by decide) ?_
        refine lv_goto (tgt := 83) hx hb dX12_winner_78 (by decide) ?_
        have hP9 := hP.sub (ws' := [(a 200, .inr (12, .int v200_0 :: .ref (a 201) :: .ref (a 202) :: .ref (a 203) :: .ref (a 204) :: .int v200_5 :: .ref (a 205) :: .int v200_7 :: .int v200_8 :: .int v200_9 :: .int v200_10 :: .int v200_11 :: .int v200_12 :: .int v200_13 :: .ref (a 206) :: .int v200_15 :: .ref (a 207) :: .int v200_17 :: .int v200_18 :: .int v200_19 :: .ref (a 208) :: .int (u_41.1 0) :: .ref (a 209) :: .int (u_41.1 1) :: .ref (a 210) :: .ref (a 211) :: .ref (a 212) :: .int v200_27 :: .int v200_28 :: .int v200_29 :: .ref (a 213) :: .ref (a 214) :: .ref (a 215) :: .int v200_33 :: .int v200_34 :: .int v200_35 :: .ref (a 216) :: .ref (a 217) :: .ref (a 218) :: .ref (a 219) :: [])), (a 201, .inl (t 0, 841, .inl f201)), (a 207, .inl (t 0, 9, .inl f207)), (a 208, .inl (t 0, 9, .inl (u_41.2.1 0))), (a 209, .inl (t 0, 9, .inl (u_41.2.1 1)))]) [0, 1, 2, 3, 4] rfl
        have hD9 := hD.sub (ws' := [(a 200, .inr (12, .int v200_0 :: .ref (a 201) :: .ref (a 202) :: .ref (a 203) :: .ref (a 204) :: .int v200_5 :: .ref (a 205) :: .int v200_7 :: .int v200_8 :: .int v200_9 :: .int v200_10 :: .int v200_11 :: .int v200_12 :: .int v200_13 :: .ref (a 206) :: .int v200_15 :: .ref (a 207) :: .int v200_17 :: .int v200_18 :: .int v200_19 :: .ref (a 208) :: .int (u_41.1 0) :: .ref (a 209) :: .int (u_41.1 1) :: .ref (a 210) :: .ref (a 211) :: .ref (a 212) :: .int v200_27 :: .int v200_28 :: .int v200_29 :: .ref (a 213) :: .ref (a 214) :: .ref (a 215) :: .int v200_33 :: .int v200_34 :: .int v200_35 :: .ref (a 216) :: .ref (a 217) :: .ref (a 218) :: .ref (a 219) :: [])), (a 201, .inl (t 0, 841, .inl f201)), (a 207, .inl (t 0, 9, .inl f207)), (a 208, .inl (t 0, 9, .inl (u_41.2.1 0))), (a 209, .inl (t 0, 9, .inl (u_41.2.1 1)))]) [0, 1, 2, 3, 4] (by decide) rfl
        exact W.iret (v := (-1)) hx hb hr (fun t9 ht hW => ⟨⟨(-1), (fun k => [(u_41.1 0), (u_41.1 1)].getD k 0, fun k => [(u_41.2.1 0), (u_41.2.1 1)].getD k (fun _ => 0), fun k => [].getD k (fun _ => 0), fun _ => 0), rfl, ⟨(rg_w (c := (-1)) (d := 8) (rg_c (x := (-1)) (k := (-1)) (by decide)) (by decide) (by decide)), h_43⟩, by rw [ht]; exact hP9, hD9⟩, hS.F ht⟩) hS.2.2 dX12_winner_83
  · skip
    have zc_49 : (0 : Int32).toInt = 0 := rfl
    have tc_2 : (r_1 : Int32).toInt = (0 : Int32).toInt := congrArg Int32.toInt (by first | exact c_2 | exact Classical.not_not.mp c_2)
    have h_50 : rg 0 0 r_1 := rg_eq c_2 (rg_c (x := 0) (k := 0) (by decide))
    refine lv_iconst (v := (-1)) hx hb dX12_winner_10 (by decide) ?_
    have hP9 := hP.sub (ws' := [(a 200, .inr (12, .int v200_0 :: .ref (a 201) :: .ref (a 202) :: .ref (a 203) :: .ref (a 204) :: .int v200_5 :: .ref (a 205) :: .int v200_7 :: .int v200_8 :: .int v200_9 :: .int v200_10 :: .int v200_11 :: .int v200_12 :: .int v200_13 :: .ref (a 206) :: .int v200_15 :: .ref (a 207) :: .int v200_17 :: .int v200_18 :: .int v200_19 :: .ref (a 208) :: .int v200_21 :: .ref (a 209) :: .int v200_23 :: .ref (a 210) :: .ref (a 211) :: .ref (a 212) :: .int v200_27 :: .int v200_28 :: .int v200_29 :: .ref (a 213) :: .ref (a 214) :: .ref (a 215) :: .int v200_33 :: .int v200_34 :: .int v200_35 :: .ref (a 216) :: .ref (a 217) :: .ref (a 218) :: .ref (a 219) :: [])), (a 201, .inl (t 0, 841, .inl f201)), (a 207, .inl (t 0, 9, .inl f207)), (a 208, .inl (t 0, 9, .inl f208)), (a 209, .inl (t 0, 9, .inl f209))]) [0, 1, 2, 3, 4] rfl
    have hD9 := hD.sub (ws' := [(a 200, .inr (12, .int v200_0 :: .ref (a 201) :: .ref (a 202) :: .ref (a 203) :: .ref (a 204) :: .int v200_5 :: .ref (a 205) :: .int v200_7 :: .int v200_8 :: .int v200_9 :: .int v200_10 :: .int v200_11 :: .int v200_12 :: .int v200_13 :: .ref (a 206) :: .int v200_15 :: .ref (a 207) :: .int v200_17 :: .int v200_18 :: .int v200_19 :: .ref (a 208) :: .int v200_21 :: .ref (a 209) :: .int v200_23 :: .ref (a 210) :: .ref (a 211) :: .ref (a 212) :: .int v200_27 :: .int v200_28 :: .int v200_29 :: .ref (a 213) :: .ref (a 214) :: .ref (a 215) :: .int v200_33 :: .int v200_34 :: .int v200_35 :: .ref (a 216) :: .ref (a 217) :: .ref (a 218) :: .ref (a 219) :: [])), (a 201, .inl (t 0, 841, .inl f201)), (a 207, .inl (t 0, 9, .inl f207)), (a 208, .inl (t 0, 9, .inl f208)), (a 209, .inl (t 0, 9, .inl f209))]) [0, 1, 2, 3, 4] (by decide) rfl
    exact W.iret (v := (-1)) hx hb hr (fun t9 ht hW => ⟨⟨(-1), (fun k => [v200_21, v200_23].getD k 0, fun k => [f208, f209].getD k (fun _ => 0), fun k => [].getD k (fun _ => 0), fun _ => 0), rfl, ⟨(rg_w (c := (-1)) (d := 8) (rg_c (x := (-1)) (k := (-1)) (by decide)) (by decide) (by decide)), r200_23⟩, by rw [ht]; exact hP9, hD9⟩, hS.F ht⟩) hS.2.2 dX12_winner_11

