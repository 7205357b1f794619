set_option maxHeartbeats 4000000 in
set_option maxRecDepth 100000 in
theorem s_X12_isMajority (l : Launch) (D : va_G) (t : Nat → ClassId) (a : Nat → Nat) (v200_0 : Int32) (v200_5 : Int32) (v200_7 : Int32) (v200_8 : Int32) (v200_9 : Int32) (v200_10 : Int32) (v200_11 : Int32) (v200_12 : Int32) (v200_13 : Int32) (v200_15 : Int32) (v200_17 : Int32) (v200_18 : Int32) (v200_19 : Int32) (v200_21 : Int32) (v200_23 : Int32) (v200_27 : Int32) (v200_28 : Int32) (v200_29 : Int32) (v200_33 : Int32) (v200_34 : Int32) (v200_35 : Int32) (f201 : Nat → Int32) (p0 : Int32) (r200_5 : rg 0 1600 v200_5) (r200_7 : rg 0 1600 v200_7) (r200_8 : rg 0 1600 v200_8) (r200_9 : rg 0 1600 v200_9) (r200_23 : rg 0 9 v200_23) (q201 : wR f201) : Met l yX12_isMajority (wd yX12_isMajority cX12_isMajority 4 (some .boolean)) (RM 2 0 0) (PreP D (TY t) [.ref (a 200), .int p0] [(a 200, .inr (12, .int v200_0 :: .ref (a 201) :: .ref (a 202) :: .ref (a 203) :: .ref (a 204) :: .int v200_5 :: .ref (a 205) :: .int v200_7 :: .int v200_8 :: .int v200_9 :: .int v200_10 :: .int v200_11 :: .int v200_12 :: .int v200_13 :: .ref (a 206) :: .int v200_15 :: .ref (a 207) :: .int v200_17 :: .int v200_18 :: .int v200_19 :: .ref (a 208) :: .int v200_21 :: .ref (a 209) :: .int v200_23 :: .ref (a 210) :: .ref (a 211) :: .ref (a 212) :: .int v200_27 :: .int v200_28 :: .int v200_29 :: .ref (a 213) :: .ref (a 214) :: .ref (a 215) :: .int v200_33 :: .int v200_34 :: .int v200_35 :: .ref (a 216) :: .ref (a 217) :: .ref (a 218) :: .ref (a 219) :: [])), (a 201, .inl (t 0, 841, .inl f201))]) (QP (fun r => rg 0 1 r)) 0 0 NoF := by
  refine Met.ofW (cc := cX12_isMajority) (maxL := 4) (ret := (some .boolean)) (by decide) rfl ?_
  intro p e s m args below meth c s₁ B hml hv
  obtain ⟨rfl, hP, hK, hN⟩ := hv
  have hx := B.exec
  have hb := B.bytes
  have hr := B.returns
  have hts : ∀ w ∈ TB, w.before _ s = true := fun w h => atoms_spec (ws := wd yX12_isMajority cX12_isMajority 4 (some .boolean)) B.pre w (List.mem_cons_of_mem _ h)
  have hown : s.vm.findClass RX12 = some m.cls := findClass_of_methodNamed B.named
  have hlocks := B.notSynchronized
  have hF : CallFix p m c cX12_isMajority 4 s _ TB RX12 := ⟨hx, hb, hml, hown, hts⟩
  have hl := lv_entry ([.ref (a 200), .int p0]) (n := 4) (Nat.le_of_ble_eq_true rfl)
  rw [lg_entry_eq]
  generalize (lg_sl ([.ref (a 200), .int p0]) ++ List.replicate (4 - (lg_sl ([.ref (a 200), .int p0])).length) Slot.unset).toArray = ls at hl ⊢
  have hl : lv_has ls 4 [(0, .ref (a 200)), (1, .int p0)] := hl
  have hS : va_S NoF s.heap s.heap [] := va_S.rf
  have hP : va_P D classes [(a 200, .inr (12, .int v200_0 :: .ref (a 201) :: .ref (a 202) :: .ref (a 203) :: .ref (a 204) :: .int v200_5 :: .ref (a 205) :: .int v200_7 :: .int v200_8 :: .int v200_9 :: .int v200_10 :: .int v200_11 :: .int v200_12 :: .int v200_13 :: .ref (a 206) :: .int v200_15 :: .ref (a 207) :: .int v200_17 :: .int v200_18 :: .int v200_19 :: .ref (a 208) :: .int v200_21 :: .ref (a 209) :: .int v200_23 :: .ref (a 210) :: .ref (a 211) :: .ref (a 212) :: .int v200_27 :: .int v200_28 :: .int v200_29 :: .ref (a 213) :: .ref (a 214) :: .ref (a 215) :: .int v200_33 :: .int v200_34 :: .int v200_35 :: .ref (a 216) :: .ref (a 217) :: .ref (a 218) :: .ref (a 219) :: [])), (a 201, .inl (t 0, 841, .inl f201))] s.heap := hP
  refine lv_iconst (v := 0) hx hb dX12_isMajority_0 (by decide) ?_
  refine lv_istore_n (lv' := [(2, .int 0), (0, .ref (a 200)), (1, .int p0)]) hx hb dX12_isMajority_1 rfl hl (by decide) rfl (fun ls hl => ?_)
  refine lv_iconst (v := 0) hx hb dX12_isMajority_2 (by decide) ?_
  refine lv_istore_n (lv' := [(3, .int 0), (2, .int 0), (0, .ref (a 200)), (1, .int p0)]) hx hb dX12_isMajority_3 rfl hl (by decide) rfl (fun ls hl => ?_)
  refine loopW (α := US) (fun n y_1 H locs ls => 4 < (y_1.1 0).toInt + (n : Int) ∧ rg 0 4 (y_1.1 0) ∧ va_P D classes [(a 200, .inr (12, .int v200_0 :: .ref (a 201) :: .ref (a 202) :: .ref (a 203) :: .ref (a 204) :: .int v200_5 :: .ref (a 205) :: .int v200_7 :: .int v200_8 :: .int v200_9 :: .int v200_10 :: .int v200_11 :: .int v200_12 :: .int v200_13 :: .ref (a 206) :: .int v200_15 :: .ref (a 207) :: .int v200_17 :: .int v200_18 :: .int v200_19 :: .ref (a 208) :: .int v200_21 :: .ref (a 209) :: .int v200_23 :: .ref (a 210) :: .ref (a 211) :: .ref (a 212) :: .int v200_27 :: .int v200_28 :: .int v200_29 :: .ref (a 213) :: .ref (a 214) :: .ref (a 215) :: .int v200_33 :: .int v200_34 :: .int v200_35 :: .ref (a 216) :: .ref (a 217) :: .ref (a 218) :: .ref (a 219) :: [])), (a 201, .inl (t 0, 841, .inl f201))] H ∧ va_S NoF s.heap H locs ∧ lv_has ls 4 [(3, .int (y_1.1 0)), (2, .int (y_1.1 1)), (0, .ref (a 200)), (1, .int p0)]) 4 (fun y_1 => []) (fun _ _ _ _ h9 => m_0 h9.1 h9.2.1) (fun n ih_3 y_1 H locs ls hI => ?_) 5 (fun k => [0, 0].getD k 0, fun k => [].getD k (fun _ => 0), fun k => [].getD k (fun _ => 0), fun k => [].getD k 0) ⟨(m_i (rg_c (x := 0) (k := 0) (by decide)) (by decide)), (rg_w (c := 0) (d := 4) (rg_c (x := 0) (k := 0) (by decide)) (by decide) (by decide)), hP, hS, (lv_sub hl [0, 1, 2, 3] rfl)⟩
  obtain ⟨me_4, h_2, hP, hS, hl⟩ := hI
  refine lv_iload_n hx hb dX12_isMajority_4 rfl (lv_at hl 0 rfl) ?_
  refine lv_aload_n hx hb dX12_isMajority_5 rfl (lv_at hl 2 rfl) ?_
  refine va_get (D := D) (ci := 12) (v := .ref (a 201)) (C := RX12) (T := TX12) (N := 40) hx hb hts iX12 hown hK hP 0 rfl rfl 1 (by decide) (hts _ m_1344) (fun _ h9 => h9) rfl dX12_isMajority_6 ?_
  refine lv_iconst (v := 4) hx hb dX12_isMajority_9 (by decide) ?_
  refine va_iald hx hb hK hP 1 0 rfl rfl (in_rg (rg_c (x := 4) (k := 4) (by decide)) (by decide) (by decide)) dX12_isMajority_10 ?_
  refine x_seti (f201 4) rfl ?_
  have h_5 : rg 0 4 (f201 4) := q201 4 (by decide)
  refine lv_icmp_ge (tgt := 32) hx hb dX12_isMajority_11 (by decide) (fun c_6 => ?_) (fun c_6 => ?_)
  · skip
    refine lv_iconst (v := 2) hx hb dX12_isMajority_32 (by decide) ?_
    refine lv_aload_n hx hb dX12_isMajority_33 rfl (lv_at hl 2 rfl) ?_
    refine lv_iload_n hx hb dX12_isMajority_34 rfl (lv_at hl 3 rfl) ?_
    refine y_pV hF (s_X12_seatsOf l D t a v200_0 v200_5 v200_7 v200_8 v200_9 v200_10 v200_11 v200_12 v200_13 v200_15 v200_17 v200_18 v200_19 v200_21 v200_23 v200_27 v200_28 v200_29 v200_33 v200_34 v200_35 f201 p0 r200_5 r200_7 r200_8 r200_9 r200_23 q201) m_1937 m_1939 m_s97 m_13 m_1940 hd_X12_seatsOf ⟨Nat.le_of_ble_eq_true rfl, Nat.le_of_ble_eq_true rfl⟩ hK hN hP hS [0, 1] rfl 0 (ci := 12) rfl rfl rfl hl.1 rfl (Nat.le_of_ble_eq_true rfl) dX12_isMajority_35 ⟨Nat.zero_le _, Nat.zero_le _⟩ (fun r_7 H locs hr_7 hP hS => ?_)
    refine lv_imul hx hb dX12_isMajority_38 ?_
    refine lv_topi (fun x_8 ex_8 => ?_)
    refine lv_iload_n hx hb dX12_isMajority_39 rfl (lv_at hl 1 rfl) ?_
    refine lv_icmp_le (tgt := 47) hx hb dX12_isMajority_40 (by decide) (fun c_9 => ?_) (fun c_9 => ?_)
    · skip
      refine lv_iconst (v := 0) hx hb dX12_isMajority_47 (by decide) ?_
      exact W.zret (v := 0) hx hb hr rfl (fun t9 ht hW => ⟨⟨0, (), rfl, (rg_w (c := 0) (d := 1) (rg_c (x := 0) (k := 0) (by decide)) (by decide) (by decide)), trivial⟩, hS.F ht⟩) hS.2.2 dX12_isMajority_48
    · skip
      have h_10 : rg (-2147483647) 2147483647 x_8 := ⟨Int.le_trans (by decide) (c_nle c_9 (rg_any (y_1.1 1))), ((rg_any x_8)).2⟩
      have h_11 : rg (-2147483648) 2147483646 (y_1.1 1) := ⟨((rg_any (y_1.1 1))).1, Int.le_trans (c_nleR c_9 (rg_any x_8)) (by decide)⟩
      refine lv_iconst (v := 1) hx hb dX12_isMajority_43 (by decide) ?_
      refine lv_goto (tgt := 48) hx hb dX12_isMajority_44 (by decide) ?_
      exact W.zret (v := 1) hx hb hr rfl (fun t9 ht hW => ⟨⟨1, (), rfl, (rg_w (c := 0) (d := 1) (rg_c (x := 1) (k := 1) (by decide)) (by decide) (by decide)), trivial⟩, hS.F ht⟩) hS.2.2 dX12_isMajority_48
  · skip
    have h_12 : rg 0 3 (y_1.1 0) := ⟨(h_2).1, Int.le_trans (c_nleR c_6 h_5) (by decide)⟩
    have h_13 : rg 1 4 (f201 4) := ⟨Int.le_trans (by decide) (c_nle c_6 h_2), (h_5).2⟩
    refine lv_iload_n hx hb dX12_isMajority_14 rfl (lv_at hl 1 rfl) ?_
    refine lv_aload_n hx hb dX12_isMajority_15 rfl (lv_at hl 2 rfl) ?_
    refine va_get (D := D) (ci := 12) (v := .ref (a 201)) (C := RX12) (T := TX12) (N := 40) hx hb hts iX12 hown hK hP 0 rfl rfl 1 (by decide) (hts _ m_1344) (fun _ h9 => h9) rfl dX12_isMajority_16 ?_
    refine lv_bipush (v := 12) hx hb dX12_isMajority_19 (by decide) ?_
    refine lv_iload_n hx hb dX12_isMajority_21 rfl (lv_at hl 0 rfl) ?_
    refine lv_iadd hx hb dX12_isMajority_22 ?_
    refine lv_topi (fun x_14 ex_14 => ?_)
    have hx_14 : rg 12 15 x_14 := by rw [ex_14]; exact rg_add (rg_c (x := 12) (k := 12) (by decide)) h_12 (by decide) (by decide) (by decide) (by decide)
    refine va_iald hx hb hK hP 1 0 rfl rfl (in_rg hx_14 (by decide) (by decide)) dX12_isMajority_23 ?_
    refine lv_topi (fun x_15 ex_15 => ?_)
    refine lv_iadd hx hb dX12_isMajority_24 ?_
    refine lv_topi (fun x_16 ex_16 => ?_)
    refine lv_istore_n (lv' := [(2, .int x_16), (3, .int (y_1.1 0)), (0, .ref (a 200)), (1, .int p0)]) hx hb dX12_isMajority_25 rfl hl (by decide) rfl (fun ls hl => ?_)
    obtain ⟨x_17, ex_17⟩ : ∃ y9 : Int32, y9 = (y_1.1 0) + 1 := ⟨_, rfl⟩
    have hx_17 : rg 1 4 x_17 := by rw [ex_17]; exact rg_add h_12 (rg_c (x := 1) (k := 1) (by decide)) (by decide) (by decide) (by decide) (by decide)
    have tx_17 : x_17.toInt = (y_1.1 0).toInt + 1 := by rw [ex_17]; exact inc_tk h_12 (by decide) (by decide) (by decide)
    refine lv_iinc (v := x_17) (lv' := [(3, .int x_17), (2, .int x_16), (0, .ref (a 200)), (1, .int p0)]) hx hb dX12_isMajority_26 hl (k := 1) rfl (by rw [ex_17]; rfl) (by decide) rfl (fun ls hl => ?_)
    refine lv_goto (tgt := 4) hx hb dX12_isMajority_29 (by decide) ?_
    exact ih_3 (fun k => [x_17, x_16].getD k 0, fun k => [].getD k (fun _ => 0), fun k => [].getD k (fun _ => 0), fun k => [].getD k 0) _ _ ls ⟨(m_upk me_4 tx_17 (by decide)), (rg_w (c := 0) (d := 4) hx_17 (by decide) (by decide)), hP, hS, (lv_sub hl [0, 1, 2, 3] rfl)⟩

set_option maxHeartbeats 4000000 in
set_option maxRecDepth 100000 in
theorem s_X12_areParties (l : Launch) (D : va_G) (t : Nat → ClassId) (a : Nat → Nat) (v200_0 : Int32) (v200_5 : Int32) (v200_7 : Int32) (v200_8 : Int32) (v200_9 : Int32) (v200_10 : Int32) (v200_11 : Int32) (v200_12 : Int32) (v200_13 : Int32) (v200_15 : Int32) (v200_17 : Int32) (v200_18 : Int32) (v200_19 : Int32) (v200_21 : Int32) (v200_23 : Int32) (v200_27 : Int32) (v200_28 : Int32) (v200_29 : Int32) (v200_33 : Int32) (v200_34 : Int32) (v200_35 : Int32) (f201 : Nat → Int32) (p0 : Int32) (r200_5 : rg 0 1600 v200_5) (r200_7 : rg 0 1600 v200_7) (r200_8 : rg 0 1600 v200_8) (r200_9 : rg 0 1600 v200_9) (r200_23 : rg 0 9 v200_23) (q201 : wR f201) : Met l yX12_areParties (wd yX12_areParties cX12_areParties 2 (some .boolean)) (RM 1 0 0) (PreP D (TY t) [.ref (a 200), .int p0] [(a 200, .inr (12, .int v200_0 :: .ref (a 201) :: .ref (a 202) :: .ref (a 203) :: .ref (a 204) :: .int v200_5 :: .ref (a 205) :: .int v200_7 :: .int v200_8 :: .int v200_9 :: .int v200_10 :: .int v200_11 :: .int v200_12 :: .int v200_13 :: .ref (a 206) :: .int v200_15 :: .ref (a 207) :: .int v200_17 :: .int v200_18 :: .int v200_19 :: .ref (a 208) :: .int v200_21 :: .ref (a 209) :: .int v200_23 :: .ref (a 210) :: .ref (a 211) :: .ref (a 212) :: .int v200_27 :: .int v200_28 :: .int v200_29 :: .ref (a 213) :: .ref (a 214) :: .ref (a 215) :: .int v200_33 :: .int v200_34 :: .int v200_35 :: .ref (a 216) :: .ref (a 217) :: .ref (a 218) :: .ref (a 219) :: [])), (a 201, .inl (t 0, 841, .inl f201))]) (QP (fun r => rg 0 1 r)) 0 0 NoF := by
  refine Met.ofW (cc := cX12_areParties) (maxL := 2) (ret := (some .boolean)) (by decide) rfl ?_
  intro p e s m args below meth c s₁ B hml hv
  obtain ⟨rfl, hP, hK, hN⟩ := hv
  have hx := B.exec
  have hb := B.bytes
  have hr := B.returns
  have hts : ∀ w ∈ TB, w.before _ s = true := fun w h => atoms_spec (ws := wd yX12_areParties cX12_areParties 2 (some .boolean)) B.pre w (List.mem_cons_of_mem _ h)
  have hown : s.vm.findClass RX12 = some m.cls := findClass_of_methodNamed B.named
  have hlocks := B.notSynchronized
  have hF : CallFix p m c cX12_areParties 2 s _ TB RX12 := ⟨hx, hb, hml, hown, hts⟩
  have hl := lv_entry ([.ref (a 200), .int p0]) (n := 2) (Nat.le_of_ble_eq_true rfl)
  rw [lg_entry_eq]
  generalize (lg_sl ([.ref (a 200), .int p0]) ++ List.replicate (2 - (lg_sl ([.ref (a 200), .int p0])).length) Slot.unset).toArray = ls at hl ⊢
  have hl : lv_has ls 2 [(0, .ref (a 200)), (1, .int p0)] := hl
  have hS : va_S NoF s.heap s.heap [] := va_S.rf
  have hP : va_P D classes [(a 200, .inr (12, .int v200_0 :: .ref (a 201) :: .ref (a 202) :: .ref (a 203) :: .ref (a 204) :: .int v200_5 :: .ref (a 205) :: .int v200_7 :: .int v200_8 :: .int v200_9 :: .int v200_10 :: .int v200_11 :: .int v200_12 :: .int v200_13 :: .ref (a 206) :: .int v200_15 :: .ref (a 207) :: .int v200_17 :: .int v200_18 :: .int v200_19 :: .ref (a 208) :: .int v200_21 :: .ref (a 209) :: .int v200_23 :: .ref (a 210) :: .ref (a 211) :: .ref (a 212) :: .int v200_27 :: .int v200_28 :: .int v200_29 :: .ref (a 213) :: .ref (a 214) :: .ref (a 215) :: .int v200_33 :: .int v200_34 :: .int v200_35 :: .ref (a 216) :: .ref (a 217) :: .ref (a 218) :: .ref (a 219) :: [])), (a 201, .inl (t 0, 841, .inl f201))] s.heap := hP
  refine lv_aload_n hx hb dX12_areParties_0 rfl (lv_at hl 0 rfl) ?_
  refine y_pV hF (s_X12_isChamber l D t a v200_0 v200_5 v200_7 v200_8 v200_9 v200_10 v200_11 v200_12 v200_13 v200_15 v200_17 v200_18 v200_19 v200_21 v200_23 v200_27 v200_28 v200_29 v200_33 v200_34 v200_35 f201 r200_5 r200_7 r200_8 r200_9 r200_23 q201) m_1766 m_1768 m_s81 m_13 m_1769 hd_X12_isChamber ⟨Nat.le_of_ble_eq_true rfl, Nat.le_of_ble_eq_true rfl⟩ hK hN hP hS [0, 1] rfl 0 (ci := 12) rfl rfl rfl hl.1 rfl (Nat.le_of_ble_eq_true rfl) dX12_areParties_1 ⟨Nat.zero_le _, Nat.zero_le _⟩ (fun r_1 H locs hr_1 hP hS => ?_)
  refine lv_if_eq (tgt := 23) hx hb dX12_areParties_4 (by decide) (fun c_2 => ?_) (fun c_2 => ?_)
  · skip
    have h_3 : rg 0 0 r_1 := rg_eq c_2 (rg_c (x := 0) (k := 0) (by decide))
    refine lv_iconst (v := 0) hx hb dX12_areParties_23 (by decide) ?_
    exact W.zret (v := 0) hx hb hr rfl (fun t9 ht hW => ⟨⟨0, (), rfl, (rg_w (c := 0) (d := 1) (rg_c (x := 0) (k := 0) (by decide)) (by decide) (by decide)), trivial⟩, hS.F ht⟩) hS.2.2 dX12_areParties_24
  · skip
    have h_4 : rg 1 1 r_1 := rg_w (rg_neL hr_1 c_2 (by decide)) (by decide) (by decide)
    refine lv_iload_n hx hb dX12_areParties_7 rfl (lv_at hl 1 rfl) ?_
    refine lv_i2l hx hb dX12_areParties_8 rfl ?_
    refine lv_lconst (v := 0) hx hb dX12_areParties_9 rfl ?_
    refine lv_ldc2 (v := 15) hx hb hown (hts _ m_1949) dX12_areParties_10 ?_
    refine y_pS hF (s_X12_in l D t a ((p0).toInt64) 0 15) m_1469 m_1470 m_13 m_1471 hd_X12_in ⟨Nat.le_of_ble_eq_true rfl, Nat.le_of_ble_eq_true rfl⟩ hK hN hP hS [] rfl hl.1 rfl (Nat.le_of_ble_eq_true rfl) dX12_areParties_13 ⟨Nat.zero_le _, Nat.zero_le _⟩ (fun r_5 H locs hr_5 hP hS => ?_)
    refine lv_if_eq (tgt := 23) hx hb dX12_areParties_16 (by decide) (fun c_6 => ?_) (fun c_6 => ?_)
    · skip
      refine lv_iconst (v := 0) hx hb dX12_areParties_23 (by decide) ?_
      exact W.zret (v := 0) hx hb hr rfl (fun t9 ht hW => ⟨⟨0, (), rfl, (rg_w (c := 0) (d := 1) (rg_c (x := 0) (k := 0) (by decide)) (by decide) (by decide)), trivial⟩, hS.F ht⟩) hS.2.2 dX12_areParties_24
    · skip
      have o_7 := Or.resolve_left hr_5.2 c_6
      refine lv_iconst (v := 1) hx hb dX12_areParties_19 (by decide) ?_
      refine lv_goto (tgt := 24) hx hb dX12_areParties_20 (by decide) ?_
      exact W.zret (v := 1) hx hb hr rfl (fun t9 ht hW => ⟨⟨1, (), rfl, (rg_w (c := 0) (d := 1) (rg_c (x := 1) (k := 1) (by decide)) (by decide) (by decide)), trivial⟩, hS.F ht⟩) hS.2.2 dX12_areParties_24

set_option maxHeartbeats 4000000 in
set_option maxRecDepth 100000 in
theorem s_X12_seats (l : Launch) (D : va_G) (t : Nat → ClassId) (a : Nat → Nat) (v200_0 : Int32) (v200_5 : Int32) (v200_7 : Int32) (v200_8 : Int32) (v200_9 : Int32) (v200_10 : Int32) (v200_11 : Int32) (v200_12 : Int32) (v200_13 : Int32) (v200_15 : Int32) (v200_17 : Int32) (v200_18 : Int32) (v200_19 : Int32) (v200_21 : Int32) (v200_23 : Int32) (v200_27 : Int32) (v200_28 : Int32) (v200_29 : Int32) (v200_33 : Int32) (v200_34 : Int32) (v200_35 : Int32) (f201 : Nat → Int32) (p0 : Int32) (r200_5 : rg 0 1600 v200_5) (r200_7 : rg 0 1600 v200_7) (r200_8 : rg 0 1600 v200_8) (r200_9 : rg 0 1600 v200_9) (r200_23 : rg 0 9 v200_23) (q201 : wR f201) : Met l yX12_seats (wd yX12_seats cX12_seats 2 (some .int)) (RM 2 0 0) (PreP D (TY t) [.ref (a 200), .int p0] [(a 200, .inr (12, .int v200_0 :: .ref (a 201) :: .ref (a 202) :: .ref (a 203) :: .ref (a 204) :: .int v200_5 :: .ref (a 205) :: .int v200_7 :: .int v200_8 :: .int v200_9 :: .int v200_10 :: .int v200_11 :: .int v200_12 :: .int v200_13 :: .ref (a 206) :: .int v200_15 :: .ref (a 207) :: .int v200_17 :: .int v200_18 :: .int v200_19 :: .ref (a 208) :: .int v200_21 :: .ref (a 209) :: .int v200_23 :: .ref (a 210) :: .ref (a 211) :: .ref (a 212) :: .int v200_27 :: .int v200_28 :: .int v200_29 :: .ref (a 213) :: .ref (a 214) :: .ref (a 215) :: .int v200_33 :: .int v200_34 :: .int v200_35 :: .ref (a 216) :: .ref (a 217) :: .ref (a 218) :: .ref (a 219) :: [])), (a 201, .inl (t 0, 841, .inl f201))]) (QP (fun _ => True)) 0 0 NoF := by
  refine Met.ofW (cc := cX12_seats) (maxL := 2) (ret := (some .int)) (by decide) rfl ?_
  intro p e s m args below meth c s₁ B hml hv
  obtain ⟨rfl, hP, hK, hN⟩ := hv
  have hx := B.exec
  have hb := B.bytes
  have hr := B.returns
  have hts : ∀ w ∈ TB, w.before _ s = true := fun w h => atoms_spec (ws := wd yX12_seats cX12_seats 2 (some .int)) B.pre w (List.mem_cons_of_mem _ h)
  have hown : s.vm.findClass RX12 = some m.cls := findClass_of_methodNamed B.named
  have hlocks := B.notSynchronized
  have hF : CallFix p m c cX12_seats 2 s _ TB RX12 := ⟨hx, hb, hml, hown, hts⟩
  have hl := lv_entry ([.ref (a 200), .int p0]) (n := 2) (Nat.le_of_ble_eq_true rfl)
  rw [lg_entry_eq]
  generalize (lg_sl ([.ref (a 200), .int p0]) ++ List.replicate (2 - (lg_sl ([.ref (a 200), .int p0])).length) Slot.unset).toArray = ls at hl ⊢
  have hl : lv_has ls 2 [(0, .ref (a 200)), (1, .int p0)] := hl
  have hS : va_S NoF s.heap s.heap [] := va_S.rf
  have hP : va_P D classes [(a 200, .inr (12, .int v200_0 :: .ref (a 201) :: .ref (a 202) :: .ref (a 203) :: .ref (a 204) :: .int v200_5 :: .ref (a 205) :: .int v200_7 :: .int v200_8 :: .int v200_9 :: .int v200_10 :: .int v200_11 :: .int v200_12 :: .int v200_13 :: .ref (a 206) :: .int v200_15 :: .ref (a 207) :: .int v200_17 :: .int v200_18 :: .int v200_19 :: .ref (a 208) :: .int v200_21 :: .ref (a 209) :: .int v200_23 :: .ref (a 210) :: .ref (a 211) :: .ref (a 212) :: .int v200_27 :: .int v200_28 :: .int v200_29 :: .ref (a 213) :: .ref (a 214) :: .ref (a 215) :: .int v200_33 :: .int v200_34 :: .int v200_35 :: .ref (a 216) :: .ref (a 217) :: .ref (a 218) :: .ref (a 219) :: [])), (a 201, .inl (t 0, 841, .inl f201))] s.heap := hP
  refine lv_aload_n hx hb dX12_seats_0 rfl (lv_at hl 0 rfl) ?_
  refine y_pV hF (s_X12_isChamber l D t a v200_0 v200_5 v200_7 v200_8 v200_9 v200_10 v200_11 v200_12 v200_13 v200_15 v200_17 v200_18 v200_19 v200_21 v200_23 v200_27 v200_28 v200_29 v200_33 v200_34 v200_35 f201 r200_5 r200_7 r200_8 r200_9 r200_23 q201) m_1766 m_1768 m_s81 m_13 m_1769 hd_X12_isChamber ⟨Nat.le_of_ble_eq_true rfl, Nat.le_of_ble_eq_true rfl⟩ hK hN hP hS [0, 1] rfl 0 (ci := 12) rfl rfl rfl hl.1 rfl (Nat.le_of_ble_eq_true rfl) dX12_seats_1 ⟨Nat.zero_le _, Nat.zero_le _⟩ (fun r_1 H locs hr_1 hP hS => ?_)
  refine lv_if_eq (tgt := 24) hx hb dX12_seats_4 (by decide) (fun c_2 => ?_) (fun c_2 => ?_)
  · skip
    have h_3 : rg 0 0 r_1 := rg_eq c_2 (rg_c (x := 0) (k := 0) (by decide))
    refine lv_bipush (v := (-2)) hx hb dX12_seats_24 (by decide) ?_
    exact W.iret (v := (-2)) hx hb hr (fun t9 ht hW => ⟨⟨(-2), (), rfl, trivial, trivial⟩, hS.F ht⟩) hS.2.2 dX12_seats_26
  · skip
    have h_4 : rg 1 1 r_1 := rg_w (rg_neL hr_1 c_2 (by decide)) (by decide) (by decide)
    refine lv_iload_n hx hb dX12_seats_7 rfl (lv_at hl 1 rfl) ?_
    refine y_pS hF (s_X12_isParty l D t a p0) m_1934 m_1935 m_13 m_1936 hd_X12_isParty ⟨Nat.le_of_ble_eq_true rfl, Nat.le_of_ble_eq_true rfl⟩ hK hN hP hS [] rfl hl.1 rfl (Nat.le_of_ble_eq_true rfl) dX12_seats_8 ⟨Nat.zero_le _, Nat.zero_le _⟩ (fun r_5 H locs hr_5 hP hS => ?_)
    refine lv_if_eq (tgt := 24) hx hb dX12_seats_11 (by decide) (fun c_6 => ?_) (fun c_6 => ?_)
    · skip
      refine lv_bipush (v := (-2)) hx hb dX12_seats_24 (by decide) ?_
      exact W.iret (v := (-2)) hx hb hr (fun t9 ht hW => ⟨⟨(-2), (), rfl, trivial, trivial⟩, hS.F ht⟩) hS.2.2 dX12_seats_26
    · skip
      have o_7 := Or.resolve_left hr_5.2 c_6
      refine lv_aload_n hx hb dX12_seats_14 rfl (lv_at hl 0 rfl) ?_
      refine lv_iconst (v := 1) hx hb dX12_seats_15 (by decide) ?_
      refine lv_iload_n hx hb dX12_seats_16 rfl (lv_at hl 1 rfl) ?_
      refine lv_ishl hx hb dX12_seats_17 ?_
      refine lv_topi (fun x_8 ex_8 => ?_)
      have hx_8 : rg 1 8 x_8 := by rw [ex_8]; exact rg_shl1 (b := 3) o_7 (by decide) (by decide)
      refine y_pV hF (s_X12_seatsOf l D t a v200_0 v200_5 v200_7 v200_8 v200_9 v200_10 v200_11 v200_12 v200_13 v200_15 v200_17 v200_18 v200_19 v200_21 v200_23 v200_27 v200_28 v200_29 v200_33 v200_34 v200_35 f201 x_8 r200_5 r200_7 r200_8 r200_9 r200_23 q201) m_1937 m_1939 m_s97 m_13 m_1940 hd_X12_seatsOf ⟨Nat.le_of_ble_eq_true rfl, Nat.le_of_ble_eq_true rfl⟩ hK hN hP hS [0, 1] rfl 0 (ci := 12) rfl rfl rfl hl.1 rfl (Nat.le_of_ble_eq_true rfl) dX12_seats_18 ⟨Nat.zero_le _, Nat.zero_le _⟩ (fun r_9 H locs hr_9 hP hS => ?_)
      refine lv_goto (tgt := 26) hx hb dX12_seats_21 (by decide) ?_
      exact W.iret (v := r_9) hx hb hr (fun t9 ht hW => ⟨⟨r_9, (), rfl, trivial, trivial⟩, hS.F ht⟩) hS.2.2 dX12_seats_26

set_option maxHeartbeats 4000000 in
set_option maxRecDepth 100000 in
theorem s_X12_majority (l : Launch) (D : va_G) (t : Nat → ClassId) (a : Nat → Nat) (v200_0 : Int32) (v200_5 : Int32) (v200_7 : Int32) (v200_8 : Int32) (v200_9 : Int32) (v200_10 : Int32) (v200_11 : Int32) (v200_12 : Int32) (v200_13 : Int32) (v200_15 : Int32) (v200_17 : Int32) (v200_18 : Int32) (v200_19 : Int32) (v200_21 : Int32) (v200_23 : Int32) (v200_27 : Int32) (v200_28 : Int32) (v200_29 : Int32) (v200_33 : Int32) (v200_34 : Int32) (v200_35 : Int32) (f201 : Nat → Int32) (p0 : Int32) (r200_5 : rg 0 1600 v200_5) (r200_7 : rg 0 1600 v200_7) (r200_8 : rg 0 1600 v200_8) (r200_9 : rg 0 1600 v200_9) (r200_23 : rg 0 9 v200_23) (q201 : wR f201) : Met l yX12_majority (wd yX12_majority cX12_majority 2 (some .int)) (RM 3 0 0) (PreP D (TY t) [.ref (a 200), .int p0] [(a 200, .inr (12, .int v200_0 :: .ref (a 201) :: .ref (a 202) :: .ref (a 203) :: .ref (a 204) :: .int v200_5 :: .ref (a 205) :: .int v200_7 :: .int v200_8 :: .int v200_9 :: .int v200_10 :: .int v200_11 :: .int v200_12 :: .int v200_13 :: .ref (a 206) :: .int v200_15 :: .ref (a 207) :: .int v200_17 :: .int v200_18 :: .int v200_19 :: .ref (a 208) :: .int v200_21 :: .ref (a 209) :: .int v200_23 :: .ref (a 210) :: .ref (a 211) :: .ref (a 212) :: .int v200_27 :: .int v200_28 :: .int v200_29 :: .ref (a 213) :: .ref (a 214) :: .ref (a 215) :: .int v200_33 :: .int v200_34 :: .int v200_35 :: .ref (a 216) :: .ref (a 217) :: .ref (a 218) :: .ref (a 219) :: [])), (a 201, .inl (t 0, 841, .inl f201))]) (QP (fun r => rg (-2) 1 r)) 0 0 NoF := by
  refine Met.ofW (cc := cX12_majority) (maxL := 2) (ret := (some .int)) (by decide) rfl ?_
  intro p e s m args below meth c s₁ B hml hv
  obtain ⟨rfl, hP, hK, hN⟩ := hv
  have hx := B.exec
  have hb := B.bytes
  have hr := B.returns
  have hts : ∀ w ∈ TB, w.before _ s = true := fun w h => atoms_spec (ws := wd yX12_majority cX12_majority 2 (some .int)) B.pre w (List.mem_cons_of_mem _ h)
  have hown : s.vm.findClass RX12 = some m.cls := findClass_of_methodNamed B.named
  have hlocks := B.notSynchronized
  have hF : CallFix p m c cX12_majority 2 s _ TB RX12 := ⟨hx, hb, hml, hown, hts⟩
  have hl := lv_entry ([.ref (a 200), .int p0]) (n := 2) (Nat.le_of_ble_eq_true rfl)
  rw [lg_entry_eq]
  generalize (lg_sl ([.ref (a 200), .int p0]) ++ List.replicate (2 - (lg_sl ([.ref (a 200), .int p0])).length) Slot.unset).toArray = ls at hl ⊢
  have hl : lv_has ls 2 [(0, .ref (a 200)), (1, .int p0)] := hl
  have hS : va_S NoF s.heap s.heap [] := va_S.rf
  have hP : va_P D classes [(a 200, .inr (12, .int v200_0 :: .ref (a 201) :: .ref (a 202) :: .ref (a 203) :: .ref (a 204) :: .int v200_5 :: .ref (a 205) :: .int v200_7 :: .int v200_8 :: .int v200_9 :: .int v200_10 :: .int v200_11 :: .int v200_12 :: .int v200_13 :: .ref (a 206) :: .int v200_15 :: .ref (a 207) :: .int v200_17 :: .int v200_18 :: .int v200_19 :: .ref (a 208) :: .int v200_21 :: .ref (a 209) :: .int v200_23 :: .ref (a 210) :: .ref (a 211) :: .ref (a 212) :: .int v200_27 :: .int v200_28 :: .int v200_29 :: .ref (a 213) :: .ref (a 214) :: .ref (a 215) :: .int v200_33 :: .int v200_34 :: .int v200_35 :: .ref (a 216) :: .ref (a 217) :: .ref (a 218) :: .ref (a 219) :: [])), (a 201, .inl (t 0, 841, .inl f201))] s.heap := hP
  refine lv_aload_n hx hb dX12_majority_0 rfl (lv_at hl 0 rfl) ?_
  refine lv_iload_n hx hb dX12_majority_1 rfl (lv_at hl 1 rfl) ?_
  refine y_pV hF (s_X12_areParties l D t a v200_0 v200_5 v200_7 v200_8 v200_9 v200_10 v200_11 v200_12 v200_13 v200_15 v200_17 v200_18 v200_19 v200_21 v200_23 v200_27 v200_28 v200_29 v200_33 v200_34 v200_35 f201 p0 r200_5 r200_7 r200_8 r200_9 r200_23 q201) m_1945 m_1947 m_s98 m_13 m_1948 hd_X12_areParties ⟨Nat.le_of_ble_eq_true rfl, Nat.le_of_ble_eq_true rfl⟩ hK hN hP hS [0, 1] rfl 0 (ci := 12) rfl rfl rfl hl.1 rfl (Nat.le_of_ble_eq_true rfl) dX12_majority_2 ⟨Nat.zero_le _, Nat.zero_le _⟩ (fun r_1 H locs hr_1 hP hS => ?_)
  refine lv_if_eq (tgt := 24) hx hb dX12_majority_5 (by decide) (fun c_2 => ?_) (fun c_2 => ?_)
  · skip
    have h_3 : rg 0 0 r_1 := rg_eq c_2 (rg_c (x := 0) (k := 0) (by decide))
    refine lv_bipush (v := (-2)) hx hb dX12_majority_24 (by decide) ?_
    exact W.iret (v := (-2)) hx hb hr (fun t9 ht hW => ⟨⟨(-2), (), rfl, (rg_w (c := (-2)) (d := 1) (rg_c (x := (-2)) (k := (-2)) (by decide)) (by decide) (by decide)), trivial⟩, hS.F ht⟩) hS.2.2 dX12_majority_26
  · skip
    have h_4 : rg 1 1 r_1 := rg_w (rg_neL hr_1 c_2 (by decide)) (by decide) (by decide)
    refine lv_aload_n hx hb dX12_majority_8 rfl (lv_at hl 0 rfl) ?_
    refine lv_iload_n hx hb dX12_majority_9 rfl (lv_at hl 1 rfl) ?_
    refine y_pV hF (s_X12_isMajority l D t a v200_0 v200_5 v200_7 v200_8 v200_9 v200_10 v200_11 v200_12 v200_13 v200_15 v200_17 v200_18 v200_19 v200_21 v200_23 v200_27 v200_28 v200_29 v200_33 v200_34 v200_35 f201 p0 r200_5 r200_7 r200_8 r200_9 r200_23 q201) m_1950 m_1952 m_s99 m_13 m_1953 hd_X12_isMajority ⟨Nat.le_of_ble_eq_true rfl, Nat.le_of_ble_eq_true rfl⟩ hK hN hP hS [0, 1] rfl 0 (ci := 12) rfl rfl rfl hl.1 rfl (Nat.le_of_ble_eq_true rfl) dX12_majority_10 ⟨Nat.zero_le _, Nat.zero_le _⟩ (fun r_5 H locs hr_5 hP hS => ?_)
    refine lv_if_eq (tgt := 20) hx hb dX12_majority_13 (by decide) (fun c_6 => ?_) (fun c_6 => ?_)
    · skip
      have h_7 : rg 0 0 r_5 := rg_eq c_6 (rg_c (x := 0) (k := 0) (by decide))
      refine lv_iconst (v := 0) hx hb dX12_majority_20 (by decide) ?_
      refine lv_goto (tgt := 26) hx hb dX12_majority_21 (by decide) ?_
      exact W.iret (v := 0) hx hb hr (fun t9 ht hW => ⟨⟨0, (), rfl, (rg_w (c := (-2)) (d := 1) (rg_c (x := 0) (k := 0) (by decide)) (by decide) (by decide)), trivial⟩, hS.F ht⟩) hS.2.2 dX12_majority_26
    · skip
      have h_8 : rg 1 1 r_5 := rg_w (rg_neL hr_5 c_6 (by decide)) (by decide) (by decide)
      refine lv_iconst (v := 1) hx hb dX12_majority_16 (by decide) ?_
      refine lv_goto (tgt := 26) hx hb dX12_majority_17 (by decide) ?_
      exact W.iret (v := 1) hx hb hr (fun t9 ht hW => ⟨⟨1, (), rfl, (rg_w (c := (-2)) (d := 1) (rg_c (x := 1) (k := 1) (by decide)) (by decide) (by decide)), trivial⟩, hS.F ht⟩) hS.2.2 dX12_majority_26

set_option maxHeartbeats 4000000 in
set_option maxRecDepth 100000 in
theorem s_X12_divisor (l : Launch) (D : va_G) (t : Nat → ClassId) (a : Nat → Nat) (p0 : Int32) (p1 : Int32) (rp1 : rg 1 2147483647 p1) : Met l yX12_divisor (wd yX12_divisor cX12_divisor 5 (some .int)) (RM 0 0 0) (PreP D (TY t) [.int p0, .int p1] []) (QP (fun r => ¬ r = 0)) 0 0 NoF := by
  refine Met.ofW (cc := cX12_divisor) (maxL := 5) (ret := (some .int)) (by decide) rfl ?_
  intro p e s m args below meth c s₁ B hml hv
  obtain ⟨rfl, hP, hK, hN⟩ := hv
  have hx := B.exec
  have hb := B.bytes
  have hr := B.returns
  have hts : ∀ w ∈ TB, w.before _ s = true := fun w h => atoms_spec (ws := wd yX12_divisor cX12_divisor 5 (some .int)) B.pre w (List.mem_cons_of_mem _ h)
  have hown : s.vm.findClass RX12 = some m.cls := findClass_of_methodNamed B.named
  have hlocks := B.notSynchronized
  have hF : CallFix p m c cX12_divisor 5 s _ TB RX12 := ⟨hx, hb, hml, hown, hts⟩
  have hl := lv_entry ([.int p0, .int p1]) (n := 5) (Nat.le_of_ble_eq_true rfl)
  rw [lg_entry_eq]
  generalize (lg_sl ([.int p0, .int p1]) ++ List.replicate (5 - (lg_sl ([.int p0, .int p1])).length) Slot.unset).toArray = ls at hl ⊢
  have hl : lv_has ls 5 [(0, .int p0), (1, .int p1)] := hl
  have hS : va_S NoF s.heap s.heap [] := va_S.rf
  have hP : va_P D classes [] s.heap := hP
  refine lv_iload_n hx hb dX12_divisor_0 rfl (lv_at hl 0 rfl) ?_
  refine lv_istore_n (lv' := [(2, .int p0), (0, .int p0), (1, .int p1)]) hx hb dX12_divisor_1 rfl hl (by decide) rfl (fun ls hl => ?_)
  refine lv_iload_n hx hb dX12_divisor_2 rfl (lv_at hl 2 rfl) ?_
  refine lv_istore_n (lv' := [(3, .int p1), (2, .int p0), (0, .int p0), (1, .int p1)]) hx hb dX12_divisor_3 rfl hl (by decide) rfl (fun ls hl => ?_)
  refine loopW (α := US) (fun n y_1 H locs ls => ((y_1.1 0).toInt.natAbs : Int) < (n : Int) ∧ (¬ (y_1.1 1) = 0 ∨ ¬ (y_1.1 0) = 0) ∧ va_P D classes [] H ∧ va_S NoF s.heap H locs ∧ lv_has ls 5 [(3, .int (y_1.1 0)), (2, .int (y_1.1 1)), (0, .int p0), (1, .int p1)]) 4 (fun y_1 => []) (fun _ _ _ _ h9 => by have := h9.1; omega) (fun n_5 ih_3 y_1 H locs ls hI => ?_) 2147483650 (fun k => [p1, p0].getD k 0, fun k => [].getD k (fun _ => 0), fun k => [].getD k (fun _ => 0), fun k => [].getD k 0) ⟨(show (p1.toInt.natAbs : Int) < ((2147483650 : Nat) : Int) from (by have := rp1.1; have := rp1.2; omega)), (show ¬ p0 = 0 ∨ ¬ p1 = 0 from (Or.inr (ne0_rg rp1))), hP, hS, (lv_sub hl [0, 1, 2, 3] rfl)⟩
  obtain ⟨me_4, i_2, hP, hS, hl⟩ := hI
  refine lv_iload_n hx hb dX12_divisor_4 rfl (lv_at hl 0 rfl) ?_
  refine lv_if_eq (tgt := 21) hx hb dX12_divisor_5 (by decide) (fun c_6 => ?_) (fun c_6 => ?_)
  · skip
    have zc_7 : (0 : Int32).toInt = 0 := rfl
    have tc_6 : ((y_1.1 0) : Int32).toInt = (0 : Int32).toInt := congrArg Int32.toInt (by first | exact c_6 | exact Classical.not_not.mp c_6)
    have h_8 : rg 0 0 (y_1.1 0) := rg_eq c_6 (rg_c (x := 0) (k := 0) (by decide))
    refine lv_iload_n hx hb dX12_divisor_21 rfl (lv_at hl 1 rfl) ?_
    exact W.iret (v := (y_1.1 1)) hx hb hr (fun t9 ht hW => ⟨⟨(y_1.1 1), (), rfl, ((i_2).resolve_right (fun z9 => z9 c_6)), trivial⟩, hS.F ht⟩) hS.2.2 dX12_divisor_22
  · skip
    have zc_9 : (0 : Int32).toInt = 0 := rfl
    have tc_6 : ¬ ((y_1.1 0) : Int32).toInt = (0 : Int32).toInt := fun z9 => c_6 (Int32.toInt_inj.mp z9)
    refine lv_iload_n hx hb dX12_divisor_8 rfl (lv_at hl 1 rfl) ?_
    refine lv_iload_n hx hb dX12_divisor_9 rfl (lv_at hl 0 rfl) ?_
    refine lv_irem hx hb dX12_divisor_10 c_6 ?_
    refine lv_topi (fun x_10 ex_10 => ?_)
    refine lv_istore (lv' := [(4, .int x_10), (3, .int (y_1.1 0)), (2, .int (y_1.1 1)), (0, .int p0), (1, .int p1)]) hx hb dX12_divisor_11 hl (by decide) rfl (fun ls hl => ?_)
    refine lv_iload_n hx hb dX12_divisor_13 rfl (lv_at hl 1 rfl) ?_
    refine lv_istore_n (lv' := [(2, .int (y_1.1 0)), (4, .int x_10), (3, .int (y_1.1 0)), (0, .int p0), (1, .int p1)]) hx hb dX12_divisor_14 rfl hl (by decide) rfl (fun ls hl => ?_)
    refine lv_iload hx hb dX12_divisor_15 (lv_at hl 1 rfl) ?_
    refine lv_istore_n (lv' := [(3, .int x_10), (2, .int (y_1.1 0)), (4, .int x_10), (0, .int p0), (1, .int p1)]) hx hb dX12_divisor_17 rfl hl (by decide) rfl (fun ls hl => ?_)
    refine lv_goto (tgt := 4) hx hb dX12_divisor_18 (by decide) ?_
    exact ih_3 (fun k => [x_10, (y_1.1 0)].getD k 0, fun k => [].getD k (fun _ => 0), fun k => [].getD k (fun _ => 0), fun k => [].getD k 0) _ _ ls ⟨(show (x_10.toInt.natAbs : Int) < (n_5 : Int) from (by have o1 := rem_lt ex_10 c_6; have o2 := me_4; omega)), (show ¬ (y_1.1 0) = 0 ∨ ¬ x_10 = 0 from (Or.inl c_6)), hP, hS, (lv_sub hl [0, 1, 3, 4] rfl)⟩

set_option maxHeartbeats 4000000 in
set_option maxRecDepth 100000 in
theorem s_X12_orders4 (l : Launch) (D : va_G) (t : Nat → ClassId) (a : Nat → Nat) (p0 : Int32) (rp0 : rg 4 4 p0) : Met l yX12_orders (wd yX12_orders cX12_orders 3 (some .int)) (RM 0 0 0) (PreP D (TY t) [.int p0] []) (QP (fun r => rg 24 24 r)) 0 0 NoF := by
  refine Met.ofW (cc := cX12_orders) (maxL := 3) (ret := (some .int)) (by decide) rfl ?_
  intro p e s m args below meth c s₁ B hml hv
  obtain ⟨rfl, hP, hK, hN⟩ := hv
  have hx := B.exec
  have hb := B.bytes
  have hr := B.returns
  have hts : ∀ w ∈ TB, w.before _ s = true := fun w h => atoms_spec (ws := wd yX12_orders cX12_orders 3 (some .int)) B.pre w (List.mem_cons_of_mem _ h)
  have hown : s.vm.findClass RX12 = some m.cls := findClass_of_methodNamed B.named
  have hlocks := B.notSynchronized
  have hF : CallFix p m c cX12_orders 3 s _ TB RX12 := ⟨hx, hb, hml, hown, hts⟩
  have hl := lv_entry ([.int p0]) (n := 3) (Nat.le_of_ble_eq_true rfl)
  rw [lg_entry_eq]
  generalize (lg_sl ([.int p0]) ++ List.replicate (3 - (lg_sl ([.int p0])).length) Slot.unset).toArray = ls at hl ⊢
  have hl : lv_has ls 3 [(0, .int p0)] := hl
  have hS : va_S NoF s.heap s.heap [] := va_S.rf
  have hP : va_P D classes [] s.heap := hP
  obtain rfl := cs_4_4 rp0
  · skip
    refine lv_iconst (v := 1) hx hb dX12_orders_0 (by decide) ?_
    refine lv_istore_n (lv' := [(1, .int 1), (0, .int 4)]) hx hb dX12_orders_1 rfl hl (by decide) rfl (fun ls hl => ?_)
    refine lv_iconst (v := 2) hx hb dX12_orders_2 (by decide) ?_
    refine lv_istore_n (lv' := [(2, .int 2), (1, .int 1), (0, .int 4)]) hx hb dX12_orders_3 rfl hl (by decide) rfl (fun ls hl => ?_)
    refine lv_iload_n hx hb dX12_orders_4 rfl (lv_at hl 0 rfl) ?_
    refine lv_iload_n hx hb dX12_orders_5 rfl (lv_at hl 2 rfl) ?_
    refine lv_icmp_gt (tgt := 19) hx hb dX12_orders_6 (by decide) (fun c_1 => False.elim (by first | exact absurd (by decide) c_1 | exact absurd c_1 (by decide))) (fun c_1 => ?_)
    refine lv_iload_n hx hb dX12_orders_9 rfl (lv_at hl 1 rfl) ?_
    refine lv_iload_n hx hb dX12_orders_10 rfl (lv_at hl 0 rfl) ?_
    refine lv_imul hx hb dX12_orders_11 ?_
    refine x_seti 2 (by decide) ?_
    refine lv_istore_n (lv' := [(1, .int 2), (2, .int 2), (0, .int 4)]) hx hb dX12_orders_12 rfl hl (by decide) rfl (fun ls hl => ?_)
    refine lv_iinc (v := 3) (lv' := [(2, .int 3), (1, .int 2), (0, .int 4)]) hx hb dX12_orders_13 hl (k := 1) rfl (by decide) (by decide) rfl (fun ls hl => ?_)
    refine lv_goto (tgt := 4) hx hb dX12_orders_16 (by decide) ?_
    refine lv_iload_n hx hb dX12_orders_4 rfl (lv_at hl 0 rfl) ?_
    refine lv_iload_n hx hb dX12_orders_5 rfl (lv_at hl 2 rfl) ?_
    refine lv_icmp_gt (tgt := 19) hx hb dX12_orders_6 (by decide) (fun c_2 => False.elim (by first | exact absurd (by decide) c_2 | exact absurd c_2 (by decide))) (fun c_2 => ?_)
    refine lv_iload_n hx hb dX12_orders_9 rfl (lv_at hl 1 rfl) ?_
    refine lv_iload_n hx hb dX12_orders_10 rfl (lv_at hl 0 rfl) ?_
    refine lv_imul hx hb dX12_orders_11 ?_
    refine x_seti 6 (by decide) ?_
    refine lv_istore_n (lv' := [(1, .int 6), (2, .int 3), (0, .int 4)]) hx hb dX12_orders_12 rfl hl (by decide) rfl (fun ls hl => ?_)
    refine lv_iinc (v := 4) (lv' := [(2, .int 4), (1, .int 6), (0, .int 4)]) hx hb dX12_orders_13 hl (k := 1) rfl (by decide) (by decide) rfl (fun ls hl => ?_)
    refine lv_goto (tgt := 4) hx hb dX12_orders_16 (by decide) ?_
    refine lv_iload_n hx hb dX12_orders_4 rfl (lv_at hl 0 rfl) ?_
    refine lv_iload_n hx hb dX12_orders_5 rfl (lv_at hl 2 rfl) ?_
    refine lv_icmp_gt (tgt := 19) hx hb dX12_orders_6 (by decide) (fun c_3 => False.elim (by first | exact absurd (by decide) c_3 | exact absurd c_3 (by decide))) (fun c_3 => ?_)
    refine lv_iload_n hx hb dX12_orders_9 rfl (lv_at hl 1 rfl) ?_
    refine lv_iload_n hx hb dX12_orders_10 rfl (lv_at hl 0 rfl) ?_
    refine lv_imul hx hb dX12_orders_11 ?_
    refine x_seti 24 (by decide) ?_
    refine lv_istore_n (lv' := [(1, .int 24), (2, .int 4), (0, .int 4)]) hx hb dX12_orders_12 rfl hl (by decide) rfl (fun ls hl => ?_)
    refine lv_iinc (v := 5) (lv' := [(2, .int 5), (1, .int 24), (0, .int 4)]) hx hb dX12_orders_13 hl (k := 1) rfl (by decide) (by decide) rfl (fun ls hl => ?_)
    refine lv_goto (tgt := 4) hx hb dX12_orders_16 (by decide) ?_
    refine lv_iload_n hx hb dX12_orders_4 rfl (lv_at hl 0 rfl) ?_
    refine lv_iload_n hx hb dX12_orders_5 rfl (lv_at hl 2 rfl) ?_
    refine lv_icmp_gt (tgt := 19) hx hb dX12_orders_6 (by decide) (fun c_4 => ?_) (fun c_4 => False.elim (by first | exact absurd (by decide) c_4 | exact absurd c_4 (by decide)))
    refine lv_iload_n hx hb dX12_orders_19 rfl (lv_at hl 1 rfl) ?_
    exact W.iret (v := 24) hx hb hr (fun t9 ht hW => ⟨⟨24, (), rfl, (rg_c (x := 24) (k := 24) (by decide)), trivial⟩, hS.F ht⟩) hS.2.2 dX12_orders_20

set_option maxHeartbeats 4000000 in
set_option maxRecDepth 100000 in
theorem s_X12_orders (l : Launch) (D : va_G) (t : Nat → ClassId) (a : Nat → Nat) (p0 : Int32) (rp0 : rg (-6) 9 p0) : Met l yX12_orders (wd yX12_orders cX12_orders 3 (some .int)) (RM 0 0 0) (PreP D (TY t) [.int p0] []) (QP (fun _ => True)) 0 0 NoF := by
  refine Met.ofW (cc := cX12_orders) (maxL := 3) (ret := (some .int)) (by decide) rfl ?_
  intro p e s m args below meth c s₁ B hml hv
  obtain ⟨rfl, hP, hK, hN⟩ := hv
  have hx := B.exec
  have hb := B.bytes
  have hr := B.returns
  have hts : ∀ w ∈ TB, w.before _ s = true := fun w h => atoms_spec (ws := wd yX12_orders cX12_orders 3 (some .int)) B.pre w (List.mem_cons_of_mem _ h)
  have hown : s.vm.findClass RX12 = some m.cls := findClass_of_methodNamed B.named
  have hlocks := B.notSynchronized
  have hF : CallFix p m c cX12_orders 3 s _ TB RX12 := ⟨hx, hb, hml, hown, hts⟩
  have hl := lv_entry ([.int p0]) (n := 3) (Nat.le_of_ble_eq_true rfl)
  rw [lg_entry_eq]
  generalize (lg_sl ([.int p0]) ++ List.replicate (3 - (lg_sl ([.int p0])).length) Slot.unset).toArray = ls at hl ⊢
  have hl : lv_has ls 3 [(0, .int p0)] := hl
  have hS : va_S NoF s.heap s.heap [] := va_S.rf
  have hP : va_P D classes [] s.heap := hP
  refine lv_iconst (v := 1) hx hb dX12_orders_0 (by decide) ?_
  refine lv_istore_n (lv' := [(1, .int 1), (0, .int p0)]) hx hb dX12_orders_1 rfl hl (by decide) rfl (fun ls hl => ?_)
  refine lv_iconst (v := 2) hx hb dX12_orders_2 (by decide) ?_
  refine lv_istore_n (lv' := [(2, .int 2), (1, .int 1), (0, .int p0)]) hx hb dX12_orders_3 rfl hl (by decide) rfl (fun ls hl => ?_)
  refine loopW (α := US) (fun n y_1 H locs ls => 10 < (y_1.1 0).toInt + (n : Int) ∧ rg 2 10 (y_1.1 0) ∧ va_P D classes [] H ∧ va_S NoF s.heap H locs ∧ lv_has ls 3 [(2, .int (y_1.1 0)), (1, .int (y_1.1 1)), (0, .int p0)]) 4 (fun y_1 => []) (fun _ _ _ _ h9 => m_0 h9.1 h9.2.1) (fun n ih_3 y_1 H locs ls hI => ?_) 9 (fun k => [2, 1].getD k 0, fun k => [].getD k (fun _ => 0), fun k => [].getD k (fun _ => 0), fun k => [].getD k 0) ⟨(m_i (rg_c (x := 2) (k := 2) (by decide)) (by decide)), (rg_w (c := 2) (d := 10) (rg_c (x := 2) (k := 2) (by decide)) (by decide) (by decide)), hP, hS, (lv_sub hl [0, 1, 2] rfl)⟩
  obtain ⟨me_4, h_2, hP, hS, hl⟩ := hI
  refine lv_iload_n hx hb dX12_orders_4 rfl (lv_at hl 0 rfl) ?_
  refine lv_iload_n hx hb dX12_orders_5 rfl (lv_at hl 2 rfl) ?_
  refine lv_icmp_gt (tgt := 19) hx hb dX12_orders_6 (by decide) (fun c_5 => ?_) (fun c_5 => ?_)
  · skip
    refine lv_iload_n hx hb dX12_orders_19 rfl (lv_at hl 1 rfl) ?_
    exact W.iret (v := (y_1.1 1)) hx hb hr (fun t9 ht hW => ⟨⟨(y_1.1 1), (), rfl, trivial, trivial⟩, hS.F ht⟩) hS.2.2 dX12_orders_20
  · skip
    have h_6 : rg 2 9 (y_1.1 0) := ⟨(h_2).1, Int.le_trans (c_nltR c_5 rp0) (by decide)⟩
    have h_7 : rg 2 9 p0 := ⟨Int.le_trans (by decide) (c_nlt c_5 h_2), (rp0).2⟩
    refine lv_iload_n hx hb dX12_orders_9 rfl (lv_at hl 1 rfl) ?_
    refine lv_iload_n hx hb dX12_orders_10 rfl (lv_at hl 0 rfl) ?_
    refine lv_imul hx hb dX12_orders_11 ?_
    refine lv_topi (fun x_8 ex_8 => ?_)
    refine lv_istore_n (lv' := [(1, .int x_8), (2, .int (y_1.1 0)), (0, .int p0)]) hx hb dX12_orders_12 rfl hl (by decide) rfl (fun ls hl => ?_)
    obtain ⟨x_9, ex_9⟩ : ∃ y9 : Int32, y9 = (y_1.1 0) + 1 := ⟨_, rfl⟩
    have hx_9 : rg 3 10 x_9 := by rw [ex_9]; exact rg_add h_6 (rg_c (x := 1) (k := 1) (by decide)) (by decide) (by decide) (by decide) (by decide)
    have tx_9 : x_9.toInt = (y_1.1 0).toInt + 1 := by rw [ex_9]; exact inc_tk h_6 (by decide) (by decide) (by decide)
    refine lv_iinc (v := x_9) (lv' := [(2, .int x_9), (1, .int x_8), (0, .int p0)]) hx hb dX12_orders_13 hl (k := 1) rfl (by rw [ex_9]; rfl) (by decide) rfl (fun ls hl => ?_)
    refine lv_goto (tgt := 4) hx hb dX12_orders_16 (by decide) ?_
    exact ih_3 (fun k => [x_9, x_8].getD k 0, fun k => [].getD k (fun _ => 0), fun k => [].getD k (fun _ => 0), fun k => [].getD k 0) _ _ ls ⟨(m_upk me_4 tx_9 (by decide)), (rg_w (c := 2) (d := 10) hx_9 (by decide) (by decide)), hP, hS, (lv_sub hl [0, 1, 2] rfl)⟩

set_option maxHeartbeats 4000000 in
set_option maxRecDepth 100000 in
theorem s_X12_share (l : Launch) (D : va_G) (t : Nat → ClassId) (a : Nat → Nat) (v200_0 : Int32) (v200_5 : Int32) (v200_7 : Int32) (v200_8 : Int32) (v200_9 : Int32) (v200_10 : Int32) (v200_11 : Int32) (v200_12 : Int32) (v200_13 : Int32) (v200_15 : Int32) (v200_17 : Int32) (v200_18 : Int32) (v200_19 : Int32) (v200_21 : Int32) (v200_23 : Int32) (v200_27 : Int32) (v200_28 : Int32) (v200_29 : Int32) (v200_33 : Int32) (v200_34 : Int32) (v200_35 : Int32) (f201 : Nat → Int32) (p0 : Int32) (p1 : Int32) (r200_5 : rg 0 1600 v200_5) (r200_7 : rg 0 1600 v200_7) (r200_8 : rg 0 1600 v200_8) (r200_9 : rg 0 1600 v200_9) (r200_23 : rg 0 9 v200_23) (q201 : wR f201) : Met l yX12_share (wd yX12_share cX12_share 5 (some .int)) (RM 3 0 0) (PreP D (TY t) [.ref (a 200), .int p0, .int p1] [(a 200, .inr (12, .int v200_0 :: .ref (a 201) :: .ref (a 202) :: .ref (a 203) :: .ref (a 204) :: .int v200_5 :: .ref (a 205) :: .int v200_7 :: .int v200_8 :: .int v200_9 :: .int v200_10 :: .int v200_11 :: .int v200_12 :: .int v200_13 :: .ref (a 206) :: .int v200_15 :: .ref (a 207) :: .int v200_17 :: .int v200_18 :: .int v200_19 :: .ref (a 208) :: .int v200_21 :: .ref (a 209) :: .int v200_23 :: .ref (a 210) :: .ref (a 211) :: .ref (a 212) :: .int v200_27 :: .int v200_28 :: .int v200_29 :: .ref (a 213) :: .ref (a 214) :: .ref (a 215) :: .int v200_33 :: .int v200_34 :: .int v200_35 :: .ref (a 216) :: .ref (a 217) :: .ref (a 218) :: .ref (a 219) :: [])), (a 201, .inl (t 0, 841, .inl f201))]) (QP (fun _ => True)) 0 0 NoF := by
  refine Met.ofW (cc := cX12_share) (maxL := 5) (ret := (some .int)) (by decide) rfl ?_
  intro p e s m args below meth c s₁ B hml hv
  obtain ⟨rfl, hP, hK, hN⟩ := hv
  have hx := B.exec
  have hb := B.bytes
  have hr := B.returns
  have hts : ∀ w ∈ TB, w.before _ s = true := fun w h => atoms_spec (ws := wd yX12_share cX12_share 5 (some .int)) B.pre w (List.mem_cons_of_mem _ h)
  have hown : s.vm.findClass RX12 = some m.cls := findClass_of_methodNamed B.named
  have hlocks := B.notSynchronized
  have hF : CallFix p m c cX12_share 5 s _ TB RX12 := ⟨hx, hb, hml, hown, hts⟩
  have hl := lv_entry ([.ref (a 200), .int p0, .int p1]) (n := 5) (Nat.le_of_ble_eq_true rfl)
  rw [lg_entry_eq]
  generalize (lg_sl ([.ref (a 200), .int p0, .int p1]) ++ List.replicate (5 - (lg_sl ([.ref (a 200), .int p0, .int p1])).length) Slot.unset).toArray = ls at hl ⊢
  have hl : lv_has ls 5 [(0, .ref (a 200)), (1, .int p0), (2, .int p1)] := hl
  have hS : va_S NoF s.heap s.heap [] := va_S.rf
  have hP : va_P D classes [(a 200, .inr (12, .int v200_0 :: .ref (a 201) :: .ref (a 202) :: .ref (a 203) :: .ref (a 204) :: .int v200_5 :: .ref (a 205) :: .int v200_7 :: .int v200_8 :: .int v200_9 :: .int v200_10 :: .int v200_11 :: .int v200_12 :: .int v200_13 :: .ref (a 206) :: .int v200_15 :: .ref (a 207) :: .int v200_17 :: .int v200_18 :: .int v200_19 :: .ref (a 208) :: .int v200_21 :: .ref (a 209) :: .int v200_23 :: .ref (a 210) :: .ref (a 211) :: .ref (a 212) :: .int v200_27 :: .int v200_28 :: .int v200_29 :: .ref (a 213) :: .ref (a 214) :: .ref (a 215) :: .int v200_33 :: .int v200_34 :: .int v200_35 :: .ref (a 216) :: .ref (a 217) :: .ref (a 218) :: .ref (a 219) :: [])), (a 201, .inl (t 0, 841, .inl f201))] s.heap := hP
  refine lv_aload_n hx hb dX12_share_0 rfl (lv_at hl 0 rfl) ?_
  refine y_pV hF (s_X12_isChamber l D t a v200_0 v200_5 v200_7 v200_8 v200_9 v200_10 v200_11 v200_12 v200_13 v200_15 v200_17 v200_18 v200_19 v200_21 v200_23 v200_27 v200_28 v200_29 v200_33 v200_34 v200_35 f201 r200_5 r200_7 r200_8 r200_9 r200_23 q201) m_1766 m_1768 m_s81 m_13 m_1769 hd_X12_isChamber ⟨Nat.le_of_ble_eq_true rfl, Nat.le_of_ble_eq_true rfl⟩ hK hN hP hS [0, 1] rfl 0 (ci := 12) rfl rfl rfl hl.1 rfl (Nat.le_of_ble_eq_true rfl) dX12_share_1 ⟨Nat.zero_le _, Nat.zero_le _⟩ (fun r_1 H locs hr_1 hP hS => ?_)
  refine lv_if_eq (tgt := 24) hx hb dX12_share_4 (by decide) (fun c_2 => ?_) (fun c_2 => ?_)
  · skip
    have h_3 : rg 0 0 r_1 := rg_eq c_2 (rg_c (x := 0) (k := 0) (by decide))
    refine lv_bipush (v := (-2)) hx hb dX12_share_24 (by decide) ?_
    exact W.iret (v := (-2)) hx hb hr (fun t9 ht hW => ⟨⟨(-2), (), rfl, trivial, trivial⟩, hS.F ht⟩) hS.2.2 dX12_share_26
  · skip
    have h_4 : rg 1 1 r_1 := rg_w (rg_neL hr_1 c_2 (by decide)) (by decide) (by decide)
    refine lv_iload_n hx hb dX12_share_7 rfl (lv_at hl 1 rfl) ?_
    refine y_pS hF (s_X12_isParty l D t a p0) m_1934 m_1935 m_13 m_1936 hd_X12_isParty ⟨Nat.le_of_ble_eq_true rfl, Nat.le_of_ble_eq_true rfl⟩ hK hN hP hS [] rfl hl.1 rfl (Nat.le_of_ble_eq_true rfl) dX12_share_8 ⟨Nat.zero_le _, Nat.zero_le _⟩ (fun r_5 H locs hr_5 hP hS => ?_)
    refine lv_if_eq (tgt := 24) hx hb dX12_share_11 (by decide) (fun c_6 => ?_) (fun c_6 => ?_)
    · skip
      refine lv_bipush (v := (-2)) hx hb dX12_share_24 (by decide) ?_
      exact W.iret (v := (-2)) hx hb hr (fun t9 ht hW => ⟨⟨(-2), (), rfl, trivial, trivial⟩, hS.F ht⟩) hS.2.2 dX12_share_26
    · skip
      have o_7 := Or.resolve_left hr_5.2 c_6
      refine lv_iload_n hx hb dX12_share_14 rfl (lv_at hl 2 rfl) ?_
      refine lv_i2l hx hb dX12_share_15 rfl ?_
      refine lv_lconst (v := 0) hx hb dX12_share_16 rfl ?_
      refine lv_lconst (v := 1) hx hb dX12_share_17 rfl ?_
      refine y_pS hF (s_X12_in l D t a ((p1).toInt64) 0 1) m_1469 m_1470 m_13 m_1471 hd_X12_in ⟨Nat.le_of_ble_eq_true rfl, Nat.le_of_ble_eq_true rfl⟩ hK hN hP hS [] rfl hl.1 rfl (Nat.le_of_ble_eq_true rfl) dX12_share_18 ⟨Nat.zero_le _, Nat.zero_le _⟩ (fun r_8 H locs hr_8 hP hS => ?_)
      refine lv_if_ne (tgt := 27) hx hb dX12_share_21 (by decide) (fun c_9 => ?_) (fun c_9 => ?_)
      · skip
        have o_10 := Or.resolve_left hr_8.2 c_9
        refine lv_iconst (v := 0) hx hb dX12_share_27 (by decide) ?_
        refine lv_istore_n (lv' := [(3, .int 0), (0, .ref (a 200)), (1, .int p0), (2, .int p1)]) hx hb dX12_share_28 rfl hl (by decide) rfl (fun ls hl => ?_)
        refine lv_iconst (v := 0) hx hb dX12_share_29 (by decide) ?_
        refine lv_istore (lv' := [(4, .int 0), (3, .int 0), (0, .ref (a 200)), (1, .int p0), (2, .int p1)]) hx hb dX12_share_30 hl (by decide) rfl (fun ls hl => ?_)
        refine loopW (α := US) (fun n y_11 H locs ls => 16 < (y_11.1 0).toInt + (n : Int) ∧ rg 0 16 (y_11.1 0) ∧ va_P D classes [(a 200, .inr (12, .int v200_0 :: .ref (a 201) :: .ref (a 202) :: .ref (a 203) :: .ref (a 204) :: .int v200_5 :: .ref (a 205) :: .int v200_7 :: .int v200_8 :: .int v200_9 :: .int v200_10 :: .int v200_11 :: .int v200_12 :: .int v200_13 :: .ref (a 206) :: .int v200_15 :: .ref (a 207) :: .int v200_17 :: .int v200_18 :: .int v200_19 :: .ref (a 208) :: .int v200_21 :: .ref (a 209) :: .int v200_23 :: .ref (a 210) :: .ref (a 211) :: .ref (a 212) :: .int v200_27 :: .int v200_28 :: .int v200_29 :: .ref (a 213) :: .ref (a 214) :: .ref (a 215) :: .int v200_33 :: .int v200_34 :: .int v200_35 :: .ref (a 216) :: .ref (a 217) :: .ref (a 218) :: .ref (a 219) :: [])), (a 201, .inl (t 0, 841, .inl f201))] H ∧ va_S NoF s.heap H locs ∧ lv_has ls 5 [(4, .int (y_11.1 0)), (3, .int (y_11.1 1)), (0, .ref (a 200)), (1, .int p0), (2, .int p1)]) 32 (fun y_11 => []) (fun _ _ _ _ h9 => m_0 h9.1 h9.2.1) (fun n ih_13 y_11 H locs ls hI => ?_) 17 (fun k => [0, 0].getD k 0, fun k => [].getD k (fun _ => 0), fun k => [].getD k (fun _ => 0), fun k => [].getD k 0) ⟨(m_i (rg_c (x := 0) (k := 0) (by decide)) (by decide)), (rg_w (c := 0) (d := 16) (rg_c (x := 0) (k := 0) (by decide)) (by decide) (by decide)), hP, hS, (lv_sub hl [0, 1, 2, 3, 4] rfl)⟩
        obtain ⟨me_14, h_12, hP, hS, hl⟩ := hI
        refine lv_iload hx hb dX12_share_32 (lv_at hl 0 rfl) ?_
        refine lv_bipush (v := 16) hx hb dX12_share_34 (by decide) ?_
        refine lv_icmp_ge (tgt := 102) hx hb dX12_share_36 (by decide) (fun c_15 => ?_) (fun c_15 => ?_)
        · skip
          have h_16 : rg 16 16 (y_11.1 0) := ⟨Int.le_trans (by decide) (c_leR c_15 (rg_c (x := 16) (k := 16) (by decide))), (h_12).2⟩
          refine lv_iconst (v := 4) hx hb dX12_share_102 (by decide) ?_
          refine y_pS hF (s_X12_orders4 l D t a 4 (rg_c (x := 4) (k := 4) (by decide))) m_1958 m_1959 m_13 m_1960 hd_X12_orders ⟨Nat.le_of_ble_eq_true rfl, Nat.le_of_ble_eq_true rfl⟩ hK hN hP hS [] rfl hl.1 rfl (Nat.le_of_ble_eq_true rfl) dX12_share_103 ⟨Nat.zero_le _, Nat.zero_le _⟩ (fun r_17 H locs hr_17 hP hS => ?_)
          refine lv_istore (lv' := [(4, .int r_17), (3, .int (y_11.1 1)), (0, .ref (a 200)), (1, .int p0), (2, .int p1)]) hx hb dX12_share_106 hl (by decide) rfl (fun ls hl => ?_)
          refine lv_iload_n hx hb dX12_share_108 rfl (lv_at hl 4 rfl) ?_
          refine lv_if_ne (tgt := 116) hx hb dX12_share_109 (by decide) (fun c_18 => ?_) (fun c_18 => ?_)
          · skip
            have h_19 : rg 1 1 p1 := rg_w (rg_neL (in_cvi (p := 0) (q := 1) o_10 (rl_c (x := 0) (k := 0) (by decide)) (rl_c (x := 1) (k := 1) (by decide)) (by decide) (by decide)) c_18 (by decide)) (by decide) (by decide)
            refine lv_iload hx hb dX12_share_116 (lv_at hl 0 rfl) ?_
            refine lv_iload_n hx hb dX12_share_118 rfl (lv_at hl 1 rfl) ?_
            refine lv_iload hx hb dX12_share_119 (lv_at hl 0 rfl) ?_
            refine y_pS hF (s_X12_divisor l D t a (y_11.1 1) r_17 (rg_w (c := 1) (d := 2147483647) hr_17 (by decide) (by decide))) m_1961 m_1962 m_13 m_1963 hd_X12_divisor ⟨Nat.le_of_ble_eq_true rfl, Nat.le_of_ble_eq_true rfl⟩ hK hN hP hS [] rfl hl.1 rfl (Nat.le_of_ble_eq_true rfl) dX12_share_121 ⟨Nat.zero_le _, Nat.zero_le _⟩ (fun r_20 H locs hr_20 hP hS => ?_)
            refine lv_idiv hx hb dX12_share_124 hr_20 ?_
            refine lv_topi (fun x_21 ex_21 => ?_)
            exact W.iret (v := x_21) hx hb hr (fun t9 ht hW => ⟨⟨x_21, (), rfl, trivial, trivial⟩, hS.F ht⟩) hS.2.2 dX12_share_125
          · skip
            have h_22 : rg 0 0 p1 := rg_eq c_18 (rg_c (x := 0) (k := 0) (by decide))
            refine lv_iload_n hx hb dX12_share_112 rfl (lv_at hl 1 rfl) ?_
            refine lv_goto (tgt := 118) hx hb dX12_share_113 (by decide) ?_
            refine lv_iload_n hx hb dX12_share_118 rfl (lv_at hl 1 rfl) ?_
            refine lv_iload hx hb dX12_share_119 (lv_at hl 0 rfl) ?_
            refine y_pS hF (s_X12_divisor l D t a (y_11.1 1) r_17 (rg_w (c := 1) (d := 2147483647) hr_17 (by decide) (by decide))) m_1961 m_1962 m_13 m_1963 hd_X12_divisor ⟨Nat.le_of_ble_eq_true rfl, Nat.le_of_ble_eq_true rfl⟩ hK hN hP hS [] rfl hl.1 rfl (Nat.le_of_ble_eq_true rfl) dX12_share_121 ⟨Nat.zero_le _, Nat.zero_le _⟩ (fun r_23 H locs hr_23 hP hS => ?_)
            refine lv_idiv hx hb dX12_share_124 hr_23 ?_
            refine lv_topi (fun x_24 ex_24 => ?_)
            exact W.iret (v := x_24) hx hb hr (fun t9 ht hW => ⟨⟨x_24, (), rfl, trivial, trivial⟩, hS.F ht⟩) hS.2.2 dX12_share_125
        · skip
          have h_25 : rg 0 15 (y_11.1 0) := ⟨(h_12).1, Int.le_trans (c_nleR c_15 (rg_c (x := 16) (k := 16) (by decide))) (by decide)⟩
          refine lv_iload hx hb dX12_share_39 (lv_at hl 0 rfl) ?_
          refine lv_iload_n hx hb dX12_share_41 rfl (lv_at hl 3 rfl) ?_
          refine y_pS hF (s_X12_bit l D t a (y_11.1 0) p0) m_1616 m_1617 m_13 m_1618 hd_X12_bit ⟨Nat.le_of_ble_eq_true rfl, Nat.le_of_ble_eq_true rfl⟩ hK hN hP hS [] rfl hl.1 rfl (Nat.le_of_ble_eq_true rfl) dX12_share_42 ⟨Nat.zero_le _, Nat.zero_le _⟩ (fun r_26 H locs hr_26 hP hS => ?_)
          have or_26 := hr_26.2
          refine lv_iconst (v := 1) hx hb dX12_share_45 (by decide) ?_
          refine lv_icmp_eq (tgt := 96) hx hb dX12_share_46 (by decide) (fun c_27 => ?_) (fun c_27 => ?_)
          · skip
            have h_28 : rg 1 1 r_26 := rg_eq c_27 (rg_c (x := 1) (k := 1) (by decide))
            obtain ⟨x_29, ex_29⟩ : ∃ y9 : Int32, y9 = (y_11.1 0) + 1 := ⟨_, rfl⟩
            have hx_29 : rg 1 16 x_29 := by rw [ex_29]; exact rg_add h_25 (rg_c (x := 1) (k := 1) (by decide)) (by decide) (by decide) (by decide) (by decide)
            have tx_29 : x_29.toInt = (y_11.1 0).toInt + 1 := by rw [ex_29]; exact inc_tk h_25 (by decide) (by decide) (by decide)
            refine lv_iinc (v := x_29) (lv' := [(4, .int x_29), (3, .int (y_11.1 1)), (0, .ref (a 200)), (1, .int p0), (2, .int p1)]) hx hb dX12_share_96 hl (k := 0) rfl (by rw [ex_29]; rfl) (by decide) rfl (fun ls hl => ?_)
            refine lv_goto (tgt := 32) hx hb dX12_share_99 (by decide) ?_
            exact ih_13 (fun k => [x_29, (y_11.1 1)].getD k 0, fun k => [].getD k (fun _ => 0), fun k => [].getD k (fun _ => 0), fun k => [].getD k 0) _ _ ls ⟨(m_upk me_14 tx_29 (by decide)), (rg_w (c := 0) (d := 16) hx_29 (by decide) (by decide)), hP, hS, (lv_sub hl [0, 1, 2, 3, 4] rfl)⟩
          · skip
            have h_30 : rg 0 0 r_26 := rg_w (rg_neR hr_26.1 c_27 (by decide)) (by decide) (by decide)
            refine lv_aload_n hx hb dX12_share_49 rfl (lv_at hl 2 rfl) ?_
            refine lv_iload hx hb dX12_share_50 (lv_at hl 0 rfl) ?_
            refine y_pV hF (s_X12_isMajority l D t a v200_0 v200_5 v200_7 v200_8 v200_9 v200_10 v200_11 v200_12 v200_13 v200_15 v200_17 v200_18 v200_19 v200_21 v200_23 v200_27 v200_28 v200_29 v200_33 v200_34 v200_35 f201 (y_11.1 0) r200_5 r200_7 r200_8 r200_9 r200_23 q201) m_1950 m_1952 m_s99 m_13 m_1953 hd_X12_isMajority ⟨Nat.le_of_ble_eq_true rfl, Nat.le_of_ble_eq_true rfl⟩ hK hN hP hS [0, 1] rfl 0 (ci := 12) rfl rfl rfl hl.1 rfl (Nat.le_of_ble_eq_true rfl) dX12_share_52 ⟨Nat.zero_le _, Nat.zero_le _⟩ (fun r_31 H locs hr_31 hP hS => ?_)
            refine lv_if_ne (tgt := 96) hx hb dX12_share_55 (by decide) (fun c_32 => ?_) (fun c_32 => ?_)
            · skip
              have h_33 : rg 1 1 r_31 := rg_w (rg_neL hr_31 c_32 (by decide)) (by decide) (by decide)
              obtain ⟨x_34, ex_34⟩ : ∃ y9 : Int32, y9 = (y_11.1 0) + 1 := ⟨_, rfl⟩
              have hx_34 : rg 1 16 x_34 := by rw [ex_34]; exact rg_add h_25 (rg_c (x := 1) (k := 1) (by decide)) (by decide) (by decide) (by decide) (by decide)
              have tx_34 : x_34.toInt = (y_11.1 0).toInt + 1 := by rw [ex_34]; exact inc_tk h_25 (by decide) (by decide) (by decide)
              refine lv_iinc (v := x_34) (lv' := [(4, .int x_34), (3, .int (y_11.1 1)), (0, .ref (a 200)), (1, .int p0), (2, .int p1)]) hx hb dX12_share_96 hl (k := 0) rfl (by rw [ex_34]; rfl) (by decide) rfl (fun ls hl => ?_)
              refine lv_goto (tgt := 32) hx hb dX12_share_99 (by decide) ?_
              exact ih_13 (fun k => [x_34, (y_11.1 1)].getD k 0, fun k => [].getD k (fun _ => 0), fun k => [].getD k (fun _ => 0), fun k => [].getD k 0) _ _ ls ⟨(m_upk me_14 tx_34 (by decide)), (rg_w (c := 0) (d := 16) hx_34 (by decide) (by decide)), hP, hS, (lv_sub hl [0, 1, 2, 3, 4] rfl)⟩
            · skip
              have h_35 : rg 0 0 r_31 := rg_eq c_32 (rg_c (x := 0) (k := 0) (by decide))
              refine lv_aload_n hx hb dX12_share_58 rfl (lv_at hl 2 rfl) ?_
              refine lv_iload hx hb dX12_share_59 (lv_at hl 0 rfl) ?_
              refine lv_iconst (v := 1) hx hb dX12_share_61 (by decide) ?_
              refine lv_iload_n hx hb dX12_share_62 rfl (lv_at hl 3 rfl) ?_
              refine lv_ishl hx hb dX12_share_63 ?_
              refine lv_topi (fun x_36 ex_36 => ?_)
              have hx_36 : rg 1 8 x_36 := by rw [ex_36]; exact rg_shl1 (b := 3) o_7 (by decide) (by decide)
              refine lv_ior hx hb dX12_share_64 ?_
              refine lv_topi (fun x_37 ex_37 => ?_)
              have hx_37 : rg 0 15 x_37 := by rw [ex_37]; exact rg_or (m := 4) h_25 (rg_w (c := 0) (d := 15) hx_36 (by decide) (by decide)) (by decide) (by decide)
              refine y_pV hF (s_X12_isMajority l D t a v200_0 v200_5 v200_7 v200_8 v200_9 v200_10 v200_11 v200_12 v200_13 v200_15 v200_17 v200_18 v200_19 v200_21 v200_23 v200_27 v200_28 v200_29 v200_33 v200_34 v200_35 f201 x_37 r200_5 r200_7 r200_8 r200_9 r200_23 q201) m_1950 m_1952 m_s99 m_13 m_1953 hd_X12_isMajority ⟨Nat.le_of_ble_eq_true rfl, Nat.le_of_ble_eq_true rfl⟩ hK hN hP hS [0, 1] rfl 0 (ci := 12) rfl rfl rfl hl.1 rfl (Nat.le_of_ble_eq_true rfl) dX12_share_65 ⟨Nat.zero_le _, Nat.zero_le _⟩ (fun r_38 H locs hr_38 hP hS => ?_)
              refine lv_if_ne (tgt := 74) hx hb dX12_share_68 (by decide) (fun c_39 => ?_) (fun c_39 => ?_)
              · skip
                have h_40 : rg 1 1 r_38 := rg_w (rg_neL hr_38 c_39 (by decide)) (by decide) (by decide)
                refine lv_iload_n hx hb dX12_share_74 rfl (lv_at hl 1 rfl) ?_
                refine lv_iload hx hb dX12_share_75 (lv_at hl 0 rfl) ?_
                refine y_pS hF (s_X12_bits l D t a (y_11.1 0)) m_1668 m_1669 m_13 m_1670 hd_X12_bits ⟨Nat.le_of_ble_eq_true rfl, Nat.le_of_ble_eq_true rfl⟩ hK hN hP hS [] rfl hl.1 rfl (Nat.le_of_ble_eq_true rfl) dX12_share_77 ⟨Nat.zero_le _, Nat.zero_le _⟩ (fun r_41 H locs hr_41 hP hS => ?_)
                have or_41 := hr_41.2
                refine y_pS hF (s_X12_orders l D t a r_41 (rg_w (c := (-6)) (d := 9) hr_41.1 (by decide) (by decide))) m_1958 m_1959 m_13 m_1960 hd_X12_orders ⟨Nat.le_of_ble_eq_true rfl, Nat.le_of_ble_eq_true rfl⟩ hK hN hP hS [] rfl hl.1 rfl (Nat.le_of_ble_eq_true rfl) dX12_share_80 ⟨Nat.zero_le _, Nat.zero_le _⟩ (fun r_42 H locs hr_42 hP hS => ?_)
                refine lv_iconst (v := 3) hx hb dX12_share_83 (by decide) ?_
                refine lv_iload hx hb dX12_share_84 (lv_at hl 0 rfl) ?_
                refine y_pS hF (s_X12_bits l D t a (y_11.1 0)) m_1668 m_1669 m_13 m_1670 hd_X12_bits ⟨Nat.le_of_ble_eq_true rfl, Nat.le_of_ble_eq_true rfl⟩ hK hN hP hS [] rfl hl.1 rfl (Nat.le_of_ble_eq_true rfl) dX12_share_86 ⟨Nat.zero_le _, Nat.zero_le _⟩ (fun r_43 H locs hr_43 hP hS => ?_)
                have or_43 := hr_43.2
                refine lv_isub hx hb dX12_share_89 ?_
                refine lv_topi (fun x_44 ex_44 => ?_)
                have hx_44 : rg (-6) 3 x_44 := by rw [ex_44]; exact rg_sub (rg_c (x := 3) (k := 3) (by decide)) hr_43.1 (by decide) (by decide) (by decide) (by decide)
                refine y_pS hF (s_X12_orders l D t a x_44 (rg_w (c := (-6)) (d := 9) hx_44 (by decide) (by decide))) m_1958 m_1959 m_13 m_1960 hd_X12_orders ⟨Nat.le_of_ble_eq_true rfl, Nat.le_of_ble_eq_true rfl⟩ hK hN hP hS [] rfl hl.1 rfl (Nat.le_of_ble_eq_true rfl) dX12_share_90 ⟨Nat.zero_le _, Nat.zero_le _⟩ (fun r_45 H locs hr_45 hP hS => ?_)
                refine lv_imul hx hb dX12_share_93 ?_
                refine lv_topi (fun x_46 ex_46 => ?_)
                refine lv_iadd hx hb dX12_share_94 ?_
                refine lv_topi (fun x_47 ex_47 => ?_)
                refine lv_istore_n (lv' := [(3, .int x_47), (4, .int (y_11.1 0)), (0, .ref (a 200)), (1, .int p0), (2, .int p1)]) hx hb dX12_share_95 rfl hl (by decide) rfl (fun ls hl => ?_)
                obtain ⟨x_48, ex_48⟩ : ∃ y9 : Int32, y9 = (y_11.1 0) + 1 := ⟨_, rfl⟩
                have hx_48 : rg 1 16 x_48 := by rw [ex_48]; exact rg_add h_25 (rg_c (x := 1) (k := 1) (by decide)) (by decide) (by decide) (by decide) (by decide)
                have tx_48 : x_48.toInt = (y_11.1 0).toInt + 1 := by rw [ex_48]; exact inc_tk h_25 (by decide) (by decide) (by decide)
                refine lv_iinc (v := x_48) (lv' := [(4, .int x_48), (3, .int x_47), (0, .ref (a 200)), (1, .int p0), (2, .int p1)]) hx hb dX12_share_96 hl (k := 1) rfl (by rw [ex_48]; rfl) (by decide) rfl (fun ls hl => ?_)
                refine lv_goto (tgt := 32) hx hb dX12_share_99 (by decide) ?_
                exact ih_13 (fun k => [x_48, x_47].getD k 0, fun k => [].getD k (fun _ => 0), fun k => [].getD k (fun _ => 0), fun k => [].getD k 0) _ _ ls ⟨(m_upk me_14 tx_48 (by decide)), (rg_w (c := 0) (d := 16) hx_48 (by decide) (by decide)), hP, hS, (lv_sub hl [0, 1, 2, 3, 4] rfl)⟩
              · skip
                have h_49 : rg 0 0 r_38 := rg_eq c_39 (rg_c (x := 0) (k := 0) (by decide))
                refine lv_goto (tgt := 96) hx hb dX12_share_71 (by decide) ?_
                obtain ⟨x_50, ex_50⟩ : ∃ y9 : Int32, y9 = (y_11.1 0) + 1 := ⟨_, rfl⟩
                have hx_50 : rg 1 16 x_50 := by rw [ex_50]; exact rg_add h_25 (rg_c (x := 1) (k := 1) (by decide)) (by decide) (by decide) (by decide) (by decide)
                have tx_50 : x_50.toInt = (y_11.1 0).toInt + 1 := by rw [ex_50]; exact inc_tk h_25 (by decide) (by decide) (by decide)
                refine lv_iinc (v := x_50) (lv' := [(4, .int x_50), (3, .int (y_11.1 1)), (0, .ref (a 200)), (1, .int p0), (2, .int p1)]) hx hb dX12_share_96 hl (k := 0) rfl (by rw [ex_50]; rfl) (by decide) rfl (fun ls hl => ?_)
                refine lv_goto (tgt := 32) hx hb dX12_share_99 (by decide) ?_
                exact ih_13 (fun k => [x_50, (y_11.1 1)].getD k 0, fun k => [].getD k (fun _ => 0), fun k => [].getD k (fun _ => 0), fun k => [].getD k 0) _ _ ls ⟨(m_upk me_14 tx_50 (by decide)), (rg_w (c := 0) (d := 16) hx_50 (by decide) (by decide)), hP, hS, (lv_sub hl [0, 1, 2, 3, 4] rfl)⟩
      · skip
        refine lv_bipush (v := (-2)) hx hb dX12_share_24 (by decide) ?_
        exact W.iret (v := (-2)) hx hb hr (fun t9 ht hW => ⟨⟨(-2), (), rfl, trivial, trivial⟩, hS.F ht⟩) hS.2.2 dX12_share_26

set_option maxHeartbeats 4000000 in
set_option maxRecDepth 100000 in
theorem s_X12_coalition (l : Launch) (D : va_G) (t : Nat → ClassId) (a : Nat → Nat) (v200_0 : Int32) (v200_5 : Int32) (v200_7 : Int32) (v200_8 : Int32) (v200_9 : Int32) (v200_10 : Int32) (v200_11 : Int32) (v200_12 : Int32) (v200_13 : Int32) (v200_15 : Int32) (v200_17 : Int32) (v200_18 : Int32) (v200_19 : Int32) (v200_21 : Int32) (v200_23 : Int32) (v200_27 : Int32) (v200_28 : Int32) (v200_29 : Int32) (v200_33 : Int32) (v200_34 : Int32) (v200_35 : Int32) (f201 : Nat → Int32) (r200_5 : rg 0 1600 v200_5) (r200_7 : rg 0 1600 v200_7) (r200_8 : rg 0 1600 v200_8) (r200_9 : rg 0 1600 v200_9) (r200_23 : rg 0 9 v200_23) (q201 : wR f201) : Met l yX12_coalition (wd yX12_coalition cX12_coalition 3 (some .int)) (RM 3 0 0) (PreP D (TY t) [.ref (a 200)] [(a 200, .inr (12, .int v200_0 :: .ref (a 201) :: .ref (a 202) :: .ref (a 203) :: .ref (a 204) :: .int v200_5 :: .ref (a 205) :: .int v200_7 :: .int v200_8 :: .int v200_9 :: .int v200_10 :: .int v200_11 :: .int v200_12 :: .int v200_13 :: .ref (a 206) :: .int v200_15 :: .ref (a 207) :: .int v200_17 :: .int v200_18 :: .int v200_19 :: .ref (a 208) :: .int v200_21 :: .ref (a 209) :: .int v200_23 :: .ref (a 210) :: .ref (a 211) :: .ref (a 212) :: .int v200_27 :: .int v200_28 :: .int v200_29 :: .ref (a 213) :: .ref (a 214) :: .ref (a 215) :: .int v200_33 :: .int v200_34 :: .int v200_35 :: .ref (a 216) :: .ref (a 217) :: .ref (a 218) :: .ref (a 219) :: [])), (a 201, .inl (t 0, 841, .inl f201))]) (QP (fun r => rg (-2) 15 r)) 0 0 NoF := by
  refine Met.ofW (cc := cX12_coalition) (maxL := 3) (ret := (some .int)) (by decide) rfl ?_
  intro p e s m args below meth c s₁ B hml hv
  obtain ⟨rfl, hP, hK, hN⟩ := hv
  have hx := B.exec
  have hb := B.bytes
  have hr := B.returns
  have hts : ∀ w ∈ TB, w.before _ s = true := fun w h => atoms_spec (ws := wd yX12_coalition cX12_coalition 3 (some .int)) B.pre w (List.mem_cons_of_mem _ h)
  have hown : s.vm.findClass RX12 = some m.cls := findClass_of_methodNamed B.named
  have hlocks := B.notSynchronized
  have hF : CallFix p m c cX12_coalition 3 s _ TB RX12 := ⟨hx, hb, hml, hown, hts⟩
  have hl := lv_entry ([.ref (a 200)]) (n := 3) (Nat.le_of_ble_eq_true rfl)
  rw [lg_entry_eq]
  generalize (lg_sl ([.ref (a 200)]) ++ List.replicate (3 - (lg_sl ([.ref (a 200)])).length) Slot.unset).toArray = ls at hl ⊢
  have hl : lv_has ls 3 [(0, .ref (a 200))] := hl
  have hS : va_S NoF s.heap s.heap [] := va_S.rf
  have hP : va_P D classes [(a 200, .inr (12, .int v200_0 :: .ref (a 201) :: .ref (a 202) :: .ref (a 203) :: .ref (a 204) :: .int v200_5 :: .ref (a 205) :: .int v200_7 :: .int v200_8 :: .int v200_9 :: .int v200_10 :: .int v200_11 :: .int v200_12 :: .int v200_13 :: .ref (a 206) :: .int v200_15 :: .ref (a 207) :: .int v200_17 :: .int v200_18 :: .int v200_19 :: .ref (a 208) :: .int v200_21 :: .ref (a 209) :: .int v200_23 :: .ref (a 210) :: .ref (a 211) :: .ref (a 212) :: .int v200_27 :: .int v200_28 :: .int v200_29 :: .ref (a 213) :: .ref (a 214) :: .ref (a 215) :: .int v200_33 :: .int v200_34 :: .int v200_35 :: .ref (a 216) :: .ref (a 217) :: .ref (a 218) :: .ref (a 219) :: [])), (a 201, .inl (t 0, 841, .inl f201))] s.heap := hP
  refine lv_aload_n hx hb dX12_coalition_0 rfl (lv_at hl 0 rfl) ?_
  refine y_pV hF (s_X12_isChamber l D t a v200_0 v200_5 v200_7 v200_8 v200_9 v200_10 v200_11 v200_12 v200_13 v200_15 v200_17 v200_18 v200_19 v200_21 v200_23 v200_27 v200_28 v200_29 v200_33 v200_34 v200_35 f201 r200_5 r200_7 r200_8 r200_9 r200_23 q201) m_1766 m_1768 m_s81 m_13 m_1769 hd_X12_isChamber ⟨Nat.le_of_ble_eq_true rfl, Nat.le_of_ble_eq_true rfl⟩ hK hN hP hS [0, 1] rfl 0 (ci := 12) rfl rfl rfl hl.1 rfl (Nat.le_of_ble_eq_true rfl) dX12_coalition_1 ⟨Nat.zero_le _, Nat.zero_le _⟩ (fun r_1 H locs hr_1 hP hS => ?_)
  refine lv_if_ne (tgt := 10) hx hb dX12_coalition_4 (by decide) (fun c_2 => ?_) (fun c_2 => ?_)
  · skip
    have h_3 : rg 1 1 r_1 := rg_w (rg_neL hr_1 c_2 (by decide)) (by decide) (by decide)
    refine lv_iconst (v := (-1)) hx hb dX12_coalition_10 (by decide) ?_
    refine lv_istore_n (lv' := [(1, .int (-1)), (0, .ref (a 200))]) hx hb dX12_coalition_11 rfl hl (by decide) rfl (fun ls hl => ?_)
    refine lv_iconst (v := 0) hx hb dX12_coalition_12 (by decide) ?_
    refine lv_istore_n (lv' := [(2, .int 0), (1, .int (-1)), (0, .ref (a 200))]) hx hb dX12_coalition_13 rfl hl (by decide) rfl (fun ls hl => ?_)
    refine loopW (α := US) (fun n y_4 H locs ls => 16 < (y_4.1 0).toInt + (n : Int) ∧ rg 0 16 (y_4.1 0) ∧ rg (-1) 15 (y_4.1 1) ∧ va_P D classes [(a 200, .inr (12, .int v200_0 :: .ref (a 201) :: .ref (a 202) :: .ref (a 203) :: .ref (a 204) :: .int v200_5 :: .ref (a 205) :: .int v200_7 :: .int v200_8 :: .int v200_9 :: .int v200_10 :: .int v200_11 :: .int v200_12 :: .int v200_13 :: .ref (a 206) :: .int v200_15 :: .ref (a 207) :: .int v200_17 :: .int v200_18 :: .int v200_19 :: .ref (a 208) :: .int v200_21 :: .ref (a 209) :: .int v200_23 :: .ref (a 210) :: .ref (a 211) :: .ref (a 212) :: .int v200_27 :: .int v200_28 :: .int v200_29 :: .ref (a 213) :: .ref (a 214) :: .ref (a 215) :: .int v200_33 :: .int v200_34 :: .int v200_35 :: .ref (a 216) :: .ref (a 217) :: .ref (a 218) :: .ref (a 219) :: [])), (a 201, .inl (t 0, 841, .inl f201))] H ∧ va_S NoF s.heap H locs ∧ lv_has ls 3 [(2, .int (y_4.1 0)), (1, .int (y_4.1 1)), (0, .ref (a 200))]) 14 (fun y_4 => []) (fun _ _ _ _ h9 => m_0 h9.1 h9.2.1) (fun n ih_7 y_4 H locs ls hI => ?_) 17 (fun k => [0, (-1)].getD k 0, fun k => [].getD k (fun _ => 0), fun k => [].getD k (fun _ => 0), fun k => [].getD k 0) ⟨(m_i (rg_c (x := 0) (k := 0) (by decide)) (by decide)), (rg_w (c := 0) (d := 16) (rg_c (x := 0) (k := 0) (by decide)) (by decide) (by decide)), (rg_w (c := (-1)) (d := 15) (rg_c (x := (-1)) (k := (-1)) (by decide)) (by decide) (by decide)), hP, hS, (lv_sub hl [0, 1, 2] rfl)⟩
    obtain ⟨me_8, h_5, h_6, hP, hS, hl⟩ := hI
    refine lv_iload_n hx hb dX12_coalition_14 rfl (lv_at hl 0 rfl) ?_
    refine lv_bipush (v := 16) hx hb dX12_coalition_15 (by decide) ?_
    refine lv_icmp_ge (tgt := 52) hx hb dX12_coalition_17 (by decide) (fun c_9 => ?_) (fun c_9 => ?_)
    · skip
      have h_10 : rg 16 16 (y_4.1 0) := ⟨Int.le_trans (by decide) (c_leR c_9 (rg_c (x := 16) (k := 16) (by decide))), (h_5).2⟩
      refine lv_iload_n hx hb dX12_coalition_52 rfl (lv_at hl 1 rfl) ?_
      exact W.iret (v := (y_4.1 1)) hx hb hr (fun t9 ht hW => ⟨⟨(y_4.1 1), (), rfl, (rg_w (c := (-2)) (d := 15) h_6 (by decide) (by decide)), trivial⟩, hS.F ht⟩) hS.2.2 dX12_coalition_53
    · skip
      have h_11 : rg 0 15 (y_4.1 0) := ⟨(h_5).1, Int.le_trans (c_nleR c_9 (rg_c (x := 16) (k := 16) (by decide))) (by decide)⟩
      refine lv_aload_n hx hb dX12_coalition_20 rfl (lv_at hl 2 rfl) ?_
      refine lv_iload_n hx hb dX12_coalition_21 rfl (lv_at hl 0 rfl) ?_
      refine y_pV hF (s_X12_isMajority l D t a v200_0 v200_5 v200_7 v200_8 v200_9 v200_10 v200_11 v200_12 v200_13 v200_15 v200_17 v200_18 v200_19 v200_21 v200_23 v200_27 v200_28 v200_29 v200_33 v200_34 v200_35 f201 (y_4.1 0) r200_5 r200_7 r200_8 r200_9 r200_23 q201) m_1950 m_1952 m_s99 m_13 m_1953 hd_X12_isMajority ⟨Nat.le_of_ble_eq_true rfl, Nat.le_of_ble_eq_true rfl⟩ hK hN hP hS [0, 1] rfl 0 (ci := 12) rfl rfl rfl hl.1 rfl (Nat.le_of_ble_eq_true rfl) dX12_coalition_22 ⟨Nat.zero_le _, Nat.zero_le _⟩ (fun r_12 H locs hr_12 hP hS => ?_)
      refine lv_if_eq (tgt := 46) hx hb dX12_coalition_25 (by decide) (fun c_13 => ?_) (fun c_13 => ?_)
      · skip
        have h_14 : rg 0 0 r_12 := rg_eq c_13 (rg_c (x := 0) (k := 0) (by decide))
        obtain ⟨x_15, ex_15⟩ : ∃ y9 : Int32, y9 = (y_4.1 0) + 1 := ⟨_, rfl⟩
        have hx_15 : rg 1 16 x_15 := by rw [ex_15]; exact rg_add h_11 (rg_c (x := 1) (k := 1) (by decide)) (by decide) (by decide) (by decide) (by decide)
        have tx_15 : x_15.toInt = (y_4.1 0).toInt + 1 := by rw [ex_15]; exact inc_tk h_11 (by decide) (by decide) (by decide)
        refine lv_iinc (v := x_15) (lv' := [(2, .int x_15), (1, .int (y_4.1 1)), (0, .ref (a 200))]) hx hb dX12_coalition_46 hl (k := 0) rfl (by rw [ex_15]; rfl) (by decide) rfl (fun ls hl => ?_)
        refine lv_goto (tgt := 14) hx hb dX12_coalition_49 (by decide) ?_
        exact ih_7 (fun k => [x_15, (y_4.1 1)].getD k 0, fun k => [].getD k (fun _ => 0), fun k => [].getD k (fun _ => 0), fun k => [].getD k 0) _ _ ls ⟨(m_upk me_8 tx_15 (by decide)), (rg_w (c := 0) (d := 16) hx_15 (by decide) (by decide)), h_6, hP, hS, (lv_sub hl [0, 1, 2] rfl)⟩
      · skip
        have h_16 : rg 1 1 r_12 := rg_w (rg_neL hr_12 c_13 (by decide)) (by decide) (by decide)
        refine lv_iload_n hx hb dX12_coalition_28 rfl (lv_at hl 1 rfl) ?_
        refine lv_iconst (v := (-1)) hx hb dX12_coalition_29 (by decide) ?_
        refine lv_icmp_eq (tgt := 44) hx hb dX12_coalition_30 (by decide) (fun c_17 => ?_) (fun c_17 => ?_)
        · skip
          have h_18 : rg (-1) (-1) (y_4.1 1) := rg_eq c_17 (rg_c (x := (-1)) (k := (-1)) (by decide))
          refine lv_iload_n hx hb dX12_coalition_44 rfl (lv_at hl 0 rfl) ?_
          refine lv_istore_n (lv' := [(1, .int (y_4.1 0)), (2, .int (y_4.1 0)), (0, .ref (a 200))]) hx hb dX12_coalition_45 rfl hl (by decide) rfl (fun ls hl => ?_)
          obtain ⟨x_19, ex_19⟩ : ∃ y9 : Int32, y9 = (y_4.1 0) + 1 := ⟨_, rfl⟩
          have hx_19 : rg 1 16 x_19 := by rw [ex_19]; exact rg_add h_11 (rg_c (x := 1) (k := 1) (by decide)) (by decide) (by decide) (by decide) (by decide)
          have tx_19 : x_19.toInt = (y_4.1 0).toInt + 1 := by rw [ex_19]; exact inc_tk h_11 (by decide) (by decide) (by decide)
          refine lv_iinc (v := x_19) (lv' := [(2, .int x_19), (1, .int (y_4.1 0)), (0, .ref (a 200))]) hx hb dX12_coalition_46 hl (k := 1) rfl (by rw [ex_19]; rfl) (by decide) rfl (fun ls hl => ?_)
          refine lv_goto (tgt := 14) hx hb dX12_coalition_49 (by decide) ?_
          exact ih_7 (fun k => [x_19, (y_4.1 0)].getD k 0, fun k => [].getD k (fun _ => 0), fun k => [].getD k (fun _ => 0), fun k => [].getD k 0) _ _ ls ⟨(m_upk me_8 tx_19 (by decide)), (rg_w (c := 0) (d := 16) hx_19 (by decide) (by decide)), (rg_w (c := (-1)) (d := 15) h_11 (by decide) (by decide)), hP, hS, (lv_sub hl [0, 1, 2] rfl)⟩
        · skip
          have h_20 : rg 0 15 (y_4.1 1) := rg_w (rg_neL h_6 c_17 (by decide)) (by decide) (by decide)
          refine lv_iload_n hx hb dX12_coalition_33 rfl (lv_at hl 0 rfl) ?_
          refine y_pS hF (s_X12_bits l D t a (y_4.1 0)) m_1668 m_1669 m_13 m_1670 hd_X12_bits ⟨Nat.le_of_ble_eq_true rfl, Nat.le_of_ble_eq_true rfl⟩ hK hN hP hS [] rfl hl.1 rfl (Nat.le_of_ble_eq_true rfl) dX12_coalition_34 ⟨Nat.zero_le _, Nat.zero_le _⟩ (fun r_21 H locs hr_21 hP hS => ?_)
          have or_21 := hr_21.2
          refine lv_iload_n hx hb dX12_coalition_37 rfl (lv_at hl 1 rfl) ?_
          refine y_pS hF (s_X12_bits l D t a (y_4.1 1)) m_1668 m_1669 m_13 m_1670 hd_X12_bits ⟨Nat.le_of_ble_eq_true rfl, Nat.le_of_ble_eq_true rfl⟩ hK hN hP hS [] rfl hl.1 rfl (Nat.le_of_ble_eq_true rfl) dX12_coalition_38 ⟨Nat.zero_le _, Nat.zero_le _⟩ (fun r_22 H locs hr_22 hP hS => ?_)
          have or_22 := hr_22.2
          refine lv_icmp_ge (tgt := 46) hx hb dX12_coalition_41 (by decide) (fun c_23 => ?_) (fun c_23 => ?_)
          · skip
            obtain ⟨x_24, ex_24⟩ : ∃ y9 : Int32, y9 = (y_4.1 0) + 1 := ⟨_, rfl⟩
            have hx_24 : rg 1 16 x_24 := by rw [ex_24]; exact rg_add h_11 (rg_c (x := 1) (k := 1) (by decide)) (by decide) (by decide) (by decide) (by decide)
            have tx_24 : x_24.toInt = (y_4.1 0).toInt + 1 := by rw [ex_24]; exact inc_tk h_11 (by decide) (by decide) (by decide)
            refine lv_iinc (v := x_24) (lv' := [(2, .int x_24), (1, .int (y_4.1 1)), (0, .ref (a 200))]) hx hb dX12_coalition_46 hl (k := 0) rfl (by rw [ex_24]; rfl) (by decide) rfl (fun ls hl => ?_)
            refine lv_goto (tgt := 14) hx hb dX12_coalition_49 (by decide) ?_
            exact ih_7 (fun k => [x_24, (y_4.1 1)].getD k 0, fun k => [].getD k (fun _ => 0), fun k => [].getD k (fun _ => 0), fun k => [].getD k 0) _ _ ls ⟨(m_upk me_8 tx_24 (by decide)), (rg_w (c := 0) (d := 16) hx_24 (by decide) (by decide)), (rg_w (c := (-1)) (d := 15) h_20 (by decide) (by decide)), hP, hS, (lv_sub hl [0, 1, 2] rfl)⟩
          · skip
            have h_25 : rg 0 8 r_21 := ⟨(hr_21.1).1, Int.le_trans (c_nleR c_23 hr_22.1) (by decide)⟩
            have h_26 : rg 1 9 r_22 := ⟨Int.le_trans (by decide) (c_nle c_23 hr_21.1), (hr_22.1).2⟩
            refine lv_iload_n hx hb dX12_coalition_44 rfl (lv_at hl 0 rfl) ?_
            refine lv_istore_n (lv' := [(1, .int (y_4.1 0)), (2, .int (y_4.1 0)), (0, .ref (a 200))]) hx hb dX12_coalition_45 rfl hl (by decide) rfl (fun ls hl => ?_)
            obtain ⟨x_27, ex_27⟩ : ∃ y9 : Int32, y9 = (y_4.1 0) + 1 := ⟨_, rfl⟩
            have hx_27 : rg 1 16 x_27 := by rw [ex_27]; exact rg_add h_11 (rg_c (x := 1) (k := 1) (by decide)) (by decide) (by decide) (by decide) (by decide)
            have tx_27 : x_27.toInt = (y_4.1 0).toInt + 1 := by rw [ex_27]; exact inc_tk h_11 (by decide) (by decide) (by decide)
            refine lv_iinc (v := x_27) (lv' := [(2, .int x_27), (1, .int (y_4.1 0)), (0, .ref (a 200))]) hx hb dX12_coalition_46 hl (k := 1) rfl (by rw [ex_27]; rfl) (by decide) rfl (fun ls hl => ?_)
            refine lv_goto (tgt := 14) hx hb dX12_coalition_49 (by decide) ?_
            exact ih_7 (fun k => [x_27, (y_4.1 0)].getD k 0, fun k => [].getD k (fun _ => 0), fun k => [].getD k (fun _ => 0), fun k => [].getD k 0) _ _ ls ⟨(m_upk me_8 tx_27 (by decide)), (rg_w (c := 0) (d := 16) hx_27 (by decide) (by decide)), (rg_w (c := (-1)) (d := 15) h_11 (by decide) (by decide)), hP, hS, (lv_sub hl [0, 1, 2] rfl)⟩
  · skip
    have h_28 : rg 0 0 r_1 := rg_eq c_2 (rg_c (x := 0) (k := 0) (by decide))
    refine lv_bipush (v := (-2)) hx hb dX12_coalition_7 (by decide) ?_
    exact W.iret (v := (-2)) hx hb hr (fun t9 ht hW => ⟨⟨(-2), (), rfl, (rg_w (c := (-2)) (d := 15) (rg_c (x := (-2)) (k := (-2)) (by decide)) (by decide) (by decide)), trivial⟩, hS.F ht⟩) hS.2.2 dX12_coalition_9

set_option maxHeartbeats 4000000 in
set_option maxRecDepth 100000 in
theorem s_X12_breaks (l : Launch) (D : va_G) (t : Nat → ClassId) (a : Nat → Nat) (v200_0 : Int32) (v200_5 : Int32) (v200_7 : Int32) (v200_8 : Int32) (v200_9 : Int32) (v200_10 : Int32) (v200_11 : Int32) (v200_12 : Int32) (v200_13 : Int32) (v200_15 : Int32) (v200_17 : Int32) (v200_18 : Int32) (v200_19 : Int32) (v200_21 : Int32) (v200_23 : Int32) (v200_27 : Int32) (v200_28 : Int32) (v200_29 : Int32) (v200_33 : Int32) (v200_34 : Int32) (v200_35 : Int32) (f201 : Nat → Int32) (p0 : Int32) (r200_5 : rg 0 1600 v200_5) (r200_7 : rg 0 1600 v200_7) (r200_8 : rg 0 1600 v200_8) (r200_9 : rg 0 1600 v200_9) (r200_23 : rg 0 9 v200_23) (q201 : wR f201) : Met l yX12_breaks (wd yX12_breaks cX12_breaks 4 (some .int)) (RM 3 0 0) (PreP D (TY t) [.ref (a 200), .int p0] [(a 200, .inr (12, .int v200_0 :: .ref (a 201) :: .ref (a 202) :: .ref (a 203) :: .ref (a 204) :: .int v200_5 :: .ref (a 205) :: .int v200_7 :: .int v200_8 :: .int v200_9 :: .int v200_10 :: .int v200_11 :: .int v200_12 :: .int v200_13 :: .ref (a 206) :: .int v200_15 :: .ref (a 207) :: .int v200_17 :: .int v200_18 :: .int v200_19 :: .ref (a 208) :: .int v200_21 :: .ref (a 209) :: .int v200_23 :: .ref (a 210) :: .ref (a 211) :: .ref (a 212) :: .int v200_27 :: .int v200_28 :: .int v200_29 :: .ref (a 213) :: .ref (a 214) :: .ref (a 215) :: .int v200_33 :: .int v200_34 :: .int v200_35 :: .ref (a 216) :: .ref (a 217) :: .ref (a 218) :: .ref (a 219) :: [])), (a 201, .inl (t 0, 841, .inl f201))]) (QP (fun r => rg (-2) 15 r)) 0 0 NoF := by
  refine Met.ofW (cc := cX12_breaks) (maxL := 4) (ret := (some .int)) (by decide) rfl ?_
  intro p e s m args below meth c s₁ B hml hv
  obtain ⟨rfl, hP, hK, hN⟩ := hv
  have hx := B.exec
  have hb := B.bytes
  have hr := B.returns
  have hts : ∀ w ∈ TB, w.before _ s = true := fun w h => atoms_spec (ws := wd yX12_breaks cX12_breaks 4 (some .int)) B.pre w (List.mem_cons_of_mem _ h)
  have hown : s.vm.findClass RX12 = some m.cls := findClass_of_methodNamed B.named
  have hlocks := B.notSynchronized
  have hF : CallFix p m c cX12_breaks 4 s _ TB RX12 := ⟨hx, hb, hml, hown, hts⟩
  have hl := lv_entry ([.ref (a 200), .int p0]) (n := 4) (Nat.le_of_ble_eq_true rfl)
  rw [lg_entry_eq]
  generalize (lg_sl ([.ref (a 200), .int p0]) ++ List.replicate (4 - (lg_sl ([.ref (a 200), .int p0])).length) Slot.unset).toArray = ls at hl ⊢
  have hl : lv_has ls 4 [(0, .ref (a 200)), (1, .int p0)] := hl
  have hS : va_S NoF s.heap s.heap [] := va_S.rf
  have hP : va_P D classes [(a 200, .inr (12, .int v200_0 :: .ref (a 201) :: .ref (a 202) :: .ref (a 203) :: .ref (a 204) :: .int v200_5 :: .ref (a 205) :: .int v200_7 :: .int v200_8 :: .int v200_9 :: .int v200_10 :: .int v200_11 :: .int v200_12 :: .int v200_13 :: .ref (a 206) :: .int v200_15 :: .ref (a 207) :: .int v200_17 :: .int v200_18 :: .int v200_19 :: .ref (a 208) :: .int v200_21 :: .ref (a 209) :: .int v200_23 :: .ref (a 210) :: .ref (a 211) :: .ref (a 212) :: .int v200_27 :: .int v200_28 :: .int v200_29 :: .ref (a 213) :: .ref (a 214) :: .ref (a 215) :: .int v200_33 :: .int v200_34 :: .int v200_35 :: .ref (a 216) :: .ref (a 217) :: .ref (a 218) :: .ref (a 219) :: [])), (a 201, .inl (t 0, 841, .inl f201))] s.heap := hP
  refine lv_aload_n hx hb dX12_breaks_0 rfl (lv_at hl 0 rfl) ?_
  refine lv_iload_n hx hb dX12_breaks_1 rfl (lv_at hl 1 rfl) ?_
  refine y_pV hF (s_X12_areParties l D t a v200_0 v200_5 v200_7 v200_8 v200_9 v200_10 v200_11 v200_12 v200_13 v200_15 v200_17 v200_18 v200_19 v200_21 v200_23 v200_27 v200_28 v200_29 v200_33 v200_34 v200_35 f201 p0 r200_5 r200_7 r200_8 r200_9 r200_23 q201) m_1945 m_1947 m_s98 m_13 m_1948 hd_X12_areParties ⟨Nat.le_of_ble_eq_true rfl, Nat.le_of_ble_eq_true rfl⟩ hK hN hP hS [0, 1] rfl 0 (ci := 12) rfl rfl rfl hl.1 rfl (Nat.le_of_ble_eq_true rfl) dX12_breaks_2 ⟨Nat.zero_le _, Nat.zero_le _⟩ (fun r_1 H locs hr_1 hP hS => ?_)
  refine lv_if_ne (tgt := 11) hx hb dX12_breaks_5 (by decide) (fun c_2 => ?_) (fun c_2 => ?_)
  · skip
    have h_3 : rg 1 1 r_1 := rg_w (rg_neL hr_1 c_2 (by decide)) (by decide) (by decide)
    refine lv_aload_n hx hb dX12_breaks_11 rfl (lv_at hl 0 rfl) ?_
    refine lv_iload_n hx hb dX12_breaks_12 rfl (lv_at hl 1 rfl) ?_
    refine y_pV hF (s_X12_isMajority l D t a v200_0 v200_5 v200_7 v200_8 v200_9 v200_10 v200_11 v200_12 v200_13 v200_15 v200_17 v200_18 v200_19 v200_21 v200_23 v200_27 v200_28 v200_29 v200_33 v200_34 v200_35 f201 p0 r200_5 r200_7 r200_8 r200_9 r200_23 q201) m_1950 m_1952 m_s99 m_13 m_1953 hd_X12_isMajority ⟨Nat.le_of_ble_eq_true rfl, Nat.le_of_ble_eq_true rfl⟩ hK hN hP hS [0, 1] rfl 0 (ci := 12) rfl rfl rfl hl.1 rfl (Nat.le_of_ble_eq_true rfl) dX12_breaks_13 ⟨Nat.zero_le _, Nat.zero_le _⟩ (fun r_4 H locs hr_4 hP hS => ?_)
    refine lv_if_ne (tgt := 21) hx hb dX12_breaks_16 (by decide) (fun c_5 => ?_) (fun c_5 => ?_)
    · skip
      have h_6 : rg 1 1 r_4 := rg_w (rg_neL hr_4 c_5 (by decide)) (by decide) (by decide)
      refine lv_iconst (v := 0) hx hb dX12_breaks_21 (by decide) ?_
      refine lv_istore_n (lv' := [(2, .int 0), (0, .ref (a 200)), (1, .int p0)]) hx hb dX12_breaks_22 rfl hl (by decide) rfl (fun ls hl => ?_)
      refine lv_iconst (v := 0) hx hb dX12_breaks_23 (by decide) ?_
      refine lv_istore_n (lv' := [(3, .int 0), (2, .int 0), (0, .ref (a 200)), (1, .int p0)]) hx hb dX12_breaks_24 rfl hl (by decide) rfl (fun ls hl => ?_)
      refine loopW (α := US) (fun n y_7 H locs ls => 4 < (y_7.1 0).toInt + (n : Int) ∧ rg 0 4 (y_7.1 0) ∧ rg 0 15 (y_7.1 1) ∧ va_P D classes [(a 200, .inr (12, .int v200_0 :: .ref (a 201) :: .ref (a 202) :: .ref (a 203) :: .ref (a 204) :: .int v200_5 :: .ref (a 205) :: .int v200_7 :: .int v200_8 :: .int v200_9 :: .int v200_10 :: .int v200_11 :: .int v200_12 :: .int v200_13 :: .ref (a 206) :: .int v200_15 :: .ref (a 207) :: .int v200_17 :: .int v200_18 :: .int v200_19 :: .ref (a 208) :: .int v200_21 :: .ref (a 209) :: .int v200_23 :: .ref (a 210) :: .ref (a 211) :: .ref (a 212) :: .int v200_27 :: .int v200_28 :: .int v200_29 :: .ref (a 213) :: .ref (a 214) :: .ref (a 215) :: .int v200_33 :: .int v200_34 :: .int v200_35 :: .ref (a 216) :: .ref (a 217) :: .ref (a 218) :: .ref (a 219) :: [])), (a 201, .inl (t 0, 841, .inl f201))] H ∧ va_S NoF s.heap H locs ∧ lv_has ls 4 [(3, .int (y_7.1 0)), (2, .int (y_7.1 1)), (0, .ref (a 200)), (1, .int p0)]) 25 (fun y_7 => []) (fun _ _ _ _ h9 => m_0 h9.1 h9.2.1) (fun n ih_10 y_7 H locs ls hI => ?_) 5 (fun k => [0, 0].getD k 0, fun k => [].getD k (fun _ => 0), fun k => [].getD k (fun _ => 0), fun k => [].getD k 0) ⟨(m_i (rg_c (x := 0) (k := 0) (by decide)) (by decide)), (rg_w (c := 0) (d := 4) (rg_c (x := 0) (k := 0) (by decide)) (by decide) (by decide)), (rg_w (c := 0) (d := 15) (rg_c (x := 0) (k := 0) (by decide)) (by decide) (by decide)), hP, hS, (lv_sub hl [0, 1, 2, 3] rfl)⟩
      obtain ⟨me_11, h_8, h_9, hP, hS, hl⟩ := hI
      refine lv_iload_n hx hb dX12_breaks_25 rfl (lv_at hl 0 rfl) ?_
      refine lv_iconst (v := 4) hx hb dX12_breaks_26 (by decide) ?_
      refine lv_icmp_ge (tgt := 69) hx hb dX12_breaks_27 (by decide) (fun c_12 => ?_) (fun c_12 => ?_)
      · skip
        have h_13 : rg 4 4 (y_7.1 0) := ⟨Int.le_trans (by decide) (c_leR c_12 (rg_c (x := 4) (k := 4) (by decide))), (h_8).2⟩
        refine lv_iload_n hx hb dX12_breaks_69 rfl (lv_at hl 1 rfl) ?_
        exact W.iret (v := (y_7.1 1)) hx hb hr (fun t9 ht hW => ⟨⟨(y_7.1 1), (), rfl, (rg_w (c := (-2)) (d := 15) h_9 (by decide) (by decide)), trivial⟩, hS.F ht⟩) hS.2.2 dX12_breaks_70
      · skip
        have h_14 : rg 0 3 (y_7.1 0) := ⟨(h_8).1, Int.le_trans (c_nleR c_12 (rg_c (x := 4) (k := 4) (by decide))) (by decide)⟩
        refine lv_iload_n hx hb dX12_breaks_30 rfl (lv_at hl 1 rfl) ?_
        refine lv_iload_n hx hb dX12_breaks_31 rfl (lv_at hl 3 rfl) ?_
        refine lv_iload_n hx hb dX12_breaks_32 rfl (lv_at hl 0 rfl) ?_
        refine y_pS hF (s_X12_bit l D t a p0 (y_7.1 0)) m_1616 m_1617 m_13 m_1618 hd_X12_bit ⟨Nat.le_of_ble_eq_true rfl, Nat.le_of_ble_eq_true rfl⟩ hK hN hP hS [] rfl hl.1 rfl (Nat.le_of_ble_eq_true rfl) dX12_breaks_33 ⟨Nat.zero_le _, Nat.zero_le _⟩ (fun r_15 H locs hr_15 hP hS => ?_)
        have or_15 := hr_15.2
        refine lv_iconst (v := 1) hx hb dX12_breaks_36 (by decide) ?_
        refine lv_icmp_ne (tgt := 60) hx hb dX12_breaks_37 (by decide) (fun c_16 => ?_) (fun c_16 => ?_)
        · skip
          have h_17 : rg 0 0 r_15 := rg_w (rg_neR hr_15.1 c_16 (by decide)) (by decide) (by decide)
          refine lv_iconst (v := 0) hx hb dX12_breaks_60 (by decide) ?_
          refine lv_ior hx hb dX12_breaks_61 ?_
          refine lv_topi (fun x_18 ex_18 => ?_)
          have hx_18 : rg 0 15 x_18 := by rw [ex_18]; exact rg_or (m := 4) h_9 (rg_w (c := 0) (d := 15) (rg_c (x := 0) (k := 0) (by decide)) (by decide) (by decide)) (by decide) (by decide)
          refine lv_istore_n (lv' := [(2, .int x_18), (3, .int (y_7.1 0)), (0, .ref (a 200)), (1, .int p0)]) hx hb dX12_breaks_62 rfl hl (by decide) rfl (fun ls hl => ?_)
          obtain ⟨x_19, ex_19⟩ : ∃ y9 : Int32, y9 = (y_7.1 0) + 1 := ⟨_, rfl⟩
          have hx_19 : rg 1 4 x_19 := by rw [ex_19]; exact rg_add h_14 (rg_c (x := 1) (k := 1) (by decide)) (by decide) (by decide) (by decide) (by decide)
          have tx_19 : x_19.toInt = (y_7.1 0).toInt + 1 := by rw [ex_19]; exact inc_tk h_14 (by decide) (by decide) (by decide)
          refine lv_iinc (v := x_19) (lv' := [(3, .int x_19), (2, .int x_18), (0, .ref (a 200)), (1, .int p0)]) hx hb dX12_breaks_63 hl (k := 1) rfl (by rw [ex_19]; rfl) (by decide) rfl (fun ls hl => ?_)
          refine lv_goto (tgt := 25) hx hb dX12_breaks_66 (by decide) ?_
          exact ih_10 (fun k => [x_19, x_18].getD k 0, fun k => [].getD k (fun _ => 0), fun k => [].getD k (fun _ => 0), fun k => [].getD k 0) _ _ ls ⟨(m_upk me_11 tx_19 (by decide)), (rg_w (c := 0) (d := 4) hx_19 (by decide) (by decide)), hx_18, hP, hS, (lv_sub hl [0, 1, 2, 3] rfl)⟩
        · skip
          have h_20 : rg 1 1 r_15 := rg_eq c_16 (rg_c (x := 1) (k := 1) (by decide))
          refine lv_aload_n hx hb dX12_breaks_40 rfl (lv_at hl 2 rfl) ?_
          refine lv_iload_n hx hb dX12_breaks_41 rfl (lv_at hl 3 rfl) ?_
          refine lv_iconst (v := 1) hx hb dX12_breaks_42 (by decide) ?_
          refine lv_iload_n hx hb dX12_breaks_43 rfl (lv_at hl 0 rfl) ?_
          refine lv_ishl hx hb dX12_breaks_44 ?_
          refine lv_topi (fun x_21 ex_21 => ?_)
          have hx_21 : rg 1 8 x_21 := by rw [ex_21]; exact rg_shl1 (b := 3) h_14 (by decide) (by decide)
          refine lv_iconst (v := (-1)) hx hb dX12_breaks_45 (by decide) ?_
          refine lv_ixor hx hb dX12_breaks_46 ?_
          refine lv_topi (fun x_22 ex_22 => ?_)
          refine lv_iand hx hb dX12_breaks_47 ?_
          refine lv_topi (fun x_23 ex_23 => ?_)
          refine y_pV hF (s_X12_isMajority l D t a v200_0 v200_5 v200_7 v200_8 v200_9 v200_10 v200_11 v200_12 v200_13 v200_15 v200_17 v200_18 v200_19 v200_21 v200_23 v200_27 v200_28 v200_29 v200_33 v200_34 v200_35 f201 x_23 r200_5 r200_7 r200_8 r200_9 r200_23 q201) m_1950 m_1952 m_s99 m_13 m_1953 hd_X12_isMajority ⟨Nat.le_of_ble_eq_true rfl, Nat.le_of_ble_eq_true rfl⟩ hK hN hP hS [0, 1] rfl 0 (ci := 12) rfl rfl rfl hl.1 rfl (Nat.le_of_ble_eq_true rfl) dX12_breaks_48 ⟨Nat.zero_le _, Nat.zero_le _⟩ (fun r_24 H locs hr_24 hP hS => ?_)
          refine lv_if_ne (tgt := 60) hx hb dX12_breaks_51 (by decide) (fun c_25 => ?_) (fun c_25 => ?_)
          · skip
            have h_26 : rg 1 1 r_24 := rg_w (rg_neL hr_24 c_25 (by decide)) (by decide) (by decide)
            refine lv_iconst (v := 0) hx hb dX12_breaks_60 (by decide) ?_
            refine lv_ior hx hb dX12_breaks_61 ?_
            refine lv_topi (fun x_27 ex_27 => ?_)
            have hx_27 : rg 0 15 x_27 := by rw [ex_27]; exact rg_or (m := 4) h_9 (rg_w (c := 0) (d := 15) (rg_c (x := 0) (k := 0) (by decide)) (by decide) (by decide)) (by decide) (by decide)
            refine lv_istore_n (lv' := [(2, .int x_27), (3, .int (y_7.1 0)), (0, .ref (a 200)), (1, .int p0)]) hx hb dX12_breaks_62 rfl hl (by decide) rfl (fun ls hl => ?_)
            obtain ⟨x_28, ex_28⟩ : ∃ y9 : Int32, y9 = (y_7.1 0) + 1 := ⟨_, rfl⟩
            have hx_28 : rg 1 4 x_28 := by rw [ex_28]; exact rg_add h_14 (rg_c (x := 1) (k := 1) (by decide)) (by decide) (by decide) (by decide) (by decide)
            have tx_28 : x_28.toInt = (y_7.1 0).toInt + 1 := by rw [ex_28]; exact inc_tk h_14 (by decide) (by decide) (by decide)
            refine lv_iinc (v := x_28) (lv' := [(3, .int x_28), (2, .int x_27), (0, .ref (a 200)), (1, .int p0)]) hx hb dX12_breaks_63 hl (k := 1) rfl (by rw [ex_28]; rfl) (by decide) rfl (fun ls hl => ?_)
            refine lv_goto (tgt := 25) hx hb dX12_breaks_66 (by decide) ?_
            exact ih_10 (fun k => [x_28, x_27].getD k 0, fun k => [].getD k (fun _ => 0), fun k => [].getD k (fun _ => 0), fun k => [].getD k 0) _ _ ls ⟨(m_upk me_11 tx_28 (by decide)), (rg_w (c := 0) (d := 4) hx_28 (by decide) (by decide)), hx_27, hP, hS, (lv_sub hl [0, 1, 2, 3] rfl)⟩
          · skip
            have h_29 : rg 0 0 r_24 := rg_eq c_25 (rg_c (x := 0) (k := 0) (by decide))
            refine lv_iconst (v := 1) hx hb dX12_breaks_54 (by decide) ?_
            refine lv_iload_n hx hb dX12_breaks_55 rfl (lv_at hl 0 rfl) ?_
            refine lv_ishl hx hb dX12_breaks_56 ?_
            refine lv_topi (fun x_30 ex_30 => ?_)
            have hx_30 : rg 1 8 x_30 := by rw [ex_30]; exact rg_shl1 (b := 3) h_14 (by decide) (by decide)
            refine lv_goto (tgt := 61) hx hb dX12_breaks_57 (by decide) ?_
            refine lv_ior hx hb dX12_breaks_61 ?_
            refine lv_topi (fun x_31 ex_31 => ?_)
            have hx_31 : rg 0 15 x_31 := by rw [ex_31]; exact rg_or (m := 4) h_9 (rg_w (c := 0) (d := 15) hx_30 (by decide) (by decide)) (by decide) (by decide)
            refine lv_istore_n (lv' := [(2, .int x_31), (3, .int (y_7.1 0)), (0, .ref (a 200)), (1, .int p0)]) hx hb dX12_breaks_62 rfl hl (by decide) rfl (fun ls hl => ?_)
            obtain ⟨x_32, ex_32⟩ : ∃ y9 : Int32, y9 = (y_7.1 0) + 1 := ⟨_, rfl⟩
            have hx_32 : rg 1 4 x_32 := by rw [ex_32]; exact rg_add h_14 (rg_c (x := 1) (k := 1) (by decide)) (by decide) (by decide) (by decide) (by decide)
            have tx_32 : x_32.toInt = (y_7.1 0).toInt + 1 := by rw [ex_32]; exact inc_tk h_14 (by decide) (by decide) (by decide)
            refine lv_iinc (v := x_32) (lv' := [(3, .int x_32), (2, .int x_31), (0, .ref (a 200)), (1, .int p0)]) hx hb dX12_breaks_63 hl (k := 1) rfl (by rw [ex_32]; rfl) (by decide) rfl (fun ls hl => ?_)
            refine lv_goto (tgt := 25) hx hb dX12_breaks_66 (by decide) ?_
            exact ih_10 (fun k => [x_32, x_31].getD k 0, fun k => [].getD k (fun _ => 0), fun k => [].getD k (fun _ => 0), fun k => [].getD k 0) _ _ ls ⟨(m_upk me_11 tx_32 (by decide)), (rg_w (c := 0) (d := 4) hx_32 (by decide) (by decide)), hx_31, hP, hS, (lv_sub hl [0, 1, 2, 3] rfl)⟩
    · skip
      have h_33 : rg 0 0 r_4 := rg_eq c_5 (rg_c (x := 0) (k := 0) (by decide))
      refine lv_iconst (v := 0) hx hb dX12_breaks_19 (by decide) ?_
      exact W.iret (v := 0) hx hb hr (fun t9 ht hW => ⟨⟨0, (), rfl, (rg_w (c := (-2)) (d := 15) (rg_c (x := 0) (k := 0) (by decide)) (by decide) (by decide)), trivial⟩, hS.F ht⟩) hS.2.2 dX12_breaks_20
  · skip
    have h_34 : rg 0 0 r_1 := rg_eq c_2 (rg_c (x := 0) (k := 0) (by decide))
    refine lv_bipush (v := (-2)) hx hb dX12_breaks_8 (by decide) ?_
    exact W.iret (v := (-2)) hx hb hr (fun t9 ht hW => ⟨⟨(-2), (), rfl, (rg_w (c := (-2)) (d := 15) (rg_c (x := (-2)) (k := (-2)) (by decide)) (by decide) (by decide)), trivial⟩, hS.F ht⟩) hS.2.2 dX12_breaks_10

set_option maxHeartbeats 4000000 in
set_option maxRecDepth 100000 in
theorem s_X12_lists (l : Launch) (D : va_G) (t : Nat → ClassId) (a : Nat → Nat) (v200_0 : Int32) (v200_5 : Int32) (v200_7 : Int32) (v200_8 : Int32) (v200_9 : Int32) (v200_10 : Int32) (v200_11 : Int32) (v200_12 : Int32) (v200_13 : Int32) (v200_15 : Int32) (v200_17 : Int32) (v200_18 : Int32) (v200_19 : Int32) (v200_21 : Int32) (v200_23 : Int32) (v200_27 : Int32) (v200_28 : Int32) (v200_29 : Int32) (v200_33 : Int32) (v200_34 : Int32) (v200_35 : Int32) (f201 : Nat → Int32) (f207 : Nat → Int32) (f208 : Nat → Int32) (f213 : Nat → Int32) (f214 : Nat → Int32) (p0 : Int32) (p1 : Int32) (r200_5 : rg 0 1600 v200_5) (r200_7 : rg 0 1600 v200_7) (r200_8 : rg 0 1600 v200_8) (r200_9 : rg 0 1600 v200_9) (r200_23 : rg 0 9 v200_23) (q201 : wR f201) (sz : Nat) : Met l yX12_lists (wd yX12_lists cX12_lists 7 (some .int)) (RM 5 0 0) (PreW D (TY t) [.ref (a 200), .int p0, .int p1] [(a 200, .inr (12, .int v200_0 :: .ref (a 201) :: .ref (a 202) :: .ref (a 203) :: .ref (a 204) :: .int v200_5 :: .ref (a 205) :: .int v200_7 :: .int v200_8 :: .int v200_9 :: .int v200_10 :: .int v200_11 :: .int v200_12 :: .int v200_13 :: .ref (a 206) :: .int v200_15 :: .ref (a 207) :: .int v200_17 :: .int v200_18 :: .int v200_19 :: .ref (a 208) :: .int v200_21 :: .ref (a 209) :: .int v200_23 :: .ref (a 210) :: .ref (a 211) :: .ref (a 212) :: .int v200_27 :: .int v200_28 :: .int v200_29 :: .ref (a 213) :: .ref (a 214) :: .ref (a 215) :: .int v200_33 :: .int v200_34 :: .int v200_35 :: .ref (a 216) :: .ref (a 217) :: .ref (a 218) :: .ref (a 219) :: [])), (a 201, .inl (t 0, 841, .inl f201)), (a 207, .inl (t 0, 9, .inl f207)), (a 208, .inl (t 0, 9, .inl f208)), (a 213, .inl (t 0, 4, .inl f213)), (a 214, .inl (t 0, 4, .inl f214))] sz) (va_Qi (fun (_ : Int32) (_ : US) => True) (fun (u : US) t9 => va_P D classes ((fun u : US => [(a 200, .inr (12, .int v200_0 :: .ref (a 201) :: .ref (a 202) :: .ref (a 203) :: .ref (a 204) :: .int v200_5 :: .ref (a 205) :: .int v200_7 :: .int v200_8 :: .int v200_9 :: .int v200_10 :: .int v200_11 :: .int v200_12 :: .int v200_13 :: .ref (a 206) :: .int (u.1 0) :: .ref (a 207) :: .int (u.1 1) :: .int (u.1 2) :: .int v200_19 :: .ref (a 208) :: .int (u.1 3) :: .ref (a 209) :: .int v200_23 :: .ref (a 210) :: .ref (a 211) :: .ref (a 212) :: .int v200_27 :: .int v200_28 :: .int v200_29 :: .ref (a 213) :: .ref (a 214) :: .ref (a 215) :: .int v200_33 :: .int v200_34 :: .int v200_35 :: .ref (a 216) :: .ref (a 217) :: .ref (a 218) :: .ref (a 219) :: [])), (a 201, .inl (t 0, 841, .inl f201)), (a 207, .inl (t 0, 9, .inl (u.2.1 0))), (a 208, .inl (t 0, 9, .inl (u.2.1 1))), (a 213, .inl (t 0, 4, .inl (u.2.1 2))), (a 214, .inl (t 0, 4, .inl (u.2.1 3)))]) u) t9.heap ∧ va_D (va_A [(a 200, .inr (12, .int v200_0 :: .ref (a 201) :: .ref (a 202) :: .ref (a 203) :: .ref (a 204) :: .int v200_5 :: .ref (a 205) :: .int v200_7 :: .int v200_8 :: .int v200_9 :: .int v200_10 :: .int v200_11 :: .int v200_12 :: .int v200_13 :: .ref (a 206) :: .int v200_15 :: .ref (a 207) :: .int v200_17 :: .int v200_18 :: .int v200_19 :: .ref (a 208) :: .int v200_21 :: .ref (a 209) :: .int v200_23 :: .ref (a 210) :: .ref (a 211) :: .ref (a 212) :: .int v200_27 :: .int v200_28 :: .int v200_29 :: .ref (a 213) :: .ref (a 214) :: .ref (a 215) :: .int v200_33 :: .int v200_34 :: .int v200_35 :: .ref (a 216) :: .ref (a 217) :: .ref (a 218) :: .ref (a 219) :: [])), (a 201, .inl (t 0, 841, .inl f201)), (a 207, .inl (t 0, 9, .inl f207)), (a 208, .inl (t 0, 9, .inl f208)), (a 213, .inl (t 0, 4, .inl f213)), (a 214, .inl (t 0, 4, .inl f214))] sz) ((fun u : US => [(a 200, .inr (12, .int v200_0 :: .ref (a 201) :: .ref (a 202) :: .ref (a 203) :: .ref (a 204) :: .int v200_5 :: .ref (a 205) :: .int v200_7 :: .int v200_8 :: .int v200_9 :: .int v200_10 :: .int v200_11 :: .int v200_12 :: .int v200_13 :: .ref (a 206) :: .int (u.1 0) :: .ref (a 207) :: .int (u.1 1) :: .int (u.1 2) :: .int v200_19 :: .ref (a 208) :: .int (u.1 3) :: .ref (a 209) :: .int v200_23 :: .ref (a 210) :: .ref (a 211) :: .ref (a 212) :: .int v200_27 :: .int v200_28 :: .int v200_29 :: .ref (a 213) :: .ref (a 214) :: .ref (a 215) :: .int v200_33 :: .int v200_34 :: .int v200_35 :: .ref (a 216) :: .ref (a 217) :: .ref (a 218) :: .ref (a 219) :: [])), (a 201, .inl (t 0, 841, .inl f201)), (a 207, .inl (t 0, 9, .inl (u.2.1 0))), (a 208, .inl (t 0, 9, .inl (u.2.1 1))), (a 213, .inl (t 0, 4, .inl (u.2.1 2))), (a 214, .inl (t 0, 4, .inl (u.2.1 3)))]) u)) (va_A [(a 200, .inr (12, .int v200_0 :: .ref (a 201) :: .ref (a 202) :: .ref (a 203) :: .ref (a 204) :: .int v200_5 :: .ref (a 205) :: .int v200_7 :: .int v200_8 :: .int v200_9 :: .int v200_10 :: .int v200_11 :: .int v200_12 :: .int v200_13 :: .ref (a 206) :: .int v200_15 :: .ref (a 207) :: .int v200_17 :: .int v200_18 :: .int v200_19 :: .ref (a 208) :: .int v200_21 :: .ref (a 209) :: .int v200_23 :: .ref (a 210) :: .ref (a 211) :: .ref (a 212) :: .int v200_27 :: .int v200_28 :: .int v200_29 :: .ref (a 213) :: .ref (a 214) :: .ref (a 215) :: .int v200_33 :: .int v200_34 :: .int v200_35 :: .ref (a 216) :: .ref (a 217) :: .ref (a 218) :: .ref (a 219) :: [])), (a 201, .inl (t 0, 841, .inl f201)), (a 207, .inl (t 0, 9, .inl f207)), (a 208, .inl (t 0, 9, .inl f208)), (a 213, .inl (t 0, 4, .inl f213)), (a 214, .inl (t 0, 4, .inl f214))] sz)) 0 0 (va_A [(a 200, .inr (12, .int v200_0 :: .ref (a 201) :: .ref (a 202) :: .ref (a 203) :: .ref (a 204) :: .int v200_5 :: .ref (a 205) :: .int v200_7 :: .int v200_8 :: .int v200_9 :: .int v200_10 :: .int v200_11 :: .int v200_12 :: .int v200_13 :: .ref (a 206) :: .int v200_15 :: .ref (a 207) :: .int v200_17 :: .int v200_18 :: .int v200_19 :: .ref (a 208) :: .int v200_21 :: .ref (a 209) :: .int v200_23 :: .ref (a 210) :: .ref (a 211) :: .ref (a 212) :: .int v200_27 :: .int v200_28 :: .int v200_29 :: .ref (a 213) :: .ref (a 214) :: .ref (a 215) :: .int v200_33 :: .int v200_34 :: .int v200_35 :: .ref (a 216) :: .ref (a 217) :: .ref (a 218) :: .ref (a 219) :: [])), (a 201, .inl (t 0, 841, .inl f201)), (a 207, .inl (t 0, 9, .inl f207)), (a 208, .inl (t 0, 9, .inl f208)), (a 213, .inl (t 0, 4, .inl f213)), (a 214, .inl (t 0, 4, .inl f214))] sz) := by
  refine Met.ofW (cc := cX12_lists) (maxL := 7) (ret := (some .int)) (by decide) rfl ?_
  intro p e s m args below meth c s₁ B hml hv
  obtain ⟨rfl, hsz, hP, hK, hD0, hN⟩ := hv
  have hx := B.exec
  have hb := B.bytes
  have hr := B.returns
  have hts : ∀ w ∈ TB, w.before _ s = true := fun w h => atoms_spec (ws := wd yX12_lists cX12_lists 7 (some .int)) B.pre w (List.mem_cons_of_mem _ h)
  have hown : s.vm.findClass RX12 = some m.cls := findClass_of_methodNamed B.named
  have hlocks := B.notSynchronized
  have hF : CallFix p m c cX12_lists 7 s _ TB RX12 := ⟨hx, hb, hml, hown, hts⟩
  have hl := lv_entry ([.ref (a 200), .int p0, .int p1]) (n := 7) (Nat.le_of_ble_eq_true rfl)
  rw [lg_entry_eq]
  generalize (lg_sl ([.ref (a 200), .int p0, .int p1]) ++ List.replicate (7 - (lg_sl ([.ref (a 200), .int p0, .int p1])).length) Slot.unset).toArray = ls at hl ⊢
  have hl : lv_has ls 7 [(0, .ref (a 200)), (1, .int p0), (2, .int p1)] := hl
  subst hsz
  have hD := hD0.self (sz := s.heap.size)
  generalize hAe : va_A [(a 200, .inr (12, .int v200_0 :: .ref (a 201) :: .ref (a 202) :: .ref (a 203) :: .ref (a 204) :: .int v200_5 :: .ref (a 205) :: .int v200_7 :: .int v200_8 :: .int v200_9 :: .int v200_10 :: .int v200_11 :: .int v200_12 :: .int v200_13 :: .ref (a 206) :: .int v200_15 :: .ref (a 207) :: .int v200_17 :: .int v200_18 :: .int v200_19 :: .ref (a 208) :: .int v200_21 :: .ref (a 209) :: .int v200_23 :: .ref (a 210) :: .ref (a 211) :: .ref (a 212) :: .int v200_27 :: .int v200_28 :: .int v200_29 :: .ref (a 213) :: .ref (a 214) :: .ref (a 215) :: .int v200_33 :: .int v200_34 :: .int v200_35 :: .ref (a 216) :: .ref (a 217) :: .ref (a 218) :: .ref (a 219) :: [])), (a 201, .inl (t 0, 841, .inl f201)), (a 207, .inl (t 0, 9, .inl f207)), (a 208, .inl (t 0, 9, .inl f208)), (a 213, .inl (t 0, 4, .inl f213)), (a 214, .inl (t 0, 4, .inl f214))] s.heap.size = A at hD ⊢
  have hA : ∀ q : Nat, s.heap.size ≤ q → A q := fun q h => by rw [← hAe]; exact Or.inr h
  have hS : va_S A s.heap s.heap [] := va_S.rf
  have hP : va_P D classes [(a 200, .inr (12, .int v200_0 :: .ref (a 201) :: .ref (a 202) :: .ref (a 203) :: .ref (a 204) :: .int v200_5 :: .ref (a 205) :: .int v200_7 :: .int v200_8 :: .int v200_9 :: .int v200_10 :: .int v200_11 :: .int v200_12 :: .int v200_13 :: .ref (a 206) :: .int v200_15 :: .ref (a 207) :: .int v200_17 :: .int v200_18 :: .int v200_19 :: .ref (a 208) :: .int v200_21 :: .ref (a 209) :: .int v200_23 :: .ref (a 210) :: .ref (a 211) :: .ref (a 212) :: .int v200_27 :: .int v200_28 :: .int v200_29 :: .ref (a 213) :: .ref (a 214) :: .ref (a 215) :: .int v200_33 :: .int v200_34 :: .int v200_35 :: .ref (a 216) :: .ref (a 217) :: .ref (a 218) :: .ref (a 219) :: [])), (a 201, .inl (t 0, 841, .inl f201)), (a 207, .inl (t 0, 9, .inl f207)), (a 208, .inl (t 0, 9, .inl f208)), (a 213, .inl (t 0, 4, .inl f213)), (a 214, .inl (t 0, 4, .inl f214))] s.heap := hP
  refine lv_aload_n hx hb dX12_lists_0 rfl (lv_at hl 0 rfl) ?_
  refine y_pV hF (s_X12_isChamber l D t a v200_0 v200_5 v200_7 v200_8 v200_9 v200_10 v200_11 v200_12 v200_13 v200_15 v200_17 v200_18 v200_19 v200_21 v200_23 v200_27 v200_28 v200_29 v200_33 v200_34 v200_35 f201 r200_5 r200_7 r200_8 r200_9 r200_23 q201) m_1766 m_1768 m_s81 m_13 m_1769 hd_X12_isChamber ⟨Nat.le_of_ble_eq_true rfl, Nat.le_of_ble_eq_true rfl⟩ hK hN hP hS [0, 1] rfl 0 (ci := 12) rfl rfl rfl hl.1 rfl (Nat.le_of_ble_eq_true rfl) dX12_lists_1 ⟨Nat.zero_le _, Nat.zero_le _⟩ (fun r_1 H locs hr_1 hP hS => ?_)
  refine lv_if_eq (tgt := 26) hx hb dX12_lists_4 (by decide) (fun c_2 => ?_) (fun c_2 => ?_)
  · skip
    have h_3 : rg 0 0 r_1 := rg_eq c_2 (rg_c (x := 0) (k := 0) (by decide))
    refine lv_bipush (v := (-2)) hx hb dX12_lists_26 (by decide) ?_
    have hP9 := hP.sub (ws' := [(a 200, .inr (12, .int v200_0 :: .ref (a 201) :: .ref (a 202) :: .ref (a 203) :: .ref (a 204) :: .int v200_5 :: .ref (a 205) :: .int v200_7 :: .int v200_8 :: .int v200_9 :: .int v200_10 :: .int v200_11 :: .int v200_12 :: .int v200_13 :: .ref (a 206) :: .int v200_15 :: .ref (a 207) :: .int v200_17 :: .int v200_18 :: .int v200_19 :: .ref (a 208) :: .int v200_21 :: .ref (a 209) :: .int v200_23 :: .ref (a 210) :: .ref (a 211) :: .ref (a 212) :: .int v200_27 :: .int v200_28 :: .int v200_29 :: .ref (a 213) :: .ref (a 214) :: .ref (a 215) :: .int v200_33 :: .int v200_34 :: .int v200_35 :: .ref (a 216) :: .ref (a 217) :: .ref (a 218) :: .ref (a 219) :: [])), (a 201, .inl (t 0, 841, .inl f201)), (a 207, .inl (t 0, 9, .inl f207)), (a 208, .inl (t 0, 9, .inl f208)), (a 213, .inl (t 0, 4, .inl f213)), (a 214, .inl (t 0, 4, .inl f214))]) [0, 1, 2, 3, 4, 5] rfl
    have hD9 := hD.sub (ws' := [(a 200, .inr (12, .int v200_0 :: .ref (a 201) :: .ref (a 202) :: .ref (a 203) :: .ref (a 204) :: .int v200_5 :: .ref (a 205) :: .int v200_7 :: .int v200_8 :: .int v200_9 :: .int v200_10 :: .int v200_11 :: .int v200_12 :: .int v200_13 :: .ref (a 206) :: .int v200_15 :: .ref (a 207) :: .int v200_17 :: .int v200_18 :: .int v200_19 :: .ref (a 208) :: .int v200_21 :: .ref (a 209) :: .int v200_23 :: .ref (a 210) :: .ref (a 211) :: .ref (a 212) :: .int v200_27 :: .int v200_28 :: .int v200_29 :: .ref (a 213) :: .ref (a 214) :: .ref (a 215) :: .int v200_33 :: .int v200_34 :: .int v200_35 :: .ref (a 216) :: .ref (a 217) :: .ref (a 218) :: .ref (a 219) :: [])), (a 201, .inl (t 0, 841, .inl f201)), (a 207, .inl (t 0, 9, .inl f207)), (a 208, .inl (t 0, 9, .inl f208)), (a 213, .inl (t 0, 4, .inl f213)), (a 214, .inl (t 0, 4, .inl f214))]) [0, 1, 2, 3, 4, 5] (by decide) rfl
    exact W.iret (v := (-2)) hx hb hr (fun t9 ht hW => ⟨⟨(-2), (fun k => [v200_15, v200_17, v200_18, v200_21].getD k 0, fun k => [f207, f208, f213, f214].getD k (fun _ => 0), fun k => [].getD k (fun _ => 0), fun _ => 0), rfl, trivial, by rw [ht]; exact hP9, hD9⟩, hS.F ht⟩) hS.2.2 dX12_lists_28
  · skip
    have h_4 : rg 1 1 r_1 := rg_w (rg_neL hr_1 c_2 (by decide)) (by decide) (by decide)
    refine lv_iload_n hx hb dX12_lists_7 rfl (lv_at hl 1 rfl) ?_
    refine lv_i2l hx hb dX12_lists_8 rfl ?_
    refine lv_lconst (v := 0) hx hb dX12_lists_9 rfl ?_
    refine lv_ldc2 (v := 20) hx hb hown (hts _ m_1976) dX12_lists_10 ?_
    refine y_pS hF (s_X12_in l D t a ((p0).toInt64) 0 20) m_1469 m_1470 m_13 m_1471 hd_X12_in ⟨Nat.le_of_ble_eq_true rfl, Nat.le_of_ble_eq_true rfl⟩ hK hN hP hS [] rfl hl.1 rfl (Nat.le_of_ble_eq_true rfl) dX12_lists_13 ⟨Nat.zero_le _, Nat.zero_le _⟩ (fun r_5 H locs hr_5 hP hS => ?_)
    refine lv_if_eq (tgt := 26) hx hb dX12_lists_16 (by decide) (fun c_6 => ?_) (fun c_6 => ?_)
    · skip
      refine lv_bipush (v := (-2)) hx hb dX12_lists_26 (by decide) ?_
      have hP9 := hP.sub (ws' := [(a 200, .inr (12, .int v200_0 :: .ref (a 201) :: .ref (a 202) :: .ref (a 203) :: .ref (a 204) :: .int v200_5 :: .ref (a 205) :: .int v200_7 :: .int v200_8 :: .int v200_9 :: .int v200_10 :: .int v200_11 :: .int v200_12 :: .int v200_13 :: .ref (a 206) :: .int v200_15 :: .ref (a 207) :: .int v200_17 :: .int v200_18 :: .int v200_19 :: .ref (a 208) :: .int v200_21 :: .ref (a 209) :: .int v200_23 :: .ref (a 210) :: .ref (a 211) :: .ref (a 212) :: .int v200_27 :: .int v200_28 :: .int v200_29 :: .ref (a 213) :: .ref (a 214) :: .ref (a 215) :: .int v200_33 :: .int v200_34 :: .int v200_35 :: .ref (a 216) :: .ref (a 217) :: .ref (a 218) :: .ref (a 219) :: [])), (a 201, .inl (t 0, 841, .inl f201)), (a 207, .inl (t 0, 9, .inl f207)), (a 208, .inl (t 0, 9, .inl f208)), (a 213, .inl (t 0, 4, .inl f213)), (a 214, .inl (t 0, 4, .inl f214))]) [0, 1, 2, 3, 4, 5] rfl
      have hD9 := hD.sub (ws' := [(a 200, .inr (12, .int v200_0 :: .ref (a 201) :: .ref (a 202) :: .ref (a 203) :: .ref (a 204) :: .int v200_5 :: .ref (a 205) :: .int v200_7 :: .int v200_8 :: .int v200_9 :: .int v200_10 :: .int v200_11 :: .int v200_12 :: .int v200_13 :: .ref (a 206) :: .int v200_15 :: .ref (a 207) :: .int v200_17 :: .int v200_18 :: .int v200_19 :: .ref (a 208) :: .int v200_21 :: .ref (a 209) :: .int v200_23 :: .ref (a 210) :: .ref (a 211) :: .ref (a 212) :: .int v200_27 :: .int v200_28 :: .int v200_29 :: .ref (a 213) :: .ref (a 214) :: .ref (a 215) :: .int v200_33 :: .int v200_34 :: .int v200_35 :: .ref (a 216) :: .ref (a 217) :: .ref (a 218) :: .ref (a 219) :: [])), (a 201, .inl (t 0, 841, .inl f201)), (a 207, .inl (t 0, 9, .inl f207)), (a 208, .inl (t 0, 9, .inl f208)), (a 213, .inl (t 0, 4, .inl f213)), (a 214, .inl (t 0, 4, .inl f214))]) [0, 1, 2, 3, 4, 5] (by decide) rfl
      exact W.iret (v := (-2)) hx hb hr (fun t9 ht hW => ⟨⟨(-2), (fun k => [v200_15, v200_17, v200_18, v200_21].getD k 0, fun k => [f207, f208, f213, f214].getD k (fun _ => 0), fun k => [].getD k (fun _ => 0), fun _ => 0), rfl, trivial, by rw [ht]; exact hP9, hD9⟩, hS.F ht⟩) hS.2.2 dX12_lists_28
    · skip
      have o_7 := Or.resolve_left hr_5.2 c_6
      refine lv_iload_n hx hb dX12_lists_19 rfl (lv_at hl 2 rfl) ?_
      refine y_pS hF (s_X12_isParty l D t a p1) m_1934 m_1935 m_13 m_1936 hd_X12_isParty ⟨Nat.le_of_ble_eq_true rfl, Nat.le_of_ble_eq_true rfl⟩ hK hN hP hS [] rfl hl.1 rfl (Nat.le_of_ble_eq_true rfl) dX12_lists_20 ⟨Nat.zero_le _, Nat.zero_le _⟩ (fun r_8 H locs hr_8 hP hS => ?_)
      refine lv_if_ne (tgt := 29) hx hb dX12_lists_23 (by decide) (fun c_9 => ?_) (fun c_9 => ?_)
      · skip
        have o_10 := Or.resolve_left hr_8.2 c_9
        refine lv_aload_n hx hb dX12_lists_29 rfl (lv_at hl 0 rfl) ?_
        refine y_wV (wr := [(a 208, .inl (t 0, 9, .inl f208)), (a 213, .inl (t 0, 4, .inl f213)), (a 214, .inl (t 0, 4, .inl f214))]) hF (s_X12_asItIs l D t a v200_0 v200_5 v200_7 v200_8 v200_9 v200_10 v200_11 v200_12 v200_13 v200_15 v200_17 v200_18 v200_19 v200_21 v200_23 v200_27 v200_28 v200_29 v200_33 v200_34 v200_35 f201 f207 r200_5 r200_7 r200_8 r200_9 r200_23 q201 H.size) m_1640 m_1642 m_s62 m_13 m_1643 hd_X12_asItIs ⟨Nat.le_of_ble_eq_true rfl, Nat.le_of_ble_eq_true rfl⟩ hK hN hP hD hS hA 0 (ci := 12) rfl rfl rfl [0, 1, 2] [3, 4, 5] rfl rfl (by decide) (by decide) (by decide) hl.1 rfl (Nat.le_of_ble_eq_true rfl) dX12_lists_30 ⟨Nat.zero_le _, Nat.zero_le _⟩ (fun u_11 H locs hu_11 hP hD hS => ?_)
        have hP : va_P D classes [(a 208, .inl (t 0, 9, .inl f208)), (a 213, .inl (t 0, 4, .inl f213)), (a 214, .inl (t 0, 4, .inl f214)), (a 200, .inr (12, .int v200_0 :: .ref (a 201) :: .ref (a 202) :: .ref (a 203) :: .ref (a 204) :: .int v200_5 :: .ref (a 205) :: .int v200_7 :: .int v200_8 :: .int v200_9 :: .int v200_10 :: .int v200_11 :: .int v200_12 :: .int v200_13 :: .ref (a 206) :: .int (u_11.1 0) :: .ref (a 207) :: .int (u_11.1 1) :: .int (u_11.1 2) :: .int v200_19 :: .ref (a 208) :: .int v200_21 :: .ref (a 209) :: .int v200_23 :: .ref (a 210) :: .ref (a 211) :: .ref (a 212) :: .int v200_27 :: .int v200_28 :: .int v200_29 :: .ref (a 213) :: .ref (a 214) :: .ref (a 215) :: .int v200_33 :: .int v200_34 :: .int v200_35 :: .ref (a 216) :: .ref (a 217) :: .ref (a 218) :: .ref (a 219) :: [])), (a 201, .inl (t 0, 841, .inl f201)), (a 207, .inl (t 0, 9, .inl (u_11.2.1 0)))] H := hP
        have hD : va_D A [(a 208, .inl (t 0, 9, .inl f208)), (a 213, .inl (t 0, 4, .inl f213)), (a 214, .inl (t 0, 4, .inl f214)), (a 200, .inr (12, .int v200_0 :: .ref (a 201) :: .ref (a 202) :: .ref (a 203) :: .ref (a 204) :: .int v200_5 :: .ref (a 205) :: .int v200_7 :: .int v200_8 :: .int v200_9 :: .int v200_10 :: .int v200_11 :: .int v200_12 :: .int v200_13 :: .ref (a 206) :: .int (u_11.1 0) :: .ref (a 207) :: .int (u_11.1 1) :: .int (u_11.1 2) :: .int v200_19 :: .ref (a 208) :: .int v200_21 :: .ref (a 209) :: .int v200_23 :: .ref (a 210) :: .ref (a 211) :: .ref (a 212) :: .int v200_27 :: .int v200_28 :: .int v200_29 :: .ref (a 213) :: .ref (a 214) :: .ref (a 215) :: .int v200_33 :: .int v200_34 :: .int v200_35 :: .ref (a 216) :: .ref (a 217) :: .ref (a 218) :: .ref (a 219) :: [])), (a 201, .inl (t 0, 841, .inl f201)), (a 207, .inl (t 0, 9, .inl (u_11.2.1 0)))] := hD
        refine lv_iconst (v := 0) hx hb dX12_lists_33 (by decide) ?_
        refine lv_istore_n (lv' := [(3, .int 0), (0, .ref (a 200)), (1, .int p0), (2, .int p1)]) hx hb dX12_lists_34 rfl hl (by decide) rfl (fun ls hl => ?_)
        refine loopW (α := US) (fun n y_13 H locs ls => 4 < (y_13.1 0).toInt + (n : Int) ∧ rg 0 4 (y_13.1 0) ∧ va_P D classes [(a 208, .inl (t 0, 9, .inl f208)), (a 213, .inl (t 0, 4, .inl (y_13.2.1 0))), (a 214, .inl (t 0, 4, .inl (y_13.2.1 1))), (a 200, .inr (12, .int v200_0 :: .ref (a 201) :: .ref (a 202) :: .ref (a 203) :: .ref (a 204) :: .int v200_5 :: .ref (a 205) :: .int v200_7 :: .int v200_8 :: .int v200_9 :: .int v200_10 :: .int v200_11 :: .int v200_12 :: .int v200_13 :: .ref (a 206) :: .int (u_11.1 0) :: .ref (a 207) :: .int (u_11.1 1) :: .int (u_11.1 2) :: .int v200_19 :: .ref (a 208) :: .int v200_21 :: .ref (a 209) :: .int v200_23 :: .ref (a 210) :: .ref (a 211) :: .ref (a 212) :: .int v200_27 :: .int v200_28 :: .int v200_29 :: .ref (a 213) :: .ref (a 214) :: .ref (a 215) :: .int v200_33 :: .int v200_34 :: .int v200_35 :: .ref (a 216) :: .ref (a 217) :: .ref (a 218) :: .ref (a 219) :: [])), (a 201, .inl (t 0, 841, .inl f201)), (a 207, .inl (t 0, 9, .inl (u_11.2.1 0)))] H ∧ va_D A [(a 208, .inl (t 0, 9, .inl f208)), (a 213, .inl (t 0, 4, .inl (y_13.2.1 0))), (a 214, .inl (t 0, 4, .inl (y_13.2.1 1))), (a 200, .inr (12, .int v200_0 :: .ref (a 201) :: .ref (a 202) :: .ref (a 203) :: .ref (a 204) :: .int v200_5 :: .ref (a 205) :: .int v200_7 :: .int v200_8 :: .int v200_9 :: .int v200_10 :: .int v200_11 :: .int v200_12 :: .int v200_13 :: .ref (a 206) :: .int (u_11.1 0) :: .ref (a 207) :: .int (u_11.1 1) :: .int (u_11.1 2) :: .int v200_19 :: .ref (a 208) :: .int v200_21 :: .ref (a 209) :: .int v200_23 :: .ref (a 210) :: .ref (a 211) :: .ref (a 212) :: .int v200_27 :: .int v200_28 :: .int v200_29 :: .ref (a 213) :: .ref (a 214) :: .ref (a 215) :: .int v200_33 :: .int v200_34 :: .int v200_35 :: .ref (a 216) :: .ref (a 217) :: .ref (a 218) :: .ref (a 219) :: [])), (a 201, .inl (t 0, 841, .inl f201)), (a 207, .inl (t 0, 9, .inl (u_11.2.1 0)))] ∧ va_S A s.heap H locs ∧ lv_has ls 7 [(3, .int (y_13.1 0)), (0, .ref (a 200)), (1, .int p0), (2, .int p1)]) 35 (fun y_13 => []) (fun _ _ _ _ h9 => m_0 h9.1 h9.2.1) (fun n ih_15 y_13 H locs ls hI => ?_) 5 (fun k => [0].getD k 0, fun k => [f213, f214].getD k (fun _ => 0), fun k => [].getD k (fun _ => 0), fun k => [].getD k 0) ⟨(m_i (rg_c (x := 0) (k := 0) (by decide)) (by decide)), (rg_w (c := 0) (d := 4) (rg_c (x := 0) (k := 0) (by decide)) (by decide) (by decide)), hP, hD, hS, (lv_sub hl [0, 1, 2, 3] rfl)⟩
        obtain ⟨me_16, h_14, hP, hD, hS, hl⟩ := hI
        refine lv_iload_n hx hb dX12_lists_35 rfl (lv_at hl 0 rfl) ?_
        refine lv_iconst (v := 4) hx hb dX12_lists_36 (by decide) ?_
        refine lv_icmp_ge (tgt := 60) hx hb dX12_lists_37 (by decide) (fun c_17 => ?_) (fun c_17 => ?_)
        · skip
          have h_18 : rg 4 4 (y_13.1 0) := ⟨Int.le_trans (by decide) (c_leR c_17 (rg_c (x := 4) (k := 4) (by decide))), (h_14).2⟩
          refine lv_iconst (v := 0) hx hb dX12_lists_60 (by decide) ?_
          refine lv_istore_n (lv' := [(3, .int 0), (0, .ref (a 200)), (1, .int p0), (2, .int p1)]) hx hb dX12_lists_61 rfl hl (by decide) rfl (fun ls hl => ?_)
          refine lv_iconst (v := 0) hx hb dX12_lists_62 (by decide) ?_
          refine lv_istore (lv' := [(4, .int 0), (3, .int 0), (0, .ref (a 200)), (1, .int p0), (2, .int p1)]) hx hb dX12_lists_63 hl (by decide) rfl (fun ls hl => ?_)
          refine loopW (α := US) (fun n y_19 H locs ls => 4 < (y_19.1 0).toInt + (n : Int) ∧ rg 0 4 (y_19.1 0) ∧ va_P D classes [(a 208, .inl (t 0, 9, .inl (y_19.2.1 0))), (a 213, .inl (t 0, 4, .inl (y_19.2.1 1))), (a 214, .inl (t 0, 4, .inl (y_13.2.1 1))), (a 200, .inr (12, .int v200_0 :: .ref (a 201) :: .ref (a 202) :: .ref (a 203) :: .ref (a 204) :: .int v200_5 :: .ref (a 205) :: .int v200_7 :: .int v200_8 :: .int v200_9 :: .int v200_10 :: .int v200_11 :: .int v200_12 :: .int v200_13 :: .ref (a 206) :: .int (u_11.1 0) :: .ref (a 207) :: .int (u_11.1 1) :: .int (u_11.1 2) :: .int v200_19 :: .ref (a 208) :: .int (y_19.1 2) :: .ref (a 209) :: .int v200_23 :: .ref (a 210) :: .ref (a 211) :: .ref (a 212) :: .int v200_27 :: .int v200_28 :: .int v200_29 :: .ref (a 213) :: .ref (a 214) :: .ref (a 215) :: .int v200_33 :: .int v200_34 :: .int v200_35 :: .ref (a 216) :: .ref (a 217) :: .ref (a 218) :: .ref (a 219) :: [])), (a 201, .inl (t 0, 841, .inl f201)), (a 207, .inl (t 0, 9, .inl (u_11.2.1 0)))] H ∧ va_D A [(a 208, .inl (t 0, 9, .inl (y_19.2.1 0))), (a 213, .inl (t 0, 4, .inl (y_19.2.1 1))), (a 214, .inl (t 0, 4, .inl (y_13.2.1 1))), (a 200, .inr (12, .int v200_0 :: .ref (a 201) :: .ref (a 202) :: .ref (a 203) :: .ref (a 204) :: .int v200_5 :: .ref (a 205) :: .int v200_7 :: .int v200_8 :: .int v200_9 :: .int v200_10 :: .int v200_11 :: .int v200_12 :: .int v200_13 :: .ref (a 206) :: .int (u_11.1 0) :: .ref (a 207) :: .int (u_11.1 1) :: .int (u_11.1 2) :: .int v200_19 :: .ref (a 208) :: .int (y_19.1 2) :: .ref (a 209) :: .int v200_23 :: .ref (a 210) :: .ref (a 211) :: .ref (a 212) :: .int v200_27 :: .int v200_28 :: .int v200_29 :: .ref (a 213) :: .ref (a 214) :: .ref (a 215) :: .int v200_33 :: .int v200_34 :: .int v200_35 :: .ref (a 216) :: .ref (a 217) :: .ref (a 218) :: .ref (a 219) :: [])), (a 201, .inl (t 0, 841, .inl f201)), (a 207, .inl (t 0, 9, .inl (u_11.2.1 0)))] ∧ va_S A s.heap H locs ∧ lv_has ls 7 [(4, .int (y_19.1 0)), (3, .int (y_19.1 1)), (0, .ref (a 200)), (1, .int p0), (2, .int p1)]) 65 (fun y_19 => []) (fun _ _ _ _ h9 => m_0 h9.1 h9.2.1) (fun n ih_21 y_19 H locs ls hI => ?_) 5 (fun k => [0, 0, v200_21].getD k 0, fun k => [f208, (y_13.2.1 0)].getD k (fun _ => 0), fun k => [].getD k (fun _ => 0), fun k => [].getD k 0) ⟨(m_i (rg_c (x := 0) (k := 0) (by decide)) (by decide)), (rg_w (c := 0) (d := 4) (rg_c (x := 0) (k := 0) (by decide)) (by decide) (by decide)), hP, hD, hS, (lv_sub hl [0, 1, 2, 3, 4] rfl)⟩
          obtain ⟨me_22, h_20, hP, hD, hS, hl⟩ := hI
          refine lv_iload hx hb dX12_lists_65 (lv_at hl 0 rfl) ?_
          refine lv_aload_n hx hb dX12_lists_67 rfl (lv_at hl 2 rfl) ?_
          refine va_get (D := D) (ci := 12) (v := .ref (a 201)) (C := RX12) (T := TX12) (N := 40) hx hb hts iX12 hown hK hP 3 rfl rfl 1 (by decide) (hts _ m_1344) (fun _ h9 => h9) rfl dX12_lists_68 ?_
          refine lv_iconst (v := 4) hx hb dX12_lists_71 (by decide) ?_
          refine va_iald hx hb hK hP 4 0 rfl rfl (in_rg (rg_c (x := 4) (k := 4) (by decide)) (by decide) (by decide)) dX12_lists_72 ?_
          refine x_seti (f201 4) rfl ?_
          have h_23 : rg 0 4 (f201 4) := q201 4 (by decide)
          refine lv_icmp_ge (tgt := 144) hx hb dX12_lists_73 (by decide) (fun c_24 => ?_) (fun c_24 => ?_)
          · skip
            refine lv_iload_n hx hb dX12_lists_144 rfl (lv_at hl 1 rfl) ?_
            refine lv_if_ne (tgt := 150) hx hb dX12_lists_145 (by decide) (fun c_25 => ?_) (fun c_25 => ?_)
            · skip
              refine lv_iconst (v := 0) hx hb dX12_lists_150 (by decide) ?_
              refine lv_istore (lv' := [(4, .int 0), (3, .int (y_19.1 1)), (0, .ref (a 200)), (1, .int p0), (2, .int p1)]) hx hb dX12_lists_151 hl (by decide) rfl (fun ls hl => ?_)
              refine loopW (α := US) (fun n y_26 H locs ls => 24 < (y_26.1 0).toInt + (n : Int) ∧ rg 0 24 (y_26.1 0) ∧ va_P D classes [(a 208, .inl (t 0, 9, .inl (y_19.2.1 0))), (a 213, .inl (t 0, 4, .inl (y_19.2.1 1))), (a 214, .inl (t 0, 4, .inl (y_26.2.1 0))), (a 200, .inr (12, .int v200_0 :: .ref (a 201) :: .ref (a 202) :: .ref (a 203) :: .ref (a 204) :: .int v200_5 :: .ref (a 205) :: .int v200_7 :: .int v200_8 :: .int v200_9 :: .int v200_10 :: .int v200_11 :: .int v200_12 :: .int v200_13 :: .ref (a 206) :: .int (u_11.1 0) :: .ref (a 207) :: .int (u_11.1 1) :: .int (u_11.1 2) :: .int v200_19 :: .ref (a 208) :: .int (y_19.1 2) :: .ref (a 209) :: .int v200_23 :: .ref (a 210) :: .ref (a 211) :: .ref (a 212) :: .int v200_27 :: .int v200_28 :: .int v200_29 :: .ref (a 213) :: .ref (a 214) :: .ref (a 215) :: .int v200_33 :: .int v200_34 :: .int v200_35 :: .ref (a 216) :: .ref (a 217) :: .ref (a 218) :: .ref (a 219) :: [])), (a 201, .inl (t 0, 841, .inl f201)), (a 207, .inl (t 0, 9, .inl (u_11.2.1 0)))] H ∧ va_D A [(a 208, .inl (t 0, 9, .inl (y_19.2.1 0))), (a 213, .inl (t 0, 4, .inl (y_19.2.1 1))), (a 214, .inl (t 0, 4, .inl (y_26.2.1 0))), (a 200, .inr (12, .int v200_0 :: .ref (a 201) :: .ref (a 202) :: .ref (a 203) :: .ref (a 204) :: .int v200_5 :: .ref (a 205) :: .int v200_7 :: .int v200_8 :: .int v200_9 :: .int v200_10 :: .int v200_11 :: .int v200_12 :: .int v200_13 :: .ref (a 206) :: .int (u_11.1 0) :: .ref (a 207) :: .int (u_11.1 1) :: .int (u_11.1 2) :: .int v200_19 :: .ref (a 208) :: .int (y_19.1 2) :: .ref (a 209) :: .int v200_23 :: .ref (a 210) :: .ref (a 211) :: .ref (a 212) :: .int v200_27 :: .int v200_28 :: .int v200_29 :: .ref (a 213) :: .ref (a 214) :: .ref (a 215) :: .int v200_33 :: .int v200_34 :: .int v200_35 :: .ref (a 216) :: .ref (a 217) :: .ref (a 218) :: .ref (a 219) :: [])), (a 201, .inl (t 0, 841, .inl f201)), (a 207, .inl (t 0, 9, .inl (u_11.2.1 0)))] ∧ va_S A s.heap H locs ∧ lv_has ls 7 [(4, .int (y_26.1 0)), (3, .int (y_19.1 1)), (0, .ref (a 200)), (1, .int p0), (2, .int p1)]) 153 (fun y_26 => []) (fun _ _ _ _ h9 => m_0 h9.1 h9.2.1) (fun n ih_28 y_26 H locs ls hI => ?_) 25 (fun k => [0].getD k 0, fun k => [(y_13.2.1 1)].getD k (fun _ => 0), fun k => [].getD k (fun _ => 0), fun k => [].getD k 0) ⟨(m_i (rg_c (x := 0) (k := 0) (by decide)) (by decide)), (rg_w (c := 0) (d := 24) (rg_c (x := 0) (k := 0) (by decide)) (by decide) (by decide)), hP, hD, hS, (lv_sub hl [0, 1, 2, 3, 4] rfl)⟩
              obtain ⟨me_29, h_27, hP, hD, hS, hl⟩ := hI
              refine lv_iload hx hb dX12_lists_153 (lv_at hl 0 rfl) ?_
              refine lv_iload_n hx hb dX12_lists_155 rfl (lv_at hl 3 rfl) ?_
              refine lv_icmp_ge (tgt := 240) hx hb dX12_lists_156 (by decide) (fun c_30 => ?_) (fun c_30 => ?_)
              · skip
                refine lv_aload_n hx hb dX12_lists_240 rfl (lv_at hl 2 rfl) ?_
                refine va_get (D := D) (ci := 12) (v := .ref (a 214)) (C := RX12) (T := TX12) (N := 40) hx hb hts iX12 hown hK hP 3 rfl rfl 31 (by decide) (hts _ m_1374) (fun _ h9 => h9) rfl dX12_lists_241 ?_
                refine lv_iload_n hx hb dX12_lists_244 rfl (lv_at hl 4 rfl) ?_
                refine va_iald hx hb hK hP 2 0 rfl rfl (in_rg o_10 (by decide) (by decide)) dX12_lists_245 ?_
                refine lv_topi (fun x_31 ex_31 => ?_)
                have hP9 := hP.sub (ws' := [(a 200, .inr (12, .int v200_0 :: .ref (a 201) :: .ref (a 202) :: .ref (a 203) :: .ref (a 204) :: .int v200_5 :: .ref (a 205) :: .int v200_7 :: .int v200_8 :: .int v200_9 :: .int v200_10 :: .int v200_11 :: .int v200_12 :: .int v200_13 :: .ref (a 206) :: .int (u_11.1 0) :: .ref (a 207) :: .int (u_11.1 1) :: .int (u_11.1 2) :: .int v200_19 :: .ref (a 208) :: .int (y_19.1 2) :: .ref (a 209) :: .int v200_23 :: .ref (a 210) :: .ref (a 211) :: .ref (a 212) :: .int v200_27 :: .int v200_28 :: .int v200_29 :: .ref (a 213) :: .ref (a 214) :: .ref (a 215) :: .int v200_33 :: .int v200_34 :: .int v200_35 :: .ref (a 216) :: .ref (a 217) :: .ref (a 218) :: .ref (a 219) :: [])), (a 201, .inl (t 0, 841, .inl f201)), (a 207, .inl (t 0, 9, .inl (u_11.2.1 0))), (a 208, .inl (t 0, 9, .inl (y_19.2.1 0))), (a 213, .inl (t 0, 4, .inl (y_19.2.1 1))), (a 214, .inl (t 0, 4, .inl (y_26.2.1 0)))]) [3, 4, 5, 0, 1, 2] rfl
                have hD9 := hD.sub (ws' := [(a 200, .inr (12, .int v200_0 :: .ref (a 201) :: .ref (a 202) :: .ref (a 203) :: .ref (a 204) :: .int v200_5 :: .ref (a 205) :: .int v200_7 :: .int v200_8 :: .int v200_9 :: .int v200_10 :: .int v200_11 :: .int v200_12 :: .int v200_13 :: .ref (a 206) :: .int (u_11.1 0) :: .ref (a 207) :: .int (u_11.1 1) :: .int (u_11.1 2) :: .int v200_19 :: .ref (a 208) :: .int (y_19.1 2) :: .ref (a 209) :: .int v200_23 :: .ref (a 210) :: .ref (a 211) :: .ref (a 212) :: .int v200_27 :: .int v200_28 :: .int v200_29 :: .ref (a 213) :: .ref (a 214) :: .ref (a 215) :: .int v200_33 :: .int v200_34 :: .int v200_35 :: .ref (a 216) :: .ref (a 217) :: .ref (a 218) :: .ref (a 219) :: [])), (a 201, .inl (t 0, 841, .inl f201)), (a 207, .inl (t 0, 9, .inl (u_11.2.1 0))), (a 208, .inl (t 0, 9, .inl (y_19.2.1 0))), (a 213, .inl (t 0, 4, .inl (y_19.2.1 1))), (a 214, .inl (t 0, 4, .inl (y_26.2.1 0)))]) [3, 4, 5, 0, 1, 2] (by decide) rfl
                exact W.iret (v := x_31) hx hb hr (fun t9 ht hW => ⟨⟨x_31, (fun k => [(u_11.1 0), (u_11.1 1), (u_11.1 2), (y_19.1 2)].getD k 0, fun k => [(u_11.2.1 0), (y_19.2.1 0), (y_19.2.1 1), (y_26.2.1 0)].getD k (fun _ => 0), fun k => [].getD k (fun _ => 0), fun _ => 0), rfl, trivial, by rw [ht]; exact hP9, hD9⟩, hS.F ht⟩) hS.2.2 dX12_lists_246
              · skip
                have h_32 : rg 0 19 (y_26.1 0) := ⟨(h_27).1, Int.le_trans (c_nleR c_30 (in_cvi (p := 0) (q := 20) o_7 (rl_c (x := 0) (k := 0) (by decide)) (rl_c (x := 20) (k := 20) (by decide)) (by decide) (by decide))) (by decide)⟩
                have h_33 : rg 1 20 p0 := ⟨Int.le_trans (by decide) (c_nle c_30 h_27), ((in_cvi (p := 0) (q := 20) o_7 (rl_c (x := 0) (k := 0) (by decide)) (rl_c (x := 20) (k := 20) (by decide)) (by decide) (by decide))).2⟩
                refine lv_iconst (v := 0) hx hb dX12_lists_159 (by decide) ?_
                refine lv_istore (lv' := [(5, .int 0), (4, .int (y_26.1 0)), (3, .int (y_19.1 1)), (0, .ref (a 200)), (1, .int p0), (2, .int p1)]) hx hb dX12_lists_160 hl (by decide) rfl (fun ls hl => ?_)
                refine lv_iconst (v := 1) hx hb dX12_lists_162 (by decide) ?_
                refine lv_istore (lv' := [(6, .int 1), (5, .int 0), (4, .int (y_26.1 0)), (3, .int (y_19.1 1)), (0, .ref (a 200)), (1, .int p0), (2, .int p1)]) hx hb dX12_lists_163 hl (by decide) rfl (fun ls hl => ?_)
                refine loopW (α := US) (fun n y_34 H locs ls => 4 < (y_34.1 0).toInt + (n : Int) ∧ rg 1 4 (y_34.1 0) ∧ rg 0 3 (y_34.1 1) ∧ va_P D classes [(a 208, .inl (t 0, 9, .inl (y_19.2.1 0))), (a 213, .inl (t 0, 4, .inl (y_19.2.1 1))), (a 214, .inl (t 0, 4, .inl (y_26.2.1 0))), (a 200, .inr (12, .int v200_0 :: .ref (a 201) :: .ref (a 202) :: .ref (a 203) :: .ref (a 204) :: .int v200_5 :: .ref (a 205) :: .int v200_7 :: .int v200_8 :: .int v200_9 :: .int v200_10 :: .int v200_11 :: .int v200_12 :: .int v200_13 :: .ref (a 206) :: .int (u_11.1 0) :: .ref (a 207) :: .int (u_11.1 1) :: .int (u_11.1 2) :: .int v200_19 :: .ref (a 208) :: .int (y_19.1 2) :: .ref (a 209) :: .int v200_23 :: .ref (a 210) :: .ref (a 211) :: .ref (a 212) :: .int v200_27 :: .int v200_28 :: .int v200_29 :: .ref (a 213) :: .ref (a 214) :: .ref (a 215) :: .int v200_33 :: .int v200_34 :: .int v200_35 :: .ref (a 216) :: .ref (a 217) :: .ref (a 218) :: .ref (a 219) :: [])), (a 201, .inl (t 0, 841, .inl f201)), (a 207, .inl (t 0, 9, .inl (u_11.2.1 0)))] H ∧ va_D A [(a 208, .inl (t 0, 9, .inl (y_19.2.1 0))), (a 213, .inl (t 0, 4, .inl (y_19.2.1 1))), (a 214, .inl (t 0, 4, .inl (y_26.2.1 0))), (a 200, .inr (12, .int v200_0 :: .ref (a 201) :: .ref (a 202) :: .ref (a 203) :: .ref (a 204) :: .int v200_5 :: .ref (a 205) :: .int v200_7 :: .int v200_8 :: .int v200_9 :: .int v200_10 :: .int v200_11 :: .int v200_12 :: .int v200_13 :: .ref (a 206) :: .int (u_11.1 0) :: .ref (a 207) :: .int (u_11.1 1) :: .int (u_11.1 2) :: .int v200_19 :: .ref (a 208) :: .int (y_19.1 2) :: .ref (a 209) :: .int v200_23 :: .ref (a 210) :: .ref (a 211) :: .ref (a 212) :: .int v200_27 :: .int v200_28 :: .int v200_29 :: .ref (a 213) :: .ref (a 214) :: .ref (a 215) :: .int v200_33 :: .int v200_34 :: .int v200_35 :: .ref (a 216) :: .ref (a 217) :: .ref (a 218) :: .ref (a 219) :: [])), (a 201, .inl (t 0, 841, .inl f201)), (a 207, .inl (t 0, 9, .inl (u_11.2.1 0)))] ∧ va_S A s.heap H locs ∧ lv_has ls 7 [(6, .int (y_34.1 0)), (5, .int (y_34.1 1)), (4, .int (y_26.1 0)), (3, .int (y_19.1 1)), (0, .ref (a 200)), (1, .int p0), (2, .int p1)]) 165 (fun y_34 => []) (fun _ _ _ _ h9 => m_0 h9.1 h9.2.1) (fun n ih_37 y_34 H locs ls hI => ?_) 4 (fun k => [1, 0].getD k 0, fun k => [].getD k (fun _ => 0), fun k => [].getD k (fun _ => 0), fun k => [].getD k 0) ⟨(m_i (rg_c (x := 1) (k := 1) (by decide)) (by decide)), (rg_w (c := 1) (d := 4) (rg_c (x := 1) (k := 1) (by decide)) (by decide) (by decide)), (rg_w (c := 0) (d := 3) (rg_c (x := 0) (k := 0) (by decide)) (by decide) (by decide)), hP, hD, hS, (lv_sub hl [0, 1, 2, 3, 4, 5, 6] rfl)⟩
                obtain ⟨me_38, h_35, h_36, hP, hD, hS, hl⟩ := hI
                refine lv_iload hx hb dX12_lists_165 (lv_at hl 0 rfl) ?_
                refine lv_iconst (v := 4) hx hb dX12_lists_167 (by decide) ?_
                refine lv_icmp_ge (tgt := 223) hx hb dX12_lists_168 (by decide) (fun c_39 => ?_) (fun c_39 => ?_)
                · skip
                  have h_40 : rg 4 4 (y_34.1 0) := ⟨Int.le_trans (by decide) (c_leR c_39 (rg_c (x := 4) (k := 4) (by decide))), (h_35).2⟩
                  refine lv_aload_n hx hb dX12_lists_223 rfl (lv_at hl 4 rfl) ?_
                  refine va_get (D := D) (ci := 12) (v := .ref (a 214)) (C := RX12) (T := TX12) (N := 40) hx hb hts iX12 hown hK hP 3 rfl rfl 31 (by decide) (hts _ m_1374) (fun _ h9 => h9) rfl dX12_lists_224 ?_
                  refine lv_iload hx hb dX12_lists_227 (lv_at hl 1 rfl) ?_
                  refine lv_dup2_11 hx hb dX12_lists_229 rfl rfl ?_
                  refine va_iald hx hb hK hP 2 0 rfl rfl (in_rg h_36 (by decide) (by decide)) dX12_lists_230 ?_
                  refine lv_topi (fun x_41 ex_41 => ?_)
                  refine lv_iconst (v := 1) hx hb dX12_lists_231 (by decide) ?_
                  refine lv_iadd hx hb dX12_lists_232 ?_
                  refine lv_topi (fun x_42 ex_42 => ?_)
                  refine x_iast hx hb hK hP hD hS 2 0 rfl rfl (in_rg h_36 (by decide) (by decide)) dX12_lists_233 (fun g_43 H locs hP hD hS => ?_)
                  have hP : va_P D classes [(a 208, .inl (t 0, 9, .inl (y_19.2.1 0))), (a 213, .inl (t 0, 4, .inl (y_19.2.1 1))), (a 214, .inl (t 0, 4, .inl g_43)), (a 200, .inr (12, .int v200_0 :: .ref (a 201) :: .ref (a 202) :: .ref (a 203) :: .ref (a 204) :: .int v200_5 :: .ref (a 205) :: .int v200_7 :: .int v200_8 :: .int v200_9 :: .int v200_10 :: .int v200_11 :: .int v200_12 :: .int v200_13 :: .ref (a 206) :: .int (u_11.1 0) :: .ref (a 207) :: .int (u_11.1 1) :: .int (u_11.1 2) :: .int v200_19 :: .ref (a 208) :: .int (y_19.1 2) :: .ref (a 209) :: .int v200_23 :: .ref (a 210) :: .ref (a 211) :: .ref (a 212) :: .int v200_27 :: .int v200_28 :: .int v200_29 :: .ref (a 213) :: .ref (a 214) :: .ref (a 215) :: .int v200_33 :: .int v200_34 :: .int v200_35 :: .ref (a 216) :: .ref (a 217) :: .ref (a 218) :: .ref (a 219) :: [])), (a 201, .inl (t 0, 841, .inl f201)), (a 207, .inl (t 0, 9, .inl (u_11.2.1 0)))] H := hP
                  have hD : va_D A [(a 208, .inl (t 0, 9, .inl (y_19.2.1 0))), (a 213, .inl (t 0, 4, .inl (y_19.2.1 1))), (a 214, .inl (t 0, 4, .inl g_43)), (a 200, .inr (12, .int v200_0 :: .ref (a 201) :: .ref (a 202) :: .ref (a 203) :: .ref (a 204) :: .int v200_5 :: .ref (a 205) :: .int v200_7 :: .int v200_8 :: .int v200_9 :: .int v200_10 :: .int v200_11 :: .int v200_12 :: .int v200_13 :: .ref (a 206) :: .int (u_11.1 0) :: .ref (a 207) :: .int (u_11.1 1) :: .int (u_11.1 2) :: .int v200_19 :: .ref (a 208) :: .int (y_19.1 2) :: .ref (a 209) :: .int v200_23 :: .ref (a 210) :: .ref (a 211) :: .ref (a 212) :: .int v200_27 :: .int v200_28 :: .int v200_29 :: .ref (a 213) :: .ref (a 214) :: .ref (a 215) :: .int v200_33 :: .int v200_34 :: .int v200_35 :: .ref (a 216) :: .ref (a 217) :: .ref (a 218) :: .ref (a 219) :: [])), (a 201, .inl (t 0, 841, .inl f201)), (a 207, .inl (t 0, 9, .inl (u_11.2.1 0)))] := hD
                  obtain ⟨x_44, ex_44⟩ : ∃ y9 : Int32, y9 = (y_26.1 0) + 1 := ⟨_, rfl⟩
                  have hx_44 : rg 1 20 x_44 := by rw [ex_44]; exact rg_add h_32 (rg_c (x := 1) (k := 1) (by decide)) (by decide) (by decide) (by decide) (by decide)
                  have tx_44 : x_44.toInt = (y_26.1 0).toInt + 1 := by rw [ex_44]; exact inc_tk h_32 (by decide) (by decide) (by decide)
                  refine lv_iinc (v := x_44) (lv' := [(4, .int x_44), (6, .int (y_34.1 0)), (5, .int (y_34.1 1)), (3, .int (y_19.1 1)), (0, .ref (a 200)), (1, .int p0), (2, .int p1)]) hx hb dX12_lists_234 hl (k := 2) rfl (by rw [ex_44]; rfl) (by decide) rfl (fun ls hl => ?_)
                  refine lv_goto (tgt := 153) hx hb dX12_lists_237 (by decide) ?_
                  exact ih_28 (fun k => [x_44].getD k 0, fun k => [g_43].getD k (fun _ => 0), fun k => [].getD k (fun _ => 0), fun k => [].getD k 0) _ _ ls ⟨(m_upk me_29 tx_44 (by decide)), (rg_w (c := 0) (d := 24) hx_44 (by decide) (by decide)), hP, hD, hS, (lv_sub hl [0, 3, 4, 5, 6] rfl)⟩
                · skip
                  have h_45 : rg 1 3 (y_34.1 0) := ⟨(h_35).1, Int.le_trans (c_nleR c_39 (rg_c (x := 4) (k := 4) (by decide))) (by decide)⟩
                  refine lv_aload_n hx hb dX12_lists_171 rfl (lv_at hl 4 rfl) ?_
                  refine va_get (D := D) (ci := 12) (v := .ref (a 213)) (C := RX12) (T := TX12) (N := 40) hx hb hts iX12 hown hK hP 3 rfl rfl 30 (by decide) (hts _ m_1373) (fun _ h9 => h9) rfl dX12_lists_172 ?_
                  refine lv_iload hx hb dX12_lists_175 (lv_at hl 0 rfl) ?_
                  refine va_iald hx hb hK hP 1 0 rfl rfl (in_rg h_45 (by decide) (by decide)) dX12_lists_177 ?_
                  refine lv_topi (fun x_46 ex_46 => ?_)
                  refine lv_aload_n hx hb dX12_lists_178 rfl (lv_at hl 4 rfl) ?_
                  refine va_get (D := D) (ci := 12) (v := .ref (a 214)) (C := RX12) (T := TX12) (N := 40) hx hb hts iX12 hown hK hP 3 rfl rfl 31 (by decide) (hts _ m_1374) (fun _ h9 => h9) rfl dX12_lists_179 ?_
                  refine lv_iload hx hb dX12_lists_182 (lv_at hl 1 rfl) ?_
                  refine va_iald hx hb hK hP 2 0 rfl rfl (in_rg h_36 (by decide) (by decide)) dX12_lists_184 ?_
                  refine lv_topi (fun x_47 ex_47 => ?_)
                  refine lv_iconst (v := 1) hx hb dX12_lists_185 (by decide) ?_
                  refine lv_iadd hx hb dX12_lists_186 ?_
                  refine lv_topi (fun x_48 ex_48 => ?_)
                  refine lv_imul hx hb dX12_lists_187 ?_
                  refine lv_topi (fun x_49 ex_49 => ?_)
                  refine lv_aload_n hx hb dX12_lists_188 rfl (lv_at hl 4 rfl) ?_
                  refine va_get (D := D) (ci := 12) (v := .ref (a 213)) (C := RX12) (T := TX12) (N := 40) hx hb hts iX12 hown hK hP 3 rfl rfl 30 (by decide) (hts _ m_1373) (fun _ h9 => h9) rfl dX12_lists_189 ?_
                  refine lv_iload hx hb dX12_lists_192 (lv_at hl 1 rfl) ?_
                  refine va_iald hx hb hK hP 1 0 rfl rfl (in_rg h_36 (by decide) (by decide)) dX12_lists_194 ?_
                  refine lv_topi (fun x_50 ex_50 => ?_)
                  refine lv_aload_n hx hb dX12_lists_195 rfl (lv_at hl 4 rfl) ?_
                  refine va_get (D := D) (ci := 12) (v := .ref (a 214)) (C := RX12) (T := TX12) (N := 40) hx hb hts iX12 hown hK hP 3 rfl rfl 31 (by decide) (hts _ m_1374) (fun _ h9 => h9) rfl dX12_lists_196 ?_
                  refine lv_iload hx hb dX12_lists_199 (lv_at hl 0 rfl) ?_
                  refine va_iald hx hb hK hP 2 0 rfl rfl (in_rg h_45 (by decide) (by decide)) dX12_lists_201 ?_
                  refine lv_topi (fun x_51 ex_51 => ?_)
                  refine lv_iconst (v := 1) hx hb dX12_lists_202 (by decide) ?_
                  refine lv_iadd hx hb dX12_lists_203 ?_
                  refine lv_topi (fun x_52 ex_52 => ?_)
                  refine lv_imul hx hb dX12_lists_204 ?_
                  refine lv_topi (fun x_53 ex_53 => ?_)
                  refine lv_icmp_le (tgt := 213) hx hb dX12_lists_205 (by decide) (fun c_54 => ?_) (fun c_54 => ?_)
                  · skip
                    refine lv_iload hx hb dX12_lists_213 (lv_at hl 1 rfl) ?_
                    refine lv_istore (lv' := [(5, .int (y_34.1 1)), (6, .int (y_34.1 0)), (4, .int (y_26.1 0)), (3, .int (y_19.1 1)), (0, .ref (a 200)), (1, .int p0), (2, .int p1)]) hx hb dX12_lists_215 hl (by decide) rfl (fun ls hl => ?_)
                    obtain ⟨x_55, ex_55⟩ : ∃ y9 : Int32, y9 = (y_34.1 0) + 1 := ⟨_, rfl⟩
                    have hx_55 : rg 2 4 x_55 := by rw [ex_55]; exact rg_add h_45 (rg_c (x := 1) (k := 1) (by decide)) (by decide) (by decide) (by decide) (by decide)
                    have tx_55 : x_55.toInt = (y_34.1 0).toInt + 1 := by rw [ex_55]; exact inc_tk h_45 (by decide) (by decide) (by decide)
                    refine lv_iinc (v := x_55) (lv' := [(6, .int x_55), (5, .int (y_34.1 1)), (4, .int (y_26.1 0)), (3, .int (y_19.1 1)), (0, .ref (a 200)), (1, .int p0), (2, .int p1)]) hx hb dX12_lists_217 hl (k := 1) rfl (by rw [ex_55]; rfl) (by decide) rfl (fun ls hl => ?_)
                    refine lv_goto (tgt := 165) hx hb dX12_lists_220 (by decide) ?_
                    exact ih_37 (fun k => [x_55, (y_34.1 1)].getD k 0, fun k => [].getD k (fun _ => 0), fun k => [].getD k (fun _ => 0), fun k => [].getD k 0) _ _ ls ⟨(m_upk me_38 tx_55 (by decide)), (rg_w (c := 1) (d := 4) hx_55 (by decide) (by decide)), h_36, hP, hD, hS, (lv_sub hl [0, 1, 2, 3, 4, 5, 6] rfl)⟩
                  · skip
                    have h_56 : rg (-2147483647) 2147483647 x_49 := ⟨Int.le_trans (by decide) (c_nle c_54 (rg_any x_53)), ((rg_any x_49)).2⟩
                    have h_57 : rg (-2147483648) 2147483646 x_53 := ⟨((rg_any x_53)).1, Int.le_trans (c_nleR c_54 (rg_any x_49)) (by decide)⟩
                    refine lv_iload hx hb dX12_lists_208 (lv_at hl 0 rfl) ?_
                    refine lv_goto (tgt := 215) hx hb dX12_lists_210 (by decide) ?_
                    refine lv_istore (lv' := [(5, .int (y_34.1 0)), (6, .int (y_34.1 0)), (4, .int (y_26.1 0)), (3, .int (y_19.1 1)), (0, .ref (a 200)), (1, .int p0), (2, .int p1)]) hx hb dX12_lists_215 hl (by decide) rfl (fun ls hl => ?_)
                    obtain ⟨x_58, ex_58⟩ : ∃ y9 : Int32, y9 = (y_34.1 0) + 1 := ⟨_, rfl⟩
                    have hx_58 : rg 2 4 x_58 := by rw [ex_58]; exact rg_add h_45 (rg_c (x := 1) (k := 1) (by decide)) (by decide) (by decide) (by decide) (by decide)
                    have tx_58 : x_58.toInt = (y_34.1 0).toInt + 1 := by rw [ex_58]; exact inc_tk h_45 (by decide) (by decide) (by decide)
                    refine lv_iinc (v := x_58) (lv' := [(6, .int x_58), (5, .int (y_34.1 0)), (4, .int (y_26.1 0)), (3, .int (y_19.1 1)), (0, .ref (a 200)), (1, .int p0), (2, .int p1)]) hx hb dX12_lists_217 hl (k := 1) rfl (by rw [ex_58]; rfl) (by decide) rfl (fun ls hl => ?_)
                    refine lv_goto (tgt := 165) hx hb dX12_lists_220 (by decide) ?_
                    exact ih_37 (fun k => [x_58, (y_34.1 0)].getD k 0, fun k => [].getD k (fun _ => 0), fun k => [].getD k (fun _ => 0), fun k => [].getD k 0) _ _ ls ⟨(m_upk me_38 tx_58 (by decide)), (rg_w (c := 1) (d := 4) hx_58 (by decide) (by decide)), (rg_w (c := 0) (d := 3) h_45 (by decide) (by decide)), hP, hD, hS, (lv_sub hl [0, 1, 2, 3, 4, 5, 6] rfl)⟩
            · skip
              have h_59 : rg 0 0 (y_19.1 1) := rg_eq c_25 (rg_c (x := 0) (k := 0) (by decide))
              refine lv_iconst (v := 0) hx hb dX12_lists_148 (by decide) ?_
              have hP9 := hP.sub (ws' := [(a 200, .inr (12, .int v200_0 :: .ref (a 201) :: .ref (a 202) :: .ref (a 203) :: .ref (a 204) :: .int v200_5 :: .ref (a 205) :: .int v200_7 :: .int v200_8 :: .int v200_9 :: .int v200_10 :: .int v200_11 :: .int v200_12 :: .int v200_13 :: .ref (a 206) :: .int (u_11.1 0) :: .ref (a 207) :: .int (u_11.1 1) :: .int (u_11.1 2) :: .int v200_19 :: .ref (a 208) :: .int (y_19.1 2) :: .ref (a 209) :: .int v200_23 :: .ref (a 210) :: .ref (a 211) :: .ref (a 212) :: .int v200_27 :: .int v200_28 :: .int v200_29 :: .ref (a 213) :: .ref (a 214) :: .ref (a 215) :: .int v200_33 :: .int v200_34 :: .int v200_35 :: .ref (a 216) :: .ref (a 217) :: .ref (a 218) :: .ref (a 219) :: [])), (a 201, .inl (t 0, 841, .inl f201)), (a 207, .inl (t 0, 9, .inl (u_11.2.1 0))), (a 208, .inl (t 0, 9, .inl (y_19.2.1 0))), (a 213, .inl (t 0, 4, .inl (y_19.2.1 1))), (a 214, .inl (t 0, 4, .inl (y_13.2.1 1)))]) [3, 4, 5, 0, 1, 2] rfl
              have hD9 := hD.sub (ws' := [(a 200, .inr (12, .int v200_0 :: .ref (a 201) :: .ref (a 202) :: .ref (a 203) :: .ref (a 204) :: .int v200_5 :: .ref (a 205) :: .int v200_7 :: .int v200_8 :: .int v200_9 :: .int v200_10 :: .int v200_11 :: .int v200_12 :: .int v200_13 :: .ref (a 206) :: .int (u_11.1 0) :: .ref (a 207) :: .int (u_11.1 1) :: .int (u_11.1 2) :: .int v200_19 :: .ref (a 208) :: .int (y_19.1 2) :: .ref (a 209) :: .int v200_23 :: .ref (a 210) :: .ref (a 211) :: .ref (a 212) :: .int v200_27 :: .int v200_28 :: .int v200_29 :: .ref (a 213) :: .ref (a 214) :: .ref (a 215) :: .int v200_33 :: .int v200_34 :: .int v200_35 :: .ref (a 216) :: .ref (a 217) :: .ref (a 218) :: .ref (a 219) :: [])), (a 201, .inl (t 0, 841, .inl f201)), (a 207, .inl (t 0, 9, .inl (u_11.2.1 0))), (a 208, .inl (t 0, 9, .inl (y_19.2.1 0))), (a 213, .inl (t 0, 4, .inl (y_19.2.1 1))), (a 214, .inl (t 0, 4, .inl (y_13.2.1 1)))]) [3, 4, 5, 0, 1, 2] (by decide) rfl
              exact W.iret (v := 0) hx hb hr (fun t9 ht hW => ⟨⟨0, (fun k => [(u_11.1 0), (u_11.1 1), (u_11.1 2), (y_19.1 2)].getD k 0, fun k => [(u_11.2.1 0), (y_19.2.1 0), (y_19.2.1 1), (y_13.2.1 1)].getD k (fun _ => 0), fun k => [].getD k (fun _ => 0), fun _ => 0), rfl, trivial, by rw [ht]; exact hP9, hD9⟩, hS.F ht⟩) hS.2.2 dX12_lists_149
          · skip
            have h_60 : rg 0 3 (y_19.1 0) := ⟨(h_20).1, Int.le_trans (c_nleR c_24 h_23) (by decide)⟩
            have h_61 : rg 1 4 (f201 4) := ⟨Int.le_trans (by decide) (c_nle c_24 h_20), (h_23).2⟩
            refine lv_aload_n hx hb dX12_lists_76 rfl (lv_at hl 2 rfl) ?_
            refine lv_iload hx hb dX12_lists_77 (lv_at hl 0 rfl) ?_
            refine lv_aload_n hx hb dX12_lists_79 rfl (lv_at hl 2 rfl) ?_
            refine lv_iload hx hb dX12_lists_80 (lv_at hl 0 rfl) ?_
            refine y_pV hF (s_X12_standingIn l D t a v200_0 v200_5 v200_7 v200_8 v200_9 v200_10 v200_11 v200_12 v200_13 (u_11.1 0) (u_11.1 1) (u_11.1 2) v200_19 (y_19.1 2) v200_23 v200_27 v200_28 v200_29 v200_33 v200_34 v200_35 f201 (y_19.1 0) r200_5 r200_7 r200_8 r200_9 r200_23 q201) m_1652 m_1654 m_s65 m_13 m_1655 hd_X12_standingIn ⟨Nat.le_of_ble_eq_true rfl, Nat.le_of_ble_eq_true rfl⟩ hK hN hP hS [3, 4] rfl 0 (ci := 12) rfl rfl rfl hl.1 rfl (Nat.le_of_ble_eq_true rfl) dX12_lists_82 ⟨Nat.zero_le _, Nat.zero_le _⟩ (fun r_62 H locs hr_62 hP hS => ?_)
            have or_62 := hr_62.2
            refine lv_iconst (v := 0) hx hb dX12_lists_85 (by decide) ?_
            refine y_wV (wr := [(a 213, .inl (t 0, 4, .inl (y_19.2.1 1))), (a 214, .inl (t 0, 4, .inl (y_13.2.1 1)))]) hF (s_X12_count l D t a v200_0 v200_5 v200_7 v200_8 v200_9 v200_10 v200_11 v200_12 v200_13 (u_11.1 0) (u_11.1 1) (u_11.1 2) v200_19 (y_19.1 2) v200_23 v200_27 v200_28 v200_29 v200_33 v200_34 v200_35 f201 (u_11.2.1 0) (y_19.2.1 0) (y_19.1 0) r_62 0 r200_5 r200_7 r200_8 r200_9 r200_23 q201 (rg_w (c := 0) (d := 1) (rg_c (x := 0) (k := 0) (by decide)) (by decide) (by decide)) H.size) m_1695 m_1697 m_s72 m_13 m_1698 hd_X12_count ⟨Nat.le_of_ble_eq_true rfl, Nat.le_of_ble_eq_true rfl⟩ hK hN hP hD hS hA 0 (ci := 12) rfl rfl rfl [3, 4, 5, 0] [1, 2] rfl rfl (by decide) (by decide) (by decide) hl.1 rfl (Nat.le_of_ble_eq_true rfl) dX12_lists_86 ⟨Nat.zero_le _, Nat.zero_le _⟩ (fun u_63 H locs hu_63 hP hD hS => ?_)
            have hP : va_P D classes [(a 213, .inl (t 0, 4, .inl (y_19.2.1 1))), (a 214, .inl (t 0, 4, .inl (y_13.2.1 1))), (a 200, .inr (12, .int v200_0 :: .ref (a 201) :: .ref (a 202) :: .ref (a 203) :: .ref (a 204) :: .int v200_5 :: .ref (a 205) :: .int v200_7 :: .int v200_8 :: .int v200_9 :: .int v200_10 :: .int v200_11 :: .int v200_12 :: .int v200_13 :: .ref (a 206) :: .int (u_11.1 0) :: .ref (a 207) :: .int (u_11.1 1) :: .int (u_11.1 2) :: .int v200_19 :: .ref (a 208) :: .int (u_63.1 0) :: .ref (a 209) :: .int v200_23 :: .ref (a 210) :: .ref (a 211) :: .ref (a 212) :: .int v200_27 :: .int v200_28 :: .int v200_29 :: .ref (a 213) :: .ref (a 214) :: .ref (a 215) :: .int v200_33 :: .int v200_34 :: .int v200_35 :: .ref (a 216) :: .ref (a 217) :: .ref (a 218) :: .ref (a 219) :: [])), (a 201, .inl (t 0, 841, .inl f201)), (a 207, .inl (t 0, 9, .inl (u_11.2.1 0))), (a 208, .inl (t 0, 9, .inl (u_63.2.1 0)))] H := hP
            have hD : va_D A [(a 213, .inl (t 0, 4, .inl (y_19.2.1 1))), (a 214, .inl (t 0, 4, .inl (y_13.2.1 1))), (a 200, .inr (12, .int v200_0 :: .ref (a 201) :: .ref (a 202) :: .ref (a 203) :: .ref (a 204) :: .int v200_5 :: .ref (a 205) :: .int v200_7 :: .int v200_8 :: .int v200_9 :: .int v200_10 :: .int v200_11 :: .int v200_12 :: .int v200_13 :: .ref (a 206) :: .int (u_11.1 0) :: .ref (a 207) :: .int (u_11.1 1) :: .int (u_11.1 2) :: .int v200_19 :: .ref (a 208) :: .int (u_63.1 0) :: .ref (a 209) :: .int v200_23 :: .ref (a 210) :: .ref (a 211) :: .ref (a 212) :: .int v200_27 :: .int v200_28 :: .int v200_29 :: .ref (a 213) :: .ref (a 214) :: .ref (a 215) :: .int v200_33 :: .int v200_34 :: .int v200_35 :: .ref (a 216) :: .ref (a 217) :: .ref (a 218) :: .ref (a 219) :: [])), (a 201, .inl (t 0, 841, .inl f201)), (a 207, .inl (t 0, 9, .inl (u_11.2.1 0))), (a 208, .inl (t 0, 9, .inl (u_63.2.1 0)))] := hD
            refine lv_iconst (v := 0) hx hb dX12_lists_89 (by decide) ?_
            refine lv_istore (lv' := [(5, .int 0), (4, .int (y_19.1 0)), (3, .int (y_19.1 1)), (0, .ref (a 200)), (1, .int p0), (2, .int p1)]) hx hb dX12_lists_90 hl (by decide) rfl (fun ls hl => ?_)
            refine loopW (α := US) (fun n y_65 H locs ls => 9 < (y_65.1 0).toInt + (n : Int) ∧ rg 0 9 (y_65.1 0) ∧ va_P D classes [(a 213, .inl (t 0, 4, .inl (y_65.2.1 0))), (a 214, .inl (t 0, 4, .inl (y_13.2.1 1))), (a 200, .inr (12, .int v200_0 :: .ref (a 201) :: .ref (a 202) :: .ref (a 203) :: .ref (a 204) :: .int v200_5 :: .ref (a 205) :: .int v200_7 :: .int v200_8 :: .int v200_9 :: .int v200_10 :: .int v200_11 :: .int v200_12 :: .int v200_13 :: .ref (a 206) :: .int (u_11.1 0) :: .ref (a 207) :: .int (u_11.1 1) :: .int (u_11.1 2) :: .int v200_19 :: .ref (a 208) :: .int (u_63.1 0) :: .ref (a 209) :: .int v200_23 :: .ref (a 210) :: .ref (a 211) :: .ref (a 212) :: .int v200_27 :: .int v200_28 :: .int v200_29 :: .ref (a 213) :: .ref (a 214) :: .ref (a 215) :: .int v200_33 :: .int v200_34 :: .int v200_35 :: .ref (a 216) :: .ref (a 217) :: .ref (a 218) :: .ref (a 219) :: [])), (a 201, .inl (t 0, 841, .inl f201)), (a 207, .inl (t 0, 9, .inl (u_11.2.1 0))), (a 208, .inl (t 0, 9, .inl (u_63.2.1 0)))] H ∧ va_D A [(a 213, .inl (t 0, 4, .inl (y_65.2.1 0))), (a 214, .inl (t 0, 4, .inl (y_13.2.1 1))), (a 200, .inr (12, .int v200_0 :: .ref (a 201) :: .ref (a 202) :: .ref (a 203) :: .ref (a 204) :: .int v200_5 :: .ref (a 205) :: .int v200_7 :: .int v200_8 :: .int v200_9 :: .int v200_10 :: .int v200_11 :: .int v200_12 :: .int v200_13 :: .ref (a 206) :: .int (u_11.1 0) :: .ref (a 207) :: .int (u_11.1 1) :: .int (u_11.1 2) :: .int v200_19 :: .ref (a 208) :: .int (u_63.1 0) :: .ref (a 209) :: .int v200_23 :: .ref (a 210) :: .ref (a 211) :: .ref (a 212) :: .int v200_27 :: .int v200_28 :: .int v200_29 :: .ref (a 213) :: .ref (a 214) :: .ref (a 215) :: .int v200_33 :: .int v200_34 :: .int v200_35 :: .ref (a 216) :: .ref (a 217) :: .ref (a 218) :: .ref (a 219) :: [])), (a 201, .inl (t 0, 841, .inl f201)), (a 207, .inl (t 0, 9, .inl (u_11.2.1 0))), (a 208, .inl (t 0, 9, .inl (u_63.2.1 0)))] ∧ va_S A s.heap H locs ∧ lv_has ls 7 [(5, .int (y_65.1 0)), (4, .int (y_19.1 0)), (3, .int (y_19.1 1)), (0, .ref (a 200)), (1, .int p0), (2, .int p1)]) 92 (fun y_65 => []) (fun _ _ _ _ h9 => m_0 h9.1 h9.2.1) (fun n ih_67 y_65 H locs ls hI => ?_) 10 (fun k => [0].getD k 0, fun k => [(y_19.2.1 1)].getD k (fun _ => 0), fun k => [].getD k (fun _ => 0), fun k => [].getD k 0) ⟨(m_i (rg_c (x := 0) (k := 0) (by decide)) (by decide)), (rg_w (c := 0) (d := 9) (rg_c (x := 0) (k := 0) (by decide)) (by decide) (by decide)), hP, hD, hS, (lv_sub hl [0, 1, 2, 3, 4, 5] rfl)⟩
            obtain ⟨me_68, h_66, hP, hD, hS, hl⟩ := hI
            refine lv_iload hx hb dX12_lists_92 (lv_at hl 0 rfl) ?_
            refine lv_aload_n hx hb dX12_lists_94 rfl (lv_at hl 3 rfl) ?_
            refine va_get (D := D) (ci := 12) (v := .ref (a 201)) (C := RX12) (T := TX12) (N := 40) hx hb hts iX12 hown hK hP 2 rfl rfl 1 (by decide) (hts _ m_1344) (fun _ h9 => h9) rfl dX12_lists_95 ?_
            refine lv_iconst (v := 5) hx hb dX12_lists_98 (by decide) ?_
            refine va_iald hx hb hK hP 3 0 rfl rfl (in_rg (rg_c (x := 5) (k := 5) (by decide)) (by decide) (by decide)) dX12_lists_99 ?_
            refine x_seti (f201 5) rfl ?_
            have h_69 : rg 0 9 (f201 5) := q201 5 (by decide)
            refine lv_icmp_ge (tgt := 131) hx hb dX12_lists_100 (by decide) (fun c_70 => ?_) (fun c_70 => ?_)
            · skip
              refine lv_iload_n hx hb dX12_lists_131 rfl (lv_at hl 2 rfl) ?_
              refine lv_aload_n hx hb dX12_lists_132 rfl (lv_at hl 3 rfl) ?_
              refine va_get (D := D) (ci := 12) (v := .int (u_63.1 0)) (C := RX12) (T := TX12) (N := 40) hx hb hts iX12 hown hK hP 2 rfl rfl 21 (by decide) (hts _ m_1364) (fun _ h9 => h9) rfl dX12_lists_133 ?_
              refine lv_iadd hx hb dX12_lists_136 ?_
              refine lv_topi (fun x_71 ex_71 => ?_)
              refine lv_istore_n (lv' := [(3, .int x_71), (5, .int (y_65.1 0)), (4, .int (y_19.1 0)), (0, .ref (a 200)), (1, .int p0), (2, .int p1)]) hx hb dX12_lists_137 rfl hl (by decide) rfl (fun ls hl => ?_)
              obtain ⟨x_72, ex_72⟩ : ∃ y9 : Int32, y9 = (y_19.1 0) + 1 := ⟨_, rfl⟩
              have hx_72 : rg 1 4 x_72 := by rw [ex_72]; exact rg_add h_60 (rg_c (x := 1) (k := 1) (by decide)) (by decide) (by decide) (by decide) (by decide)
              have tx_72 : x_72.toInt = (y_19.1 0).toInt + 1 := by rw [ex_72]; exact inc_tk h_60 (by decide) (by decide) (by decide)
              refine lv_iinc (v := x_72) (lv' := [(4, .int x_72), (3, .int x_71), (5, .int (y_65.1 0)), (0, .ref (a 200)), (1, .int p0), (2, .int p1)]) hx hb dX12_lists_138 hl (k := 2) rfl (by rw [ex_72]; rfl) (by decide) rfl (fun ls hl => ?_)
              refine lv_goto (tgt := 65) hx hb dX12_lists_141 (by decide) ?_
              exact ih_21 (fun k => [x_72, x_71, (u_63.1 0)].getD k 0, fun k => [(u_63.2.1 0), (y_65.2.1 0)].getD k (fun _ => 0), fun k => [].getD k (fun _ => 0), fun k => [].getD k 0) _ _ ls ⟨(m_upk me_22 tx_72 (by decide)), (rg_w (c := 0) (d := 4) hx_72 (by decide) (by decide)), (hP.sub [5, 0, 1, 2, 3, 4] rfl), (hD.sub [5, 0, 1, 2, 3, 4] (by decide) rfl), hS, (lv_sub hl [0, 1, 3, 4, 5] rfl)⟩
            · skip
              have h_73 : rg 0 8 (y_65.1 0) := ⟨(h_66).1, Int.le_trans (c_nleR c_70 h_69) (by decide)⟩
              have h_74 : rg 1 9 (f201 5) := ⟨Int.le_trans (by decide) (c_nle c_70 h_66), (h_69).2⟩
              refine lv_aload_n hx hb dX12_lists_103 rfl (lv_at hl 3 rfl) ?_
              refine va_get (D := D) (ci := 12) (v := .ref (a 213)) (C := RX12) (T := TX12) (N := 40) hx hb hts iX12 hown hK hP 2 rfl rfl 30 (by decide) (hts _ m_1373) (fun _ h9 => h9) rfl dX12_lists_104 ?_
              refine lv_aload_n hx hb dX12_lists_107 rfl (lv_at hl 3 rfl) ?_
              refine lv_iload hx hb dX12_lists_108 (lv_at hl 0 rfl) ?_
              refine lv_iconst (v := 2) hx hb dX12_lists_110 (by decide) ?_
              refine y_pV hF (s_ofWord2 l D t a v200_0 v200_5 v200_7 v200_8 v200_9 v200_10 v200_11 v200_12 v200_13 (u_11.1 0) (u_11.1 1) (u_11.1 2) v200_19 (u_63.1 0) v200_23 v200_27 v200_28 v200_29 v200_33 v200_34 v200_35 f201 (y_65.1 0) 2 r200_5 r200_7 r200_8 r200_9 r200_23 q201 h_73 (rg_c (x := 2) (k := 2) (by decide))) m_1612 m_1614 m_s58 m_13 m_1615 hd_X12_ofWord ⟨Nat.le_of_ble_eq_true rfl, Nat.le_of_ble_eq_true rfl⟩ hK hN hP hS [2, 3] rfl 0 (ci := 12) rfl rfl rfl hl.1 rfl (Nat.le_of_ble_eq_true rfl) dX12_lists_111 ⟨Nat.zero_le _, Nat.zero_le _⟩ (fun r_75 H locs hr_75 hP hS => ?_)
              refine lv_dup2_11 hx hb dX12_lists_114 rfl rfl ?_
              refine va_iald hx hb hK hP 0 0 rfl rfl (in_rg hr_75 (by decide) (by decide)) dX12_lists_115 ?_
              refine lv_topi (fun x_76 ex_76 => ?_)
              refine lv_aload_n hx hb dX12_lists_116 rfl (lv_at hl 3 rfl) ?_
              refine va_get (D := D) (ci := 12) (v := .ref (a 208)) (C := RX12) (T := TX12) (N := 40) hx hb hts iX12 hown hK hP 2 rfl rfl 20 (by decide) (hts _ m_1363) (fun _ h9 => h9) rfl dX12_lists_117 ?_
              refine lv_iload hx hb dX12_lists_120 (lv_at hl 0 rfl) ?_
              refine va_iald hx hb hK hP 5 0 rfl rfl (in_rg h_73 (by decide) (by decide)) dX12_lists_122 ?_
              refine lv_topi (fun x_77 ex_77 => ?_)
              refine lv_iadd hx hb dX12_lists_123 ?_
              refine lv_topi (fun x_78 ex_78 => ?_)
              refine x_iast hx hb hK hP hD hS 0 0 rfl rfl (in_rg hr_75 (by decide) (by decide)) dX12_lists_124 (fun g_79 H locs hP hD hS => ?_)
              have hP : va_P D classes [(a 213, .inl (t 0, 4, .inl g_79)), (a 214, .inl (t 0, 4, .inl (y_13.2.1 1))), (a 200, .inr (12, .int v200_0 :: .ref (a 201) :: .ref (a 202) :: .ref (a 203) :: .ref (a 204) :: .int v200_5 :: .ref (a 205) :: .int v200_7 :: .int v200_8 :: .int v200_9 :: .int v200_10 :: .int v200_11 :: .int v200_12 :: .int v200_13 :: .ref (a 206) :: .int (u_11.1 0) :: .ref (a 207) :: .int (u_11.1 1) :: .int (u_11.1 2) :: .int v200_19 :: .ref (a 208) :: .int (u_63.1 0) :: .ref (a 209) :: .int v200_23 :: .ref (a 210) :: .ref (a 211) :: .ref (a 212) :: .int v200_27 :: .int v200_28 :: .int v200_29 :: .ref (a 213) :: .ref (a 214) :: .ref (a 215) :: .int v200_33 :: .int v200_34 :: .int v200_35 :: .ref (a 216) :: .ref (a 217) :: .ref (a 218) :: .ref (a 219) :: [])), (a 201, .inl (t 0, 841, .inl f201)), (a 207, .inl (t 0, 9, .inl (u_11.2.1 0))), (a 208, .inl (t 0, 9, .inl (u_63.2.1 0)))] H := hP
              have hD : va_D A [(a 213, .inl (t 0, 4, .inl g_79)), (a 214, .inl (t 0, 4, .inl (y_13.2.1 1))), (a 200, .inr (12, .int v200_0 :: .ref (a 201) :: .ref (a 202) :: .ref (a 203) :: .ref (a 204) :: .int v200_5 :: .ref (a 205) :: .int v200_7 :: .int v200_8 :: .int v200_9 :: .int v200_10 :: .int v200_11 :: .int v200_12 :: .int v200_13 :: .ref (a 206) :: .int (u_11.1 0) :: .ref (a 207) :: .int (u_11.1 1) :: .int (u_11.1 2) :: .int v200_19 :: .ref (a 208) :: .int (u_63.1 0) :: .ref (a 209) :: .int v200_23 :: .ref (a 210) :: .ref (a 211) :: .ref (a 212) :: .int v200_27 :: .int v200_28 :: .int v200_29 :: .ref (a 213) :: .ref (a 214) :: .ref (a 215) :: .int v200_33 :: .int v200_34 :: .int v200_35 :: .ref (a 216) :: .ref (a 217) :: .ref (a 218) :: .ref (a 219) :: [])), (a 201, .inl (t 0, 841, .inl f201)), (a 207, .inl (t 0, 9, .inl (u_11.2.1 0))), (a 208, .inl (t 0, 9, .inl (u_63.2.1 0)))] := hD
              obtain ⟨x_80, ex_80⟩ : ∃ y9 : Int32, y9 = (y_65.1 0) + 1 := ⟨_, rfl⟩
              have hx_80 : rg 1 9 x_80 := by rw [ex_80]; exact rg_add h_73 (rg_c (x := 1) (k := 1) (by decide)) (by decide) (by decide) (by decide) (by decide)
              have tx_80 : x_80.toInt = (y_65.1 0).toInt + 1 := by rw [ex_80]; exact inc_tk h_73 (by decide) (by decide) (by decide)
              refine lv_iinc (v := x_80) (lv' := [(5, .int x_80), (4, .int (y_19.1 0)), (3, .int (y_19.1 1)), (0, .ref (a 200)), (1, .int p0), (2, .int p1)]) hx hb dX12_lists_125 hl (k := 0) rfl (by rw [ex_80]; rfl) (by decide) rfl (fun ls hl => ?_)
              refine lv_goto (tgt := 92) hx hb dX12_lists_128 (by decide) ?_
              exact ih_67 (fun k => [x_80].getD k 0, fun k => [g_79].getD k (fun _ => 0), fun k => [].getD k (fun _ => 0), fun k => [].getD k 0) _ _ ls ⟨(m_upk me_68 tx_80 (by decide)), (rg_w (c := 0) (d := 9) hx_80 (by decide) (by decide)), hP, hD, hS, (lv_sub hl [0, 1, 2, 3, 4, 5] rfl)⟩
        · skip
          have h_81 : rg 0 3 (y_13.1 0) := ⟨(h_14).1, Int.le_trans (c_nleR c_17 (rg_c (x := 4) (k := 4) (by decide))) (by decide)⟩
          refine lv_aload_n hx hb dX12_lists_40 rfl (lv_at hl 1 rfl) ?_
          refine va_get (D := D) (ci := 12) (v := .ref (a 213)) (C := RX12) (T := TX12) (N := 40) hx hb hts iX12 hown hK hP 3 rfl rfl 30 (by decide) (hts _ m_1373) (fun _ h9 => h9) rfl dX12_lists_41 ?_
          refine lv_iload_n hx hb dX12_lists_44 rfl (lv_at hl 0 rfl) ?_
          refine lv_iconst (v := 0) hx hb dX12_lists_45 (by decide) ?_
          refine x_iast hx hb hK hP hD hS 1 0 rfl rfl (in_rg h_81 (by decide) (by decide)) dX12_lists_46 (fun g_82 H locs hP hD hS => ?_)
          have hP : va_P D classes [(a 208, .inl (t 0, 9, .inl f208)), (a 213, .inl (t 0, 4, .inl g_82)), (a 214, .inl (t 0, 4, .inl (y_13.2.1 1))), (a 200, .inr (12, .int v200_0 :: .ref (a 201) :: .ref (a 202) :: .ref (a 203) :: .ref (a 204) :: .int v200_5 :: .ref (a 205) :: .int v200_7 :: .int v200_8 :: .int v200_9 :: .int v200_10 :: .int v200_11 :: .int v200_12 :: .int v200_13 :: .ref (a 206) :: .int (u_11.1 0) :: .ref (a 207) :: .int (u_11.1 1) :: .int (u_11.1 2) :: .int v200_19 :: .ref (a 208) :: .int v200_21 :: .ref (a 209) :: .int v200_23 :: .ref (a 210) :: .ref (a 211) :: .ref (a 212) :: .int v200_27 :: .int v200_28 :: .int v200_29 :: .ref (a 213) :: .ref (a 214) :: .ref (a 215) :: .int v200_33 :: .int v200_34 :: .int v200_35 :: .ref (a 216) :: .ref (a 217) :: .ref (a 218) :: .ref (a 219) :: [])), (a 201, .inl (t 0, 841, .inl f201)), (a 207, .inl (t 0, 9, .inl (u_11.2.1 0)))] H := hP
          have hD : va_D A [(a 208, .inl (t 0, 9, .inl f208)), (a 213, .inl (t 0, 4, .inl g_82)), (a 214, .inl (t 0, 4, .inl (y_13.2.1 1))), (a 200, .inr (12, .int v200_0 :: .ref (a 201) :: .ref (a 202) :: .ref (a 203) :: .ref (a 204) :: .int v200_5 :: .ref (a 205) :: .int v200_7 :: .int v200_8 :: .int v200_9 :: .int v200_10 :: .int v200_11 :: .int v200_12 :: .int v200_13 :: .ref (a 206) :: .int (u_11.1 0) :: .ref (a 207) :: .int (u_11.1 1) :: .int (u_11.1 2) :: .int v200_19 :: .ref (a 208) :: .int v200_21 :: .ref (a 209) :: .int v200_23 :: .ref (a 210) :: .ref (a 211) :: .ref (a 212) :: .int v200_27 :: .int v200_28 :: .int v200_29 :: .ref (a 213) :: .ref (a 214) :: .ref (a 215) :: .int v200_33 :: .int v200_34 :: .int v200_35 :: .ref (a 216) :: .ref (a 217) :: .ref (a 218) :: .ref (a 219) :: [])), (a 201, .inl (t 0, 841, .inl f201)), (a 207, .inl (t 0, 9, .inl (u_11.2.1 0)))] := hD
          refine lv_aload_n hx hb dX12_lists_47 rfl (lv_at hl 1 rfl) ?_
          refine va_get (D := D) (ci := 12) (v := .ref (a 214)) (C := RX12) (T := TX12) (N := 40) hx hb hts iX12 hown hK hP 3 rfl rfl 31 (by decide) (hts _ m_1374) (fun _ h9 => h9) rfl dX12_lists_48 ?_
          refine lv_iload_n hx hb dX12_lists_51 rfl (lv_at hl 0 rfl) ?_
          refine lv_iconst (v := 0) hx hb dX12_lists_52 (by decide) ?_
          refine x_iast hx hb hK hP hD hS 2 0 rfl rfl (in_rg h_81 (by decide) (by decide)) dX12_lists_53 (fun g_83 H locs hP hD hS => ?_)
          have hP : va_P D classes [(a 208, .inl (t 0, 9, .inl f208)), (a 213, .inl (t 0, 4, .inl g_82)), (a 214, .inl (t 0, 4, .inl g_83)), (a 200, .inr (12, .int v200_0 :: .ref (a 201) :: .ref (a 202) :: .ref (a 203) :: .ref (a 204) :: .int v200_5 :: .ref (a 205) :: .int v200_7 :: .int v200_8 :: .int v200_9 :: .int v200_10 :: .int v200_11 :: .int v200_12 :: .int v200_13 :: .ref (a 206) :: .int (u_11.1 0) :: .ref (a 207) :: .int (u_11.1 1) :: .int (u_11.1 2) :: .int v200_19 :: .ref (a 208) :: .int v200_21 :: .ref (a 209) :: .int v200_23 :: .ref (a 210) :: .ref (a 211) :: .ref (a 212) :: .int v200_27 :: .int v200_28 :: .int v200_29 :: .ref (a 213) :: .ref (a 214) :: .ref (a 215) :: .int v200_33 :: .int v200_34 :: .int v200_35 :: .ref (a 216) :: .ref (a 217) :: .ref (a 218) :: .ref (a 219) :: [])), (a 201, .inl (t 0, 841, .inl f201)), (a 207, .inl (t 0, 9, .inl (u_11.2.1 0)))] H := hP
          have hD : va_D A [(a 208, .inl (t 0, 9, .inl f208)), (a 213, .inl (t 0, 4, .inl g_82)), (a 214, .inl (t 0, 4, .inl g_83)), (a 200, .inr (12, .int v200_0 :: .ref (a 201) :: .ref (a 202) :: .ref (a 203) :: .ref (a 204) :: .int v200_5 :: .ref (a 205) :: .int v200_7 :: .int v200_8 :: .int v200_9 :: .int v200_10 :: .int v200_11 :: .int v200_12 :: .int v200_13 :: .ref (a 206) :: .int (u_11.1 0) :: .ref (a 207) :: .int (u_11.1 1) :: .int (u_11.1 2) :: .int v200_19 :: .ref (a 208) :: .int v200_21 :: .ref (a 209) :: .int v200_23 :: .ref (a 210) :: .ref (a 211) :: .ref (a 212) :: .int v200_27 :: .int v200_28 :: .int v200_29 :: .ref (a 213) :: .ref (a 214) :: .ref (a 215) :: .int v200_33 :: .int v200_34 :: .int v200_35 :: .ref (a 216) :: .ref (a 217) :: .ref (a 218) :: .ref (a 219) :: [])), (a 201, .inl (t 0, 841, .inl f201)), (a 207, .inl (t 0, 9, .inl (u_11.2.1 0)))] := hD
          obtain ⟨x_84, ex_84⟩ : ∃ y9 : Int32, y9 = (y_13.1 0) + 1 := ⟨_, rfl⟩
          have hx_84 : rg 1 4 x_84 := by rw [ex_84]; exact rg_add h_81 (rg_c (x := 1) (k := 1) (by decide)) (by decide) (by decide) (by decide) (by decide)
          have tx_84 : x_84.toInt = (y_13.1 0).toInt + 1 := by rw [ex_84]; exact inc_tk h_81 (by decide) (by decide) (by decide)
          refine lv_iinc (v := x_84) (lv' := [(3, .int x_84), (0, .ref (a 200)), (1, .int p0), (2, .int p1)]) hx hb dX12_lists_54 hl (k := 0) rfl (by rw [ex_84]; rfl) (by decide) rfl (fun ls hl => ?_)
          refine lv_goto (tgt := 35) hx hb dX12_lists_57 (by decide) ?_
          exact ih_15 (fun k => [x_84].getD k 0, fun k => [g_82, g_83].getD k (fun _ => 0), fun k => [].getD k (fun _ => 0), fun k => [].getD k 0) _ _ ls ⟨(m_upk me_16 tx_84 (by decide)), (rg_w (c := 0) (d := 4) hx_84 (by decide) (by decide)), hP, hD, hS, (lv_sub hl [0, 1, 2, 3] rfl)⟩
      · skip
        refine lv_bipush (v := (-2)) hx hb dX12_lists_26 (by decide) ?_
        have hP9 := hP.sub (ws' := [(a 200, .inr (12, .int v200_0 :: .ref (a 201) :: .ref (a 202) :: .ref (a 203) :: .ref (a 204) :: .int v200_5 :: .ref (a 205) :: .int v200_7 :: .int v200_8 :: .int v200_9 :: .int v200_10 :: .int v200_11 :: .int v200_12 :: .int v200_13 :: .ref (a 206) :: .int v200_15 :: .ref (a 207) :: .int v200_17 :: .int v200_18 :: .int v200_19 :: .ref (a 208) :: .int v200_21 :: .ref (a 209) :: .int v200_23 :: .ref (a 210) :: .ref (a 211) :: .ref (a 212) :: .int v200_27 :: .int v200_28 :: .int v200_29 :: .ref (a 213) :: .ref (a 214) :: .ref (a 215) :: .int v200_33 :: .int v200_34 :: .int v200_35 :: .ref (a 216) :: .ref (a 217) :: .ref (a 218) :: .ref (a 219) :: [])), (a 201, .inl (t 0, 841, .inl f201)), (a 207, .inl (t 0, 9, .inl f207)), (a 208, .inl (t 0, 9, .inl f208)), (a 213, .inl (t 0, 4, .inl f213)), (a 214, .inl (t 0, 4, .inl f214))]) [0, 1, 2, 3, 4, 5] rfl
        have hD9 := hD.sub (ws' := [(a 200, .inr (12, .int v200_0 :: .ref (a 201) :: .ref (a 202) :: .ref (a 203) :: .ref (a 204) :: .int v200_5 :: .ref (a 205) :: .int v200_7 :: .int v200_8 :: .int v200_9 :: .int v200_10 :: .int v200_11 :: .int v200_12 :: .int v200_13 :: .ref (a 206) :: .int v200_15 :: .ref (a 207) :: .int v200_17 :: .int v200_18 :: .int v200_19 :: .ref (a 208) :: .int v200_21 :: .ref (a 209) :: .int v200_23 :: .ref (a 210) :: .ref (a 211) :: .ref (a 212) :: .int v200_27 :: .int v200_28 :: .int v200_29 :: .ref (a 213) :: .ref (a 214) :: .ref (a 215) :: .int v200_33 :: .int v200_34 :: .int v200_35 :: .ref (a 216) :: .ref (a 217) :: .ref (a 218) :: .ref (a 219) :: [])), (a 201, .inl (t 0, 841, .inl f201)), (a 207, .inl (t 0, 9, .inl f207)), (a 208, .inl (t 0, 9, .inl f208)), (a 213, .inl (t 0, 4, .inl f213)), (a 214, .inl (t 0, 4, .inl f214))]) [0, 1, 2, 3, 4, 5] (by decide) rfl
        exact W.iret (v := (-2)) hx hb hr (fun t9 ht hW => ⟨⟨(-2), (fun k => [v200_15, v200_17, v200_18, v200_21].getD k 0, fun k => [f207, f208, f213, f214].getD k (fun _ => 0), fun k => [].getD k (fun _ => 0), fun _ => 0), rfl, trivial, by rw [ht]; exact hP9, hD9⟩, hS.F ht⟩) hS.2.2 dX12_lists_28

