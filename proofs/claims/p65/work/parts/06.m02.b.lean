set_option maxHeartbeats 4000000 in
set_option maxRecDepth 100000 in
theorem s_X12_number (l : Launch) (D : va_G) (t : Nat → ClassId) (a : Nat → Nat) (v200_0 : Int32) (v200_5 : Int32) (v200_7 : Int32) (v200_8 : Int32) (v200_9 : Int32) (v200_10 : Int32) (v200_11 : Int32) (v200_12 : Int32) (v200_13 : Int32) (v200_15 : Int32) (v200_17 : Int32) (v200_18 : Int32) (v200_19 : Int32) (v200_21 : Int32) (v200_23 : Int32) (v200_27 : Int32) (v200_28 : Int32) (v200_29 : Int32) (v200_33 : Int32) (v200_34 : Int32) (v200_35 : Int32) (f204 : Nat → Int32) (p0 : Int32) (p1 : Int32) (r200_5 : rg 0 1600 v200_5) (r200_7 : rg 0 1600 v200_7) (r200_8 : rg 0 1600 v200_8) (r200_9 : rg 0 1600 v200_9) (r200_23 : rg 0 9 v200_23) (sz : Nat) : Met l yX12_number (wd yX12_number cX12_number 4 (some .int)) (RM 2 0 0) (PreW D (TY t) [.ref (a 200), .int p0, .int p1] [(a 200, .inr (12, .int v200_0 :: .ref (a 201) :: .ref (a 202) :: .ref (a 203) :: .ref (a 204) :: .int v200_5 :: .ref (a 205) :: .int v200_7 :: .int v200_8 :: .int v200_9 :: .int v200_10 :: .int v200_11 :: .int v200_12 :: .int v200_13 :: .ref (a 206) :: .int v200_15 :: .ref (a 207) :: .int v200_17 :: .int v200_18 :: .int v200_19 :: .ref (a 208) :: .int v200_21 :: .ref (a 209) :: .int v200_23 :: .ref (a 210) :: .ref (a 211) :: .ref (a 212) :: .int v200_27 :: .int v200_28 :: .int v200_29 :: .ref (a 213) :: .ref (a 214) :: .ref (a 215) :: .int v200_33 :: .int v200_34 :: .int v200_35 :: .ref (a 216) :: .ref (a 217) :: .ref (a 218) :: .ref (a 219) :: [])), (a 204, .inl (t 1, 1600, .inl f204))] sz) (va_Qi (fun (_ : Int32) (u : US) => rg 0 1600 (u.1 0) ∧ rg 0 1600 (u.1 1)) (fun (u : US) t9 => va_P D classes ((fun u : US => [(a 200, .inr (12, .int v200_0 :: .ref (a 201) :: .ref (a 202) :: .ref (a 203) :: .ref (a 204) :: .int v200_5 :: .ref (a 205) :: .int v200_7 :: .int (u.1 0) :: .int (u.1 1) :: .int (u.1 2) :: .int (u.1 3) :: .int (u.1 4) :: .int (u.1 5) :: .ref (a 206) :: .int v200_15 :: .ref (a 207) :: .int v200_17 :: .int v200_18 :: .int v200_19 :: .ref (a 208) :: .int v200_21 :: .ref (a 209) :: .int v200_23 :: .ref (a 210) :: .ref (a 211) :: .ref (a 212) :: .int v200_27 :: .int v200_28 :: .int v200_29 :: .ref (a 213) :: .ref (a 214) :: .ref (a 215) :: .int v200_33 :: .int v200_34 :: .int v200_35 :: .ref (a 216) :: .ref (a 217) :: .ref (a 218) :: .ref (a 219) :: [])), (a 204, .inl (t 1, 1600, .inl f204))]) u) t9.heap ∧ va_D (va_A [(a 200, .inr (12, .int v200_0 :: .ref (a 201) :: .ref (a 202) :: .ref (a 203) :: .ref (a 204) :: .int v200_5 :: .ref (a 205) :: .int v200_7 :: .int v200_8 :: .int v200_9 :: .int v200_10 :: .int v200_11 :: .int v200_12 :: .int v200_13 :: .ref (a 206) :: .int v200_15 :: .ref (a 207) :: .int v200_17 :: .int v200_18 :: .int v200_19 :: .ref (a 208) :: .int v200_21 :: .ref (a 209) :: .int v200_23 :: .ref (a 210) :: .ref (a 211) :: .ref (a 212) :: .int v200_27 :: .int v200_28 :: .int v200_29 :: .ref (a 213) :: .ref (a 214) :: .ref (a 215) :: .int v200_33 :: .int v200_34 :: .int v200_35 :: .ref (a 216) :: .ref (a 217) :: .ref (a 218) :: .ref (a 219) :: [])), (a 204, .inl (t 1, 1600, .inl f204))] sz) ((fun u : US => [(a 200, .inr (12, .int v200_0 :: .ref (a 201) :: .ref (a 202) :: .ref (a 203) :: .ref (a 204) :: .int v200_5 :: .ref (a 205) :: .int v200_7 :: .int (u.1 0) :: .int (u.1 1) :: .int (u.1 2) :: .int (u.1 3) :: .int (u.1 4) :: .int (u.1 5) :: .ref (a 206) :: .int v200_15 :: .ref (a 207) :: .int v200_17 :: .int v200_18 :: .int v200_19 :: .ref (a 208) :: .int v200_21 :: .ref (a 209) :: .int v200_23 :: .ref (a 210) :: .ref (a 211) :: .ref (a 212) :: .int v200_27 :: .int v200_28 :: .int v200_29 :: .ref (a 213) :: .ref (a 214) :: .ref (a 215) :: .int v200_33 :: .int v200_34 :: .int v200_35 :: .ref (a 216) :: .ref (a 217) :: .ref (a 218) :: .ref (a 219) :: [])), (a 204, .inl (t 1, 1600, .inl f204))]) u)) (va_A [(a 200, .inr (12, .int v200_0 :: .ref (a 201) :: .ref (a 202) :: .ref (a 203) :: .ref (a 204) :: .int v200_5 :: .ref (a 205) :: .int v200_7 :: .int v200_8 :: .int v200_9 :: .int v200_10 :: .int v200_11 :: .int v200_12 :: .int v200_13 :: .ref (a 206) :: .int v200_15 :: .ref (a 207) :: .int v200_17 :: .int v200_18 :: .int v200_19 :: .ref (a 208) :: .int v200_21 :: .ref (a 209) :: .int v200_23 :: .ref (a 210) :: .ref (a 211) :: .ref (a 212) :: .int v200_27 :: .int v200_28 :: .int v200_29 :: .ref (a 213) :: .ref (a 214) :: .ref (a 215) :: .int v200_33 :: .int v200_34 :: .int v200_35 :: .ref (a 216) :: .ref (a 217) :: .ref (a 218) :: .ref (a 219) :: [])), (a 204, .inl (t 1, 1600, .inl f204))] sz)) 0 0 (va_A [(a 200, .inr (12, .int v200_0 :: .ref (a 201) :: .ref (a 202) :: .ref (a 203) :: .ref (a 204) :: .int v200_5 :: .ref (a 205) :: .int v200_7 :: .int v200_8 :: .int v200_9 :: .int v200_10 :: .int v200_11 :: .int v200_12 :: .int v200_13 :: .ref (a 206) :: .int v200_15 :: .ref (a 207) :: .int v200_17 :: .int v200_18 :: .int v200_19 :: .ref (a 208) :: .int v200_21 :: .ref (a 209) :: .int v200_23 :: .ref (a 210) :: .ref (a 211) :: .ref (a 212) :: .int v200_27 :: .int v200_28 :: .int v200_29 :: .ref (a 213) :: .ref (a 214) :: .ref (a 215) :: .int v200_33 :: .int v200_34 :: .int v200_35 :: .ref (a 216) :: .ref (a 217) :: .ref (a 218) :: .ref (a 219) :: [])), (a 204, .inl (t 1, 1600, .inl f204))] sz) := by
  refine Met.ofW (cc := cX12_number) (maxL := 4) (ret := (some .int)) (by decide) rfl ?_
  intro p e s m args below meth c s₁ B hml hv
  obtain ⟨rfl, hsz, hP, hK, hD0, hN⟩ := hv
  have hx := B.exec
  have hb := B.bytes
  have hr := B.returns
  have hts : ∀ w ∈ TB, w.before _ s = true := fun w h => atoms_spec (ws := wd yX12_number cX12_number 4 (some .int)) B.pre w (List.mem_cons_of_mem _ h)
  have hown : s.vm.findClass RX12 = some m.cls := findClass_of_methodNamed B.named
  have hlocks := B.notSynchronized
  have hF : CallFix p m c cX12_number 4 s _ TB RX12 := ⟨hx, hb, hml, hown, hts⟩
  have hl := lv_entry ([.ref (a 200), .int p0, .int p1]) (n := 4) (Nat.le_of_ble_eq_true rfl)
  rw [lg_entry_eq]
  generalize (lg_sl ([.ref (a 200), .int p0, .int p1]) ++ List.replicate (4 - (lg_sl ([.ref (a 200), .int p0, .int p1])).length) Slot.unset).toArray = ls at hl ⊢
  have hl : lv_has ls 4 [(0, .ref (a 200)), (1, .int p0), (2, .int p1)] := hl
  subst hsz
  have hD := hD0.self (sz := s.heap.size)
  generalize hAe : va_A [(a 200, .inr (12, .int v200_0 :: .ref (a 201) :: .ref (a 202) :: .ref (a 203) :: .ref (a 204) :: .int v200_5 :: .ref (a 205) :: .int v200_7 :: .int v200_8 :: .int v200_9 :: .int v200_10 :: .int v200_11 :: .int v200_12 :: .int v200_13 :: .ref (a 206) :: .int v200_15 :: .ref (a 207) :: .int v200_17 :: .int v200_18 :: .int v200_19 :: .ref (a 208) :: .int v200_21 :: .ref (a 209) :: .int v200_23 :: .ref (a 210) :: .ref (a 211) :: .ref (a 212) :: .int v200_27 :: .int v200_28 :: .int v200_29 :: .ref (a 213) :: .ref (a 214) :: .ref (a 215) :: .int v200_33 :: .int v200_34 :: .int v200_35 :: .ref (a 216) :: .ref (a 217) :: .ref (a 218) :: .ref (a 219) :: [])), (a 204, .inl (t 1, 1600, .inl f204))] s.heap.size = A at hD ⊢
  have hA : ∀ q : Nat, s.heap.size ≤ q → A q := fun q h => by rw [← hAe]; exact Or.inr h
  have hS : va_S A s.heap s.heap [] := va_S.rf
  have hP : va_P D classes [(a 200, .inr (12, .int v200_0 :: .ref (a 201) :: .ref (a 202) :: .ref (a 203) :: .ref (a 204) :: .int v200_5 :: .ref (a 205) :: .int v200_7 :: .int v200_8 :: .int v200_9 :: .int v200_10 :: .int v200_11 :: .int v200_12 :: .int v200_13 :: .ref (a 206) :: .int v200_15 :: .ref (a 207) :: .int v200_17 :: .int v200_18 :: .int v200_19 :: .ref (a 208) :: .int v200_21 :: .ref (a 209) :: .int v200_23 :: .ref (a 210) :: .ref (a 211) :: .ref (a 212) :: .int v200_27 :: .int v200_28 :: .int v200_29 :: .ref (a 213) :: .ref (a 214) :: .ref (a 215) :: .int v200_33 :: .int v200_34 :: .int v200_35 :: .ref (a 216) :: .ref (a 217) :: .ref (a 218) :: .ref (a 219) :: [])), (a 204, .inl (t 1, 1600, .inl f204))] s.heap := hP
  refine lv_aload_n hx hb dX12_number_0 rfl (lv_at hl 0 rfl) ?_
  refine y_pV hF (s_X12_good l D t a v200_0 v200_5 v200_7 v200_8 v200_9 v200_10 v200_11 v200_12 v200_13 v200_15 v200_17 v200_18 v200_19 v200_21 v200_23 v200_27 v200_28 v200_29 v200_33 v200_34 v200_35 r200_5 r200_7 r200_8 r200_9 r200_23) m_1506 m_1508 m_s39 m_13 m_1509 hd_X12_good ⟨Nat.le_of_ble_eq_true rfl, Nat.le_of_ble_eq_true rfl⟩ hK hN hP hS [0] rfl 0 (ci := 12) rfl rfl rfl hl.1 rfl (Nat.le_of_ble_eq_true rfl) dX12_number_1 ⟨Nat.zero_le _, Nat.zero_le _⟩ (fun r_1 H locs hr_1 hP hS => ?_)
  refine cutW (α := US) (fun y_2 H locs ls => va_P D classes [(a 200, .inr (12, .int v200_0 :: .ref (a 201) :: .ref (a 202) :: .ref (a 203) :: .ref (a 204) :: .int v200_5 :: .ref (a 205) :: .int v200_7 :: .int v200_8 :: .int v200_9 :: .int v200_10 :: .int v200_11 :: .int (y_2.1 0) :: .int (y_2.1 1) :: .ref (a 206) :: .int v200_15 :: .ref (a 207) :: .int v200_17 :: .int v200_18 :: .int v200_19 :: .ref (a 208) :: .int v200_21 :: .ref (a 209) :: .int v200_23 :: .ref (a 210) :: .ref (a 211) :: .ref (a 212) :: .int v200_27 :: .int v200_28 :: .int v200_29 :: .ref (a 213) :: .ref (a 214) :: .ref (a 215) :: .int v200_33 :: .int v200_34 :: .int v200_35 :: .ref (a 216) :: .ref (a 217) :: .ref (a 218) :: .ref (a 219) :: [])), (a 204, .inl (t 1, 1600, .inl f204))] H ∧ va_D A [(a 200, .inr (12, .int v200_0 :: .ref (a 201) :: .ref (a 202) :: .ref (a 203) :: .ref (a 204) :: .int v200_5 :: .ref (a 205) :: .int v200_7 :: .int v200_8 :: .int v200_9 :: .int v200_10 :: .int v200_11 :: .int (y_2.1 0) :: .int (y_2.1 1) :: .ref (a 206) :: .int v200_15 :: .ref (a 207) :: .int v200_17 :: .int v200_18 :: .int v200_19 :: .ref (a 208) :: .int v200_21 :: .ref (a 209) :: .int v200_23 :: .ref (a 210) :: .ref (a 211) :: .ref (a 212) :: .int v200_27 :: .int v200_28 :: .int v200_29 :: .ref (a 213) :: .ref (a 214) :: .ref (a 215) :: .int v200_33 :: .int v200_34 :: .int v200_35 :: .ref (a 216) :: .ref (a 217) :: .ref (a 218) :: .ref (a 219) :: [])), (a 204, .inl (t 1, 1600, .inl f204))] ∧ va_S A s.heap H locs ∧ lv_has ls 4 [(0, .ref (a 200)), (1, .int p0), (2, .int p1)]) 20 (fun y_2 => []) (fun y_2 H locs ls hI => ?_) (fun K_3 => ?_)
  · obtain ⟨hP, hD, hS, hl⟩ := hI
    refine lv_aload_n hx hb dX12_number_20 rfl (lv_at hl 0 rfl) ?_
    refine y_pV hF (s_X12_good l D t a v200_0 v200_5 v200_7 v200_8 v200_9 v200_10 v200_11 (y_2.1 0) (y_2.1 1) v200_15 v200_17 v200_18 v200_19 v200_21 v200_23 v200_27 v200_28 v200_29 v200_33 v200_34 v200_35 r200_5 r200_7 r200_8 r200_9 r200_23) m_1506 m_1508 m_s39 m_13 m_1509 hd_X12_good ⟨Nat.le_of_ble_eq_true rfl, Nat.le_of_ble_eq_true rfl⟩ hK hN hP hS [0] rfl 0 (ci := 12) rfl rfl rfl hl.1 rfl (Nat.le_of_ble_eq_true rfl) dX12_number_21 ⟨Nat.zero_le _, Nat.zero_le _⟩ (fun r_4 H locs hr_4 hP hS => ?_)
    refine lv_if_eq (tgt := 47) hx hb dX12_number_24 (by decide) (fun c_5 => ?_) (fun c_5 => ?_)
    · skip
      have h_6 : rg 0 0 r_4 := rg_eq c_5 (rg_c (x := 0) (k := 0) (by decide))
      refine lv_aload_n hx hb dX12_number_47 rfl (lv_at hl 0 rfl) ?_
      refine y_pV hF (s_X12_good l D t a v200_0 v200_5 v200_7 v200_8 v200_9 v200_10 v200_11 (y_2.1 0) (y_2.1 1) v200_15 v200_17 v200_18 v200_19 v200_21 v200_23 v200_27 v200_28 v200_29 v200_33 v200_34 v200_35 r200_5 r200_7 r200_8 r200_9 r200_23) m_1506 m_1508 m_s39 m_13 m_1509 hd_X12_good ⟨Nat.le_of_ble_eq_true rfl, Nat.le_of_ble_eq_true rfl⟩ hK hN hP hS [0] rfl 0 (ci := 12) rfl rfl rfl hl.1 rfl (Nat.le_of_ble_eq_true rfl) dX12_number_48 ⟨Nat.zero_le _, Nat.zero_le _⟩ (fun r_7 H locs hr_7 hP hS => ?_)
      refine lv_if_ne (tgt := 56) hx hb dX12_number_51 (by decide) (fun c_8 => ?_) (fun c_8 => ?_)
      · skip
        have h_9 : rg 1 1 r_7 := rg_w (rg_neL hr_7 c_8 (by decide)) (by decide) (by decide)
        refine lv_aload_n hx hb dX12_number_56 rfl (lv_at hl 0 rfl) ?_
        refine va_get (D := D) (ci := 12) (v := .int v200_11) (C := RX12) (T := TX12) (N := 40) hx hb hts iX12 hown hK hP 0 rfl rfl 11 (by decide) (hts _ m_1354) (fun _ h9 => h9) rfl dX12_number_57 ?_
        refine lv_istore_n (lv' := [(3, .int v200_11), (0, .ref (a 200)), (1, .int p0), (2, .int p1)]) hx hb dX12_number_60 rfl hl (by decide) rfl (fun ls hl => ?_)
        refine lv_aload_n hx hb dX12_number_61 rfl (lv_at hl 1 rfl) ?_
        refine y_wV (wr := []) hF (s_X12_advance l D t a v200_0 v200_5 v200_7 v200_8 v200_9 v200_10 v200_11 (y_2.1 0) (y_2.1 1) v200_15 v200_17 v200_18 v200_19 v200_21 v200_23 v200_27 v200_28 v200_29 v200_33 v200_34 v200_35 f204 r200_5 r200_7 r200_8 r200_9 r200_23 H.size) m_1492 m_1494 m_s37 m_13 m_1495 hd_X12_advance ⟨Nat.le_of_ble_eq_true rfl, Nat.le_of_ble_eq_true rfl⟩ hK hN hP hD hS hA 0 (ci := 12) rfl rfl rfl [0, 1] [] rfl rfl (by decide) (by decide) (by decide) hl.1 rfl (Nat.le_of_ble_eq_true rfl) dX12_number_62 ⟨Nat.zero_le _, Nat.zero_le _⟩ (fun u_10 H locs hu_10 hP hD hS => ?_)
        obtain ⟨h_12, h_13⟩ := hu_10
        have hP : va_P D classes [(a 200, .inr (12, .int v200_0 :: .ref (a 201) :: .ref (a 202) :: .ref (a 203) :: .ref (a 204) :: .int v200_5 :: .ref (a 205) :: .int v200_7 :: .int (u_10.1 0) :: .int (u_10.1 1) :: .int (u_10.1 2) :: .int (u_10.1 3) :: .int (y_2.1 0) :: .int (y_2.1 1) :: .ref (a 206) :: .int v200_15 :: .ref (a 207) :: .int v200_17 :: .int v200_18 :: .int v200_19 :: .ref (a 208) :: .int v200_21 :: .ref (a 209) :: .int v200_23 :: .ref (a 210) :: .ref (a 211) :: .ref (a 212) :: .int v200_27 :: .int v200_28 :: .int v200_29 :: .ref (a 213) :: .ref (a 214) :: .ref (a 215) :: .int v200_33 :: .int v200_34 :: .int v200_35 :: .ref (a 216) :: .ref (a 217) :: .ref (a 218) :: .ref (a 219) :: [])), (a 204, .inl (t 1, 1600, .inl f204))] H := hP
        have hD : va_D A [(a 200, .inr (12, .int v200_0 :: .ref (a 201) :: .ref (a 202) :: .ref (a 203) :: .ref (a 204) :: .int v200_5 :: .ref (a 205) :: .int v200_7 :: .int (u_10.1 0) :: .int (u_10.1 1) :: .int (u_10.1 2) :: .int (u_10.1 3) :: .int (y_2.1 0) :: .int (y_2.1 1) :: .ref (a 206) :: .int v200_15 :: .ref (a 207) :: .int v200_17 :: .int v200_18 :: .int v200_19 :: .ref (a 208) :: .int v200_21 :: .ref (a 209) :: .int v200_23 :: .ref (a 210) :: .ref (a 211) :: .ref (a 212) :: .int v200_27 :: .int v200_28 :: .int v200_29 :: .ref (a 213) :: .ref (a 214) :: .ref (a 215) :: .int v200_33 :: .int v200_34 :: .int v200_35 :: .ref (a 216) :: .ref (a 217) :: .ref (a 218) :: .ref (a 219) :: [])), (a 204, .inl (t 1, 1600, .inl f204))] := hD
        refine lv_iload_n hx hb dX12_number_65 rfl (lv_at hl 0 rfl) ?_
        have hP9 := hP.sub (ws' := [(a 200, .inr (12, .int v200_0 :: .ref (a 201) :: .ref (a 202) :: .ref (a 203) :: .ref (a 204) :: .int v200_5 :: .ref (a 205) :: .int v200_7 :: .int (u_10.1 0) :: .int (u_10.1 1) :: .int (u_10.1 2) :: .int (u_10.1 3) :: .int (y_2.1 0) :: .int (y_2.1 1) :: .ref (a 206) :: .int v200_15 :: .ref (a 207) :: .int v200_17 :: .int v200_18 :: .int v200_19 :: .ref (a 208) :: .int v200_21 :: .ref (a 209) :: .int v200_23 :: .ref (a 210) :: .ref (a 211) :: .ref (a 212) :: .int v200_27 :: .int v200_28 :: .int v200_29 :: .ref (a 213) :: .ref (a 214) :: .ref (a 215) :: .int v200_33 :: .int v200_34 :: .int v200_35 :: .ref (a 216) :: .ref (a 217) :: .ref (a 218) :: .ref (a 219) :: [])), (a 204, .inl (t 1, 1600, .inl f204))]) [0, 1] rfl
        have hD9 := hD.sub (ws' := [(a 200, .inr (12, .int v200_0 :: .ref (a 201) :: .ref (a 202) :: .ref (a 203) :: .ref (a 204) :: .int v200_5 :: .ref (a 205) :: .int v200_7 :: .int (u_10.1 0) :: .int (u_10.1 1) :: .int (u_10.1 2) :: .int (u_10.1 3) :: .int (y_2.1 0) :: .int (y_2.1 1) :: .ref (a 206) :: .int v200_15 :: .ref (a 207) :: .int v200_17 :: .int v200_18 :: .int v200_19 :: .ref (a 208) :: .int v200_21 :: .ref (a 209) :: .int v200_23 :: .ref (a 210) :: .ref (a 211) :: .ref (a 212) :: .int v200_27 :: .int v200_28 :: .int v200_29 :: .ref (a 213) :: .ref (a 214) :: .ref (a 215) :: .int v200_33 :: .int v200_34 :: .int v200_35 :: .ref (a 216) :: .ref (a 217) :: .ref (a 218) :: .ref (a 219) :: [])), (a 204, .inl (t 1, 1600, .inl f204))]) [0, 1] (by decide) rfl
        exact W.iret (v := v200_11) hx hb hr (fun t9 ht hW => ⟨⟨v200_11, (fun k => [(u_10.1 0), (u_10.1 1), (u_10.1 2), (u_10.1 3), (y_2.1 0), (y_2.1 1)].getD k 0, fun k => [].getD k (fun _ => 0), fun k => [].getD k (fun _ => 0), fun _ => 0), rfl, ⟨h_12, h_13⟩, by rw [ht]; exact hP9, hD9⟩, hS.F ht⟩) hS.2.2 dX12_number_66
      · skip
        have h_14 : rg 0 0 r_7 := rg_eq c_8 (rg_c (x := 0) (k := 0) (by decide))
        refine lv_iconst (v := 0) hx hb dX12_number_54 (by decide) ?_
        have hP9 := hP.sub (ws' := [(a 200, .inr (12, .int v200_0 :: .ref (a 201) :: .ref (a 202) :: .ref (a 203) :: .ref (a 204) :: .int v200_5 :: .ref (a 205) :: .int v200_7 :: .int v200_8 :: .int v200_9 :: .int v200_10 :: .int v200_11 :: .int (y_2.1 0) :: .int (y_2.1 1) :: .ref (a 206) :: .int v200_15 :: .ref (a 207) :: .int v200_17 :: .int v200_18 :: .int v200_19 :: .ref (a 208) :: .int v200_21 :: .ref (a 209) :: .int v200_23 :: .ref (a 210) :: .ref (a 211) :: .ref (a 212) :: .int v200_27 :: .int v200_28 :: .int v200_29 :: .ref (a 213) :: .ref (a 214) :: .ref (a 215) :: .int v200_33 :: .int v200_34 :: .int v200_35 :: .ref (a 216) :: .ref (a 217) :: .ref (a 218) :: .ref (a 219) :: [])), (a 204, .inl (t 1, 1600, .inl f204))]) [0, 1] rfl
        have hD9 := hD.sub (ws' := [(a 200, .inr (12, .int v200_0 :: .ref (a 201) :: .ref (a 202) :: .ref (a 203) :: .ref (a 204) :: .int v200_5 :: .ref (a 205) :: .int v200_7 :: .int v200_8 :: .int v200_9 :: .int v200_10 :: .int v200_11 :: .int (y_2.1 0) :: .int (y_2.1 1) :: .ref (a 206) :: .int v200_15 :: .ref (a 207) :: .int v200_17 :: .int v200_18 :: .int v200_19 :: .ref (a 208) :: .int v200_21 :: .ref (a 209) :: .int v200_23 :: .ref (a 210) :: .ref (a 211) :: .ref (a 212) :: .int v200_27 :: .int v200_28 :: .int v200_29 :: .ref (a 213) :: .ref (a 214) :: .ref (a 215) :: .int v200_33 :: .int v200_34 :: .int v200_35 :: .ref (a 216) :: .ref (a 217) :: .ref (a 218) :: .ref (a 219) :: [])), (a 204, .inl (t 1, 1600, .inl f204))]) [0, 1] (by decide) rfl
        exact W.iret (v := 0) hx hb hr (fun t9 ht hW => ⟨⟨0, (fun k => [v200_8, v200_9, v200_10, v200_11, (y_2.1 0), (y_2.1 1)].getD k 0, fun k => [].getD k (fun _ => 0), fun k => [].getD k (fun _ => 0), fun _ => 0), rfl, ⟨r200_8, r200_9⟩, by rw [ht]; exact hP9, hD9⟩, hS.F ht⟩) hS.2.2 dX12_number_55
    · skip
      have h_15 : rg 1 1 r_4 := rg_w (rg_neL hr_4 c_5 (by decide)) (by decide) (by decide)
      refine lv_aload_n hx hb dX12_number_27 rfl (lv_at hl 0 rfl) ?_
      refine va_get (D := D) (ci := 12) (v := .int v200_11) (C := RX12) (T := TX12) (N := 40) hx hb hts iX12 hown hK hP 0 rfl rfl 11 (by decide) (hts _ m_1354) (fun _ h9 => h9) rfl dX12_number_28 ?_
      refine lv_i2l hx hb dX12_number_31 rfl ?_
      refine lv_iload_n hx hb dX12_number_32 rfl (lv_at hl 1 rfl) ?_
      refine lv_i2l hx hb dX12_number_33 rfl ?_
      refine lv_iload_n hx hb dX12_number_34 rfl (lv_at hl 2 rfl) ?_
      refine lv_i2l hx hb dX12_number_35 rfl ?_
      refine y_pS hF (s_X12_in l D t a ((v200_11).toInt64) ((p0).toInt64) ((p1).toInt64)) m_1469 m_1470 m_13 m_1471 hd_X12_in ⟨Nat.le_of_ble_eq_true rfl, Nat.le_of_ble_eq_true rfl⟩ hK hN hP hS [] rfl hl.1 rfl (Nat.le_of_ble_eq_true rfl) dX12_number_36 ⟨Nat.zero_le _, Nat.zero_le _⟩ (fun r_16 H locs hr_16 hP hS => ?_)
      refine lv_if_ne (tgt := 47) hx hb dX12_number_39 (by decide) (fun c_17 => ?_) (fun c_17 => ?_)
      · skip
        have o_18 := Or.resolve_left hr_16.2 c_17
        refine lv_aload_n hx hb dX12_number_47 rfl (lv_at hl 0 rfl) ?_
        refine y_pV hF (s_X12_good l D t a v200_0 v200_5 v200_7 v200_8 v200_9 v200_10 v200_11 (y_2.1 0) (y_2.1 1) v200_15 v200_17 v200_18 v200_19 v200_21 v200_23 v200_27 v200_28 v200_29 v200_33 v200_34 v200_35 r200_5 r200_7 r200_8 r200_9 r200_23) m_1506 m_1508 m_s39 m_13 m_1509 hd_X12_good ⟨Nat.le_of_ble_eq_true rfl, Nat.le_of_ble_eq_true rfl⟩ hK hN hP hS [0] rfl 0 (ci := 12) rfl rfl rfl hl.1 rfl (Nat.le_of_ble_eq_true rfl) dX12_number_48 ⟨Nat.zero_le _, Nat.zero_le _⟩ (fun r_19 H locs hr_19 hP hS => ?_)
        refine lv_if_ne (tgt := 56) hx hb dX12_number_51 (by decide) (fun c_20 => ?_) (fun c_20 => ?_)
        · skip
          have h_21 : rg 1 1 r_19 := rg_w (rg_neL hr_19 c_20 (by decide)) (by decide) (by decide)
          refine lv_aload_n hx hb dX12_number_56 rfl (lv_at hl 0 rfl) ?_
          refine va_get (D := D) (ci := 12) (v := .int v200_11) (C := RX12) (T := TX12) (N := 40) hx hb hts iX12 hown hK hP 0 rfl rfl 11 (by decide) (hts _ m_1354) (fun _ h9 => h9) rfl dX12_number_57 ?_
          refine lv_istore_n (lv' := [(3, .int v200_11), (0, .ref (a 200)), (1, .int p0), (2, .int p1)]) hx hb dX12_number_60 rfl hl (by decide) rfl (fun ls hl => ?_)
          refine lv_aload_n hx hb dX12_number_61 rfl (lv_at hl 1 rfl) ?_
          refine y_wV (wr := []) hF (s_X12_advance l D t a v200_0 v200_5 v200_7 v200_8 v200_9 v200_10 v200_11 (y_2.1 0) (y_2.1 1) v200_15 v200_17 v200_18 v200_19 v200_21 v200_23 v200_27 v200_28 v200_29 v200_33 v200_34 v200_35 f204 r200_5 r200_7 r200_8 r200_9 r200_23 H.size) m_1492 m_1494 m_s37 m_13 m_1495 hd_X12_advance ⟨Nat.le_of_ble_eq_true rfl, Nat.le_of_ble_eq_true rfl⟩ hK hN hP hD hS hA 0 (ci := 12) rfl rfl rfl [0, 1] [] rfl rfl (by decide) (by decide) (by decide) hl.1 rfl (Nat.le_of_ble_eq_true rfl) dX12_number_62 ⟨Nat.zero_le _, Nat.zero_le _⟩ (fun u_22 H locs hu_22 hP hD hS => ?_)
          obtain ⟨h_24, h_25⟩ := hu_22
          have hP : va_P D classes [(a 200, .inr (12, .int v200_0 :: .ref (a 201) :: .ref (a 202) :: .ref (a 203) :: .ref (a 204) :: .int v200_5 :: .ref (a 205) :: .int v200_7 :: .int (u_22.1 0) :: .int (u_22.1 1) :: .int (u_22.1 2) :: .int (u_22.1 3) :: .int (y_2.1 0) :: .int (y_2.1 1) :: .ref (a 206) :: .int v200_15 :: .ref (a 207) :: .int v200_17 :: .int v200_18 :: .int v200_19 :: .ref (a 208) :: .int v200_21 :: .ref (a 209) :: .int v200_23 :: .ref (a 210) :: .ref (a 211) :: .ref (a 212) :: .int v200_27 :: .int v200_28 :: .int v200_29 :: .ref (a 213) :: .ref (a 214) :: .ref (a 215) :: .int v200_33 :: .int v200_34 :: .int v200_35 :: .ref (a 216) :: .ref (a 217) :: .ref (a 218) :: .ref (a 219) :: [])), (a 204, .inl (t 1, 1600, .inl f204))] H := hP
          have hD : va_D A [(a 200, .inr (12, .int v200_0 :: .ref (a 201) :: .ref (a 202) :: .ref (a 203) :: .ref (a 204) :: .int v200_5 :: .ref (a 205) :: .int v200_7 :: .int (u_22.1 0) :: .int (u_22.1 1) :: .int (u_22.1 2) :: .int (u_22.1 3) :: .int (y_2.1 0) :: .int (y_2.1 1) :: .ref (a 206) :: .int v200_15 :: .ref (a 207) :: .int v200_17 :: .int v200_18 :: .int v200_19 :: .ref (a 208) :: .int v200_21 :: .ref (a 209) :: .int v200_23 :: .ref (a 210) :: .ref (a 211) :: .ref (a 212) :: .int v200_27 :: .int v200_28 :: .int v200_29 :: .ref (a 213) :: .ref (a 214) :: .ref (a 215) :: .int v200_33 :: .int v200_34 :: .int v200_35 :: .ref (a 216) :: .ref (a 217) :: .ref (a 218) :: .ref (a 219) :: [])), (a 204, .inl (t 1, 1600, .inl f204))] := hD
          refine lv_iload_n hx hb dX12_number_65 rfl (lv_at hl 0 rfl) ?_
          have hP9 := hP.sub (ws' := [(a 200, .inr (12, .int v200_0 :: .ref (a 201) :: .ref (a 202) :: .ref (a 203) :: .ref (a 204) :: .int v200_5 :: .ref (a 205) :: .int v200_7 :: .int (u_22.1 0) :: .int (u_22.1 1) :: .int (u_22.1 2) :: .int (u_22.1 3) :: .int (y_2.1 0) :: .int (y_2.1 1) :: .ref (a 206) :: .int v200_15 :: .ref (a 207) :: .int v200_17 :: .int v200_18 :: .int v200_19 :: .ref (a 208) :: .int v200_21 :: .ref (a 209) :: .int v200_23 :: .ref (a 210) :: .ref (a 211) :: .ref (a 212) :: .int v200_27 :: .int v200_28 :: .int v200_29 :: .ref (a 213) :: .ref (a 214) :: .ref (a 215) :: .int v200_33 :: .int v200_34 :: .int v200_35 :: .ref (a 216) :: .ref (a 217) :: .ref (a 218) :: .ref (a 219) :: [])), (a 204, .inl (t 1, 1600, .inl f204))]) [0, 1] rfl
          have hD9 := hD.sub (ws' := [(a 200, .inr (12, .int v200_0 :: .ref (a 201) :: .ref (a 202) :: .ref (a 203) :: .ref (a 204) :: .int v200_5 :: .ref (a 205) :: .int v200_7 :: .int (u_22.1 0) :: .int (u_22.1 1) :: .int (u_22.1 2) :: .int (u_22.1 3) :: .int (y_2.1 0) :: .int (y_2.1 1) :: .ref (a 206) :: .int v200_15 :: .ref (a 207) :: .int v200_17 :: .int v200_18 :: .int v200_19 :: .ref (a 208) :: .int v200_21 :: .ref (a 209) :: .int v200_23 :: .ref (a 210) :: .ref (a 211) :: .ref (a 212) :: .int v200_27 :: .int v200_28 :: .int v200_29 :: .ref (a 213) :: .ref (a 214) :: .ref (a 215) :: .int v200_33 :: .int v200_34 :: .int v200_35 :: .ref (a 216) :: .ref (a 217) :: .ref (a 218) :: .ref (a 219) :: [])), (a 204, .inl (t 1, 1600, .inl f204))]) [0, 1] (by decide) rfl
          exact W.iret (v := v200_11) hx hb hr (fun t9 ht hW => ⟨⟨v200_11, (fun k => [(u_22.1 0), (u_22.1 1), (u_22.1 2), (u_22.1 3), (y_2.1 0), (y_2.1 1)].getD k 0, fun k => [].getD k (fun _ => 0), fun k => [].getD k (fun _ => 0), fun _ => 0), rfl, ⟨h_24, h_25⟩, by rw [ht]; exact hP9, hD9⟩, hS.F ht⟩) hS.2.2 dX12_number_66
        · skip
          have h_26 : rg 0 0 r_19 := rg_eq c_20 (rg_c (x := 0) (k := 0) (by decide))
          refine lv_iconst (v := 0) hx hb dX12_number_54 (by decide) ?_
          have hP9 := hP.sub (ws' := [(a 200, .inr (12, .int v200_0 :: .ref (a 201) :: .ref (a 202) :: .ref (a 203) :: .ref (a 204) :: .int v200_5 :: .ref (a 205) :: .int v200_7 :: .int v200_8 :: .int v200_9 :: .int v200_10 :: .int v200_11 :: .int (y_2.1 0) :: .int (y_2.1 1) :: .ref (a 206) :: .int v200_15 :: .ref (a 207) :: .int v200_17 :: .int v200_18 :: .int v200_19 :: .ref (a 208) :: .int v200_21 :: .ref (a 209) :: .int v200_23 :: .ref (a 210) :: .ref (a 211) :: .ref (a 212) :: .int v200_27 :: .int v200_28 :: .int v200_29 :: .ref (a 213) :: .ref (a 214) :: .ref (a 215) :: .int v200_33 :: .int v200_34 :: .int v200_35 :: .ref (a 216) :: .ref (a 217) :: .ref (a 218) :: .ref (a 219) :: [])), (a 204, .inl (t 1, 1600, .inl f204))]) [0, 1] rfl
          have hD9 := hD.sub (ws' := [(a 200, .inr (12, .int v200_0 :: .ref (a 201) :: .ref (a 202) :: .ref (a 203) :: .ref (a 204) :: .int v200_5 :: .ref (a 205) :: .int v200_7 :: .int v200_8 :: .int v200_9 :: .int v200_10 :: .int v200_11 :: .int (y_2.1 0) :: .int (y_2.1 1) :: .ref (a 206) :: .int v200_15 :: .ref (a 207) :: .int v200_17 :: .int v200_18 :: .int v200_19 :: .ref (a 208) :: .int v200_21 :: .ref (a 209) :: .int v200_23 :: .ref (a 210) :: .ref (a 211) :: .ref (a 212) :: .int v200_27 :: .int v200_28 :: .int v200_29 :: .ref (a 213) :: .ref (a 214) :: .ref (a 215) :: .int v200_33 :: .int v200_34 :: .int v200_35 :: .ref (a 216) :: .ref (a 217) :: .ref (a 218) :: .ref (a 219) :: [])), (a 204, .inl (t 1, 1600, .inl f204))]) [0, 1] (by decide) rfl
          exact W.iret (v := 0) hx hb hr (fun t9 ht hW => ⟨⟨0, (fun k => [v200_8, v200_9, v200_10, v200_11, (y_2.1 0), (y_2.1 1)].getD k 0, fun k => [].getD k (fun _ => 0), fun k => [].getD k (fun _ => 0), fun _ => 0), rfl, ⟨r200_8, r200_9⟩, by rw [ht]; exact hP9, hD9⟩, hS.F ht⟩) hS.2.2 dX12_number_55
      · skip
        refine lv_aload_n hx hb dX12_number_42 rfl (lv_at hl 0 rfl) ?_
        refine lv_iconst (v := 2) hx hb dX12_number_43 (by decide) ?_
        refine y_wV (wr := [(a 204, .inl (t 1, 1600, .inl f204))]) hF (s_X12_errs l D t a v200_0 v200_5 v200_7 v200_8 v200_9 v200_10 v200_11 (y_2.1 0) (y_2.1 1) v200_15 v200_17 v200_18 v200_19 v200_21 v200_23 v200_27 v200_28 v200_29 v200_33 v200_34 v200_35 2 r200_5 r200_7 r200_8 r200_9 r200_23 H.size) m_1533 m_1535 m_s45 m_13 m_1536 hd_X12_errs ⟨Nat.le_of_ble_eq_true rfl, Nat.le_of_ble_eq_true rfl⟩ hK hN hP hD hS hA 0 (ci := 12) rfl rfl rfl [0] [1] rfl rfl (by decide) (by decide) (by decide) hl.1 rfl (Nat.le_of_ble_eq_true rfl) dX12_number_44 ⟨Nat.zero_le _, Nat.zero_le _⟩ (fun u_27 H locs hu_27 hP hD hS => ?_)
        have hP : va_P D classes [(a 204, .inl (t 1, 1600, .inl f204)), (a 200, .inr (12, .int v200_0 :: .ref (a 201) :: .ref (a 202) :: .ref (a 203) :: .ref (a 204) :: .int v200_5 :: .ref (a 205) :: .int v200_7 :: .int v200_8 :: .int v200_9 :: .int v200_10 :: .int v200_11 :: .int (u_27.1 0) :: .int (u_27.1 1) :: .ref (a 206) :: .int v200_15 :: .ref (a 207) :: .int v200_17 :: .int v200_18 :: .int v200_19 :: .ref (a 208) :: .int v200_21 :: .ref (a 209) :: .int v200_23 :: .ref (a 210) :: .ref (a 211) :: .ref (a 212) :: .int v200_27 :: .int v200_28 :: .int v200_29 :: .ref (a 213) :: .ref (a 214) :: .ref (a 215) :: .int v200_33 :: .int v200_34 :: .int v200_35 :: .ref (a 216) :: .ref (a 217) :: .ref (a 218) :: .ref (a 219) :: []))] H := hP
        have hD : va_D A [(a 204, .inl (t 1, 1600, .inl f204)), (a 200, .inr (12, .int v200_0 :: .ref (a 201) :: .ref (a 202) :: .ref (a 203) :: .ref (a 204) :: .int v200_5 :: .ref (a 205) :: .int v200_7 :: .int v200_8 :: .int v200_9 :: .int v200_10 :: .int v200_11 :: .int (u_27.1 0) :: .int (u_27.1 1) :: .ref (a 206) :: .int v200_15 :: .ref (a 207) :: .int v200_17 :: .int v200_18 :: .int v200_19 :: .ref (a 208) :: .int v200_21 :: .ref (a 209) :: .int v200_23 :: .ref (a 210) :: .ref (a 211) :: .ref (a 212) :: .int v200_27 :: .int v200_28 :: .int v200_29 :: .ref (a 213) :: .ref (a 214) :: .ref (a 215) :: .int v200_33 :: .int v200_34 :: .int v200_35 :: .ref (a 216) :: .ref (a 217) :: .ref (a 218) :: .ref (a 219) :: []))] := hD
        refine lv_aload_n hx hb dX12_number_47 rfl (lv_at hl 0 rfl) ?_
        refine y_pV hF (s_X12_good l D t a v200_0 v200_5 v200_7 v200_8 v200_9 v200_10 v200_11 (u_27.1 0) (u_27.1 1) v200_15 v200_17 v200_18 v200_19 v200_21 v200_23 v200_27 v200_28 v200_29 v200_33 v200_34 v200_35 r200_5 r200_7 r200_8 r200_9 r200_23) m_1506 m_1508 m_s39 m_13 m_1509 hd_X12_good ⟨Nat.le_of_ble_eq_true rfl, Nat.le_of_ble_eq_true rfl⟩ hK hN hP hS [1] rfl 0 (ci := 12) rfl rfl rfl hl.1 rfl (Nat.le_of_ble_eq_true rfl) dX12_number_48 ⟨Nat.zero_le _, Nat.zero_le _⟩ (fun r_29 H locs hr_29 hP hS => ?_)
        refine lv_if_ne (tgt := 56) hx hb dX12_number_51 (by decide) (fun c_30 => ?_) (fun c_30 => ?_)
        · skip
          have h_31 : rg 1 1 r_29 := rg_w (rg_neL hr_29 c_30 (by decide)) (by decide) (by decide)
          refine lv_aload_n hx hb dX12_number_56 rfl (lv_at hl 0 rfl) ?_
          refine va_get (D := D) (ci := 12) (v := .int v200_11) (C := RX12) (T := TX12) (N := 40) hx hb hts iX12 hown hK hP 1 rfl rfl 11 (by decide) (hts _ m_1354) (fun _ h9 => h9) rfl dX12_number_57 ?_
          refine lv_istore_n (lv' := [(3, .int v200_11), (0, .ref (a 200)), (1, .int p0), (2, .int p1)]) hx hb dX12_number_60 rfl hl (by decide) rfl (fun ls hl => ?_)
          refine lv_aload_n hx hb dX12_number_61 rfl (lv_at hl 1 rfl) ?_
          refine y_wV (wr := []) hF (s_X12_advance l D t a v200_0 v200_5 v200_7 v200_8 v200_9 v200_10 v200_11 (u_27.1 0) (u_27.1 1) v200_15 v200_17 v200_18 v200_19 v200_21 v200_23 v200_27 v200_28 v200_29 v200_33 v200_34 v200_35 f204 r200_5 r200_7 r200_8 r200_9 r200_23 H.size) m_1492 m_1494 m_s37 m_13 m_1495 hd_X12_advance ⟨Nat.le_of_ble_eq_true rfl, Nat.le_of_ble_eq_true rfl⟩ hK hN hP hD hS hA 0 (ci := 12) rfl rfl rfl [1, 0] [] rfl rfl (by decide) (by decide) (by decide) hl.1 rfl (Nat.le_of_ble_eq_true rfl) dX12_number_62 ⟨Nat.zero_le _, Nat.zero_le _⟩ (fun u_32 H locs hu_32 hP hD hS => ?_)
          obtain ⟨h_34, h_35⟩ := hu_32
          have hP : va_P D classes [(a 200, .inr (12, .int v200_0 :: .ref (a 201) :: .ref (a 202) :: .ref (a 203) :: .ref (a 204) :: .int v200_5 :: .ref (a 205) :: .int v200_7 :: .int (u_32.1 0) :: .int (u_32.1 1) :: .int (u_32.1 2) :: .int (u_32.1 3) :: .int (u_27.1 0) :: .int (u_27.1 1) :: .ref (a 206) :: .int v200_15 :: .ref (a 207) :: .int v200_17 :: .int v200_18 :: .int v200_19 :: .ref (a 208) :: .int v200_21 :: .ref (a 209) :: .int v200_23 :: .ref (a 210) :: .ref (a 211) :: .ref (a 212) :: .int v200_27 :: .int v200_28 :: .int v200_29 :: .ref (a 213) :: .ref (a 214) :: .ref (a 215) :: .int v200_33 :: .int v200_34 :: .int v200_35 :: .ref (a 216) :: .ref (a 217) :: .ref (a 218) :: .ref (a 219) :: [])), (a 204, .inl (t 1, 1600, .inl f204))] H := hP
          have hD : va_D A [(a 200, .inr (12, .int v200_0 :: .ref (a 201) :: .ref (a 202) :: .ref (a 203) :: .ref (a 204) :: .int v200_5 :: .ref (a 205) :: .int v200_7 :: .int (u_32.1 0) :: .int (u_32.1 1) :: .int (u_32.1 2) :: .int (u_32.1 3) :: .int (u_27.1 0) :: .int (u_27.1 1) :: .ref (a 206) :: .int v200_15 :: .ref (a 207) :: .int v200_17 :: .int v200_18 :: .int v200_19 :: .ref (a 208) :: .int v200_21 :: .ref (a 209) :: .int v200_23 :: .ref (a 210) :: .ref (a 211) :: .ref (a 212) :: .int v200_27 :: .int v200_28 :: .int v200_29 :: .ref (a 213) :: .ref (a 214) :: .ref (a 215) :: .int v200_33 :: .int v200_34 :: .int v200_35 :: .ref (a 216) :: .ref (a 217) :: .ref (a 218) :: .ref (a 219) :: [])), (a 204, .inl (t 1, 1600, .inl f204))] := hD
          refine lv_iload_n hx hb dX12_number_65 rfl (lv_at hl 0 rfl) ?_
          have hP9 := hP.sub (ws' := [(a 200, .inr (12, .int v200_0 :: .ref (a 201) :: .ref (a 202) :: .ref (a 203) :: .ref (a 204) :: .int v200_5 :: .ref (a 205) :: .int v200_7 :: .int (u_32.1 0) :: .int (u_32.1 1) :: .int (u_32.1 2) :: .int (u_32.1 3) :: .int (u_27.1 0) :: .int (u_27.1 1) :: .ref (a 206) :: .int v200_15 :: .ref (a 207) :: .int v200_17 :: .int v200_18 :: .int v200_19 :: .ref (a 208) :: .int v200_21 :: .ref (a 209) :: .int v200_23 :: .ref (a 210) :: .ref (a 211) :: .ref (a 212) :: .int v200_27 :: .int v200_28 :: .int v200_29 :: .ref (a 213) :: .ref (a 214) :: .ref (a 215) :: .int v200_33 :: .int v200_34 :: .int v200_35 :: .ref (a 216) :: .ref (a 217) :: .ref (a 218) :: .ref (a 219) :: [])), (a 204, .inl (t 1, 1600, .inl f204))]) [0, 1] rfl
          have hD9 := hD.sub (ws' := [(a 200, .inr (12, .int v200_0 :: .ref (a 201) :: .ref (a 202) :: .ref (a 203) :: .ref (a 204) :: .int v200_5 :: .ref (a 205) :: .int v200_7 :: .int (u_32.1 0) :: .int (u_32.1 1) :: .int (u_32.1 2) :: .int (u_32.1 3) :: .int (u_27.1 0) :: .int (u_27.1 1) :: .ref (a 206) :: .int v200_15 :: .ref (a 207) :: .int v200_17 :: .int v200_18 :: .int v200_19 :: .ref (a 208) :: .int v200_21 :: .ref (a 209) :: .int v200_23 :: .ref (a 210) :: .ref (a 211) :: .ref (a 212) :: .int v200_27 :: .int v200_28 :: .int v200_29 :: .ref (a 213) :: .ref (a 214) :: .ref (a 215) :: .int v200_33 :: .int v200_34 :: .int v200_35 :: .ref (a 216) :: .ref (a 217) :: .ref (a 218) :: .ref (a 219) :: [])), (a 204, .inl (t 1, 1600, .inl f204))]) [0, 1] (by decide) rfl
          exact W.iret (v := v200_11) hx hb hr (fun t9 ht hW => ⟨⟨v200_11, (fun k => [(u_32.1 0), (u_32.1 1), (u_32.1 2), (u_32.1 3), (u_27.1 0), (u_27.1 1)].getD k 0, fun k => [].getD k (fun _ => 0), fun k => [].getD k (fun _ => 0), fun _ => 0), rfl, ⟨h_34, h_35⟩, by rw [ht]; exact hP9, hD9⟩, hS.F ht⟩) hS.2.2 dX12_number_66
        · skip
          have h_36 : rg 0 0 r_29 := rg_eq c_30 (rg_c (x := 0) (k := 0) (by decide))
          refine lv_iconst (v := 0) hx hb dX12_number_54 (by decide) ?_
          have hP9 := hP.sub (ws' := [(a 200, .inr (12, .int v200_0 :: .ref (a 201) :: .ref (a 202) :: .ref (a 203) :: .ref (a 204) :: .int v200_5 :: .ref (a 205) :: .int v200_7 :: .int v200_8 :: .int v200_9 :: .int v200_10 :: .int v200_11 :: .int (u_27.1 0) :: .int (u_27.1 1) :: .ref (a 206) :: .int v200_15 :: .ref (a 207) :: .int v200_17 :: .int v200_18 :: .int v200_19 :: .ref (a 208) :: .int v200_21 :: .ref (a 209) :: .int v200_23 :: .ref (a 210) :: .ref (a 211) :: .ref (a 212) :: .int v200_27 :: .int v200_28 :: .int v200_29 :: .ref (a 213) :: .ref (a 214) :: .ref (a 215) :: .int v200_33 :: .int v200_34 :: .int v200_35 :: .ref (a 216) :: .ref (a 217) :: .ref (a 218) :: .ref (a 219) :: [])), (a 204, .inl (t 1, 1600, .inl f204))]) [1, 0] rfl
          have hD9 := hD.sub (ws' := [(a 200, .inr (12, .int v200_0 :: .ref (a 201) :: .ref (a 202) :: .ref (a 203) :: .ref (a 204) :: .int v200_5 :: .ref (a 205) :: .int v200_7 :: .int v200_8 :: .int v200_9 :: .int v200_10 :: .int v200_11 :: .int (u_27.1 0) :: .int (u_27.1 1) :: .ref (a 206) :: .int v200_15 :: .ref (a 207) :: .int v200_17 :: .int v200_18 :: .int v200_19 :: .ref (a 208) :: .int v200_21 :: .ref (a 209) :: .int v200_23 :: .ref (a 210) :: .ref (a 211) :: .ref (a 212) :: .int v200_27 :: .int v200_28 :: .int v200_29 :: .ref (a 213) :: .ref (a 214) :: .ref (a 215) :: .int v200_33 :: .int v200_34 :: .int v200_35 :: .ref (a 216) :: .ref (a 217) :: .ref (a 218) :: .ref (a 219) :: [])), (a 204, .inl (t 1, 1600, .inl f204))]) [1, 0] (by decide) rfl
          exact W.iret (v := 0) hx hb hr (fun t9 ht hW => ⟨⟨0, (fun k => [v200_8, v200_9, v200_10, v200_11, (u_27.1 0), (u_27.1 1)].getD k 0, fun k => [].getD k (fun _ => 0), fun k => [].getD k (fun _ => 0), fun _ => 0), rfl, ⟨r200_8, r200_9⟩, by rw [ht]; exact hP9, hD9⟩, hS.F ht⟩) hS.2.2 dX12_number_55
  · refine lv_if_eq (tgt := 20) hx hb dX12_number_4 (by decide) (fun c_37 => ?_) (fun c_37 => ?_)
    · skip
      have h_38 : rg 0 0 r_1 := rg_eq c_37 (rg_c (x := 0) (k := 0) (by decide))
      exact K_3 (fun k => [v200_12, v200_13].getD k 0, fun k => [].getD k (fun _ => 0), fun k => [].getD k (fun _ => 0), fun k => [].getD k 0) _ _ ls ⟨hP, hD, hS, (lv_sub hl [0, 1, 2] rfl)⟩
    · skip
      have h_39 : rg 1 1 r_1 := rg_w (rg_neL hr_1 c_37 (by decide)) (by decide) (by decide)
      refine lv_aload_n hx hb dX12_number_7 rfl (lv_at hl 0 rfl) ?_
      refine va_get (D := D) (ci := 12) (v := .int v200_10) (C := RX12) (T := TX12) (N := 40) hx hb hts iX12 hown hK hP 0 rfl rfl 10 (by decide) (hts _ m_1353) (fun _ h9 => h9) rfl dX12_number_8 ?_
      refine lv_iconst (v := 2) hx hb dX12_number_11 (by decide) ?_
      refine lv_icmp_eq (tgt := 20) hx hb dX12_number_12 (by decide) (fun c_40 => ?_) (fun c_40 => ?_)
      · skip
        have h_41 : rg 2 2 v200_10 := rg_eq c_40 (rg_c (x := 2) (k := 2) (by decide))
        exact K_3 (fun k => [v200_12, v200_13].getD k 0, fun k => [].getD k (fun _ => 0), fun k => [].getD k (fun _ => 0), fun k => [].getD k 0) _ _ ls ⟨hP, hD, hS, (lv_sub hl [0, 1, 2] rfl)⟩
      · skip
        refine lv_aload_n hx hb dX12_number_15 rfl (lv_at hl 0 rfl) ?_
        refine lv_iconst (v := 1) hx hb dX12_number_16 (by decide) ?_
        refine y_wV (wr := [(a 204, .inl (t 1, 1600, .inl f204))]) hF (s_X12_errs l D t a v200_0 v200_5 v200_7 v200_8 v200_9 v200_10 v200_11 v200_12 v200_13 v200_15 v200_17 v200_18 v200_19 v200_21 v200_23 v200_27 v200_28 v200_29 v200_33 v200_34 v200_35 1 r200_5 r200_7 r200_8 r200_9 r200_23 H.size) m_1533 m_1535 m_s45 m_13 m_1536 hd_X12_errs ⟨Nat.le_of_ble_eq_true rfl, Nat.le_of_ble_eq_true rfl⟩ hK hN hP hD hS hA 0 (ci := 12) rfl rfl rfl [0] [1] rfl rfl (by decide) (by decide) (by decide) hl.1 rfl (Nat.le_of_ble_eq_true rfl) dX12_number_17 ⟨Nat.zero_le _, Nat.zero_le _⟩ (fun u_42 H locs hu_42 hP hD hS => ?_)
        have hP : va_P D classes [(a 204, .inl (t 1, 1600, .inl f204)), (a 200, .inr (12, .int v200_0 :: .ref (a 201) :: .ref (a 202) :: .ref (a 203) :: .ref (a 204) :: .int v200_5 :: .ref (a 205) :: .int v200_7 :: .int v200_8 :: .int v200_9 :: .int v200_10 :: .int v200_11 :: .int (u_42.1 0) :: .int (u_42.1 1) :: .ref (a 206) :: .int v200_15 :: .ref (a 207) :: .int v200_17 :: .int v200_18 :: .int v200_19 :: .ref (a 208) :: .int v200_21 :: .ref (a 209) :: .int v200_23 :: .ref (a 210) :: .ref (a 211) :: .ref (a 212) :: .int v200_27 :: .int v200_28 :: .int v200_29 :: .ref (a 213) :: .ref (a 214) :: .ref (a 215) :: .int v200_33 :: .int v200_34 :: .int v200_35 :: .ref (a 216) :: .ref (a 217) :: .ref (a 218) :: .ref (a 219) :: []))] H := hP
        have hD : va_D A [(a 204, .inl (t 1, 1600, .inl f204)), (a 200, .inr (12, .int v200_0 :: .ref (a 201) :: .ref (a 202) :: .ref (a 203) :: .ref (a 204) :: .int v200_5 :: .ref (a 205) :: .int v200_7 :: .int v200_8 :: .int v200_9 :: .int v200_10 :: .int v200_11 :: .int (u_42.1 0) :: .int (u_42.1 1) :: .ref (a 206) :: .int v200_15 :: .ref (a 207) :: .int v200_17 :: .int v200_18 :: .int v200_19 :: .ref (a 208) :: .int v200_21 :: .ref (a 209) :: .int v200_23 :: .ref (a 210) :: .ref (a 211) :: .ref (a 212) :: .int v200_27 :: .int v200_28 :: .int v200_29 :: .ref (a 213) :: .ref (a 214) :: .ref (a 215) :: .int v200_33 :: .int v200_34 :: .int v200_35 :: .ref (a 216) :: .ref (a 217) :: .ref (a 218) :: .ref (a 219) :: []))] := hD
        exact K_3 (fun k => [(u_42.1 0), (u_42.1 1)].getD k 0, fun k => [].getD k (fun _ => 0), fun k => [].getD k (fun _ => 0), fun k => [].getD k 0) _ _ ls ⟨(hP.sub [1, 0] rfl), (hD.sub [1, 0] (by decide) rfl), hS, (lv_sub hl [0, 1, 2] rfl)⟩

set_option maxHeartbeats 4000000 in
set_option maxRecDepth 100000 in
theorem s_X12_asItIs (l : Launch) (D : va_G) (t : Nat → ClassId) (a : Nat → Nat) (v200_0 : Int32) (v200_5 : Int32) (v200_7 : Int32) (v200_8 : Int32) (v200_9 : Int32) (v200_10 : Int32) (v200_11 : Int32) (v200_12 : Int32) (v200_13 : Int32) (v200_15 : Int32) (v200_17 : Int32) (v200_18 : Int32) (v200_19 : Int32) (v200_21 : Int32) (v200_23 : Int32) (v200_27 : Int32) (v200_28 : Int32) (v200_29 : Int32) (v200_33 : Int32) (v200_34 : Int32) (v200_35 : Int32) (f201 : Nat → Int32) (f207 : Nat → Int32) (r200_5 : rg 0 1600 v200_5) (r200_7 : rg 0 1600 v200_7) (r200_8 : rg 0 1600 v200_8) (r200_9 : rg 0 1600 v200_9) (r200_23 : rg 0 9 v200_23) (q201 : wR f201) (sz : Nat) : Met l yX12_asItIs (wd yX12_asItIs cX12_asItIs 2 none) (RM 2 0 0) (PreW D (TY t) [.ref (a 200)] [(a 200, .inr (12, .int v200_0 :: .ref (a 201) :: .ref (a 202) :: .ref (a 203) :: .ref (a 204) :: .int v200_5 :: .ref (a 205) :: .int v200_7 :: .int v200_8 :: .int v200_9 :: .int v200_10 :: .int v200_11 :: .int v200_12 :: .int v200_13 :: .ref (a 206) :: .int v200_15 :: .ref (a 207) :: .int v200_17 :: .int v200_18 :: .int v200_19 :: .ref (a 208) :: .int v200_21 :: .ref (a 209) :: .int v200_23 :: .ref (a 210) :: .ref (a 211) :: .ref (a 212) :: .int v200_27 :: .int v200_28 :: .int v200_29 :: .ref (a 213) :: .ref (a 214) :: .ref (a 215) :: .int v200_33 :: .int v200_34 :: .int v200_35 :: .ref (a 216) :: .ref (a 217) :: .ref (a 218) :: .ref (a 219) :: [])), (a 201, .inl (t 0, 841, .inl f201)), (a 207, .inl (t 0, 9, .inl f207))] sz) (va_Qv (fun (_ : US) => True) (fun (u : US) t9 => va_P D classes ((fun u : US => [(a 200, .inr (12, .int v200_0 :: .ref (a 201) :: .ref (a 202) :: .ref (a 203) :: .ref (a 204) :: .int v200_5 :: .ref (a 205) :: .int v200_7 :: .int v200_8 :: .int v200_9 :: .int v200_10 :: .int v200_11 :: .int v200_12 :: .int v200_13 :: .ref (a 206) :: .int (u.1 0) :: .ref (a 207) :: .int (u.1 1) :: .int (u.1 2) :: .int v200_19 :: .ref (a 208) :: .int v200_21 :: .ref (a 209) :: .int v200_23 :: .ref (a 210) :: .ref (a 211) :: .ref (a 212) :: .int v200_27 :: .int v200_28 :: .int v200_29 :: .ref (a 213) :: .ref (a 214) :: .ref (a 215) :: .int v200_33 :: .int v200_34 :: .int v200_35 :: .ref (a 216) :: .ref (a 217) :: .ref (a 218) :: .ref (a 219) :: [])), (a 201, .inl (t 0, 841, .inl f201)), (a 207, .inl (t 0, 9, .inl (u.2.1 0)))]) u) t9.heap ∧ va_D (va_A [(a 200, .inr (12, .int v200_0 :: .ref (a 201) :: .ref (a 202) :: .ref (a 203) :: .ref (a 204) :: .int v200_5 :: .ref (a 205) :: .int v200_7 :: .int v200_8 :: .int v200_9 :: .int v200_10 :: .int v200_11 :: .int v200_12 :: .int v200_13 :: .ref (a 206) :: .int v200_15 :: .ref (a 207) :: .int v200_17 :: .int v200_18 :: .int v200_19 :: .ref (a 208) :: .int v200_21 :: .ref (a 209) :: .int v200_23 :: .ref (a 210) :: .ref (a 211) :: .ref (a 212) :: .int v200_27 :: .int v200_28 :: .int v200_29 :: .ref (a 213) :: .ref (a 214) :: .ref (a 215) :: .int v200_33 :: .int v200_34 :: .int v200_35 :: .ref (a 216) :: .ref (a 217) :: .ref (a 218) :: .ref (a 219) :: [])), (a 201, .inl (t 0, 841, .inl f201)), (a 207, .inl (t 0, 9, .inl f207))] sz) ((fun u : US => [(a 200, .inr (12, .int v200_0 :: .ref (a 201) :: .ref (a 202) :: .ref (a 203) :: .ref (a 204) :: .int v200_5 :: .ref (a 205) :: .int v200_7 :: .int v200_8 :: .int v200_9 :: .int v200_10 :: .int v200_11 :: .int v200_12 :: .int v200_13 :: .ref (a 206) :: .int (u.1 0) :: .ref (a 207) :: .int (u.1 1) :: .int (u.1 2) :: .int v200_19 :: .ref (a 208) :: .int v200_21 :: .ref (a 209) :: .int v200_23 :: .ref (a 210) :: .ref (a 211) :: .ref (a 212) :: .int v200_27 :: .int v200_28 :: .int v200_29 :: .ref (a 213) :: .ref (a 214) :: .ref (a 215) :: .int v200_33 :: .int v200_34 :: .int v200_35 :: .ref (a 216) :: .ref (a 217) :: .ref (a 218) :: .ref (a 219) :: [])), (a 201, .inl (t 0, 841, .inl f201)), (a 207, .inl (t 0, 9, .inl (u.2.1 0)))]) u)) (va_A [(a 200, .inr (12, .int v200_0 :: .ref (a 201) :: .ref (a 202) :: .ref (a 203) :: .ref (a 204) :: .int v200_5 :: .ref (a 205) :: .int v200_7 :: .int v200_8 :: .int v200_9 :: .int v200_10 :: .int v200_11 :: .int v200_12 :: .int v200_13 :: .ref (a 206) :: .int v200_15 :: .ref (a 207) :: .int v200_17 :: .int v200_18 :: .int v200_19 :: .ref (a 208) :: .int v200_21 :: .ref (a 209) :: .int v200_23 :: .ref (a 210) :: .ref (a 211) :: .ref (a 212) :: .int v200_27 :: .int v200_28 :: .int v200_29 :: .ref (a 213) :: .ref (a 214) :: .ref (a 215) :: .int v200_33 :: .int v200_34 :: .int v200_35 :: .ref (a 216) :: .ref (a 217) :: .ref (a 218) :: .ref (a 219) :: [])), (a 201, .inl (t 0, 841, .inl f201)), (a 207, .inl (t 0, 9, .inl f207))] sz)) 0 0 (va_A [(a 200, .inr (12, .int v200_0 :: .ref (a 201) :: .ref (a 202) :: .ref (a 203) :: .ref (a 204) :: .int v200_5 :: .ref (a 205) :: .int v200_7 :: .int v200_8 :: .int v200_9 :: .int v200_10 :: .int v200_11 :: .int v200_12 :: .int v200_13 :: .ref (a 206) :: .int v200_15 :: .ref (a 207) :: .int v200_17 :: .int v200_18 :: .int v200_19 :: .ref (a 208) :: .int v200_21 :: .ref (a 209) :: .int v200_23 :: .ref (a 210) :: .ref (a 211) :: .ref (a 212) :: .int v200_27 :: .int v200_28 :: .int v200_29 :: .ref (a 213) :: .ref (a 214) :: .ref (a 215) :: .int v200_33 :: .int v200_34 :: .int v200_35 :: .ref (a 216) :: .ref (a 217) :: .ref (a 218) :: .ref (a 219) :: [])), (a 201, .inl (t 0, 841, .inl f201)), (a 207, .inl (t 0, 9, .inl f207))] sz) := by
  refine Met.ofW (cc := cX12_asItIs) (maxL := 2) (ret := none) (by decide) rfl ?_
  intro p e s m args below meth c s₁ B hml hv
  obtain ⟨rfl, hsz, hP, hK, hD0, hN⟩ := hv
  have hx := B.exec
  have hb := B.bytes
  have hr := B.returns
  have hts : ∀ w ∈ TB, w.before _ s = true := fun w h => atoms_spec (ws := wd yX12_asItIs cX12_asItIs 2 none) B.pre w (List.mem_cons_of_mem _ h)
  have hown : s.vm.findClass RX12 = some m.cls := findClass_of_methodNamed B.named
  have hlocks := B.notSynchronized
  have hF : CallFix p m c cX12_asItIs 2 s _ TB RX12 := ⟨hx, hb, hml, hown, hts⟩
  have hl := lv_entry ([.ref (a 200)]) (n := 2) (Nat.le_of_ble_eq_true rfl)
  rw [lg_entry_eq]
  generalize (lg_sl ([.ref (a 200)]) ++ List.replicate (2 - (lg_sl ([.ref (a 200)])).length) Slot.unset).toArray = ls at hl ⊢
  have hl : lv_has ls 2 [(0, .ref (a 200))] := hl
  subst hsz
  have hD := hD0.self (sz := s.heap.size)
  generalize hAe : va_A [(a 200, .inr (12, .int v200_0 :: .ref (a 201) :: .ref (a 202) :: .ref (a 203) :: .ref (a 204) :: .int v200_5 :: .ref (a 205) :: .int v200_7 :: .int v200_8 :: .int v200_9 :: .int v200_10 :: .int v200_11 :: .int v200_12 :: .int v200_13 :: .ref (a 206) :: .int v200_15 :: .ref (a 207) :: .int v200_17 :: .int v200_18 :: .int v200_19 :: .ref (a 208) :: .int v200_21 :: .ref (a 209) :: .int v200_23 :: .ref (a 210) :: .ref (a 211) :: .ref (a 212) :: .int v200_27 :: .int v200_28 :: .int v200_29 :: .ref (a 213) :: .ref (a 214) :: .ref (a 215) :: .int v200_33 :: .int v200_34 :: .int v200_35 :: .ref (a 216) :: .ref (a 217) :: .ref (a 218) :: .ref (a 219) :: [])), (a 201, .inl (t 0, 841, .inl f201)), (a 207, .inl (t 0, 9, .inl f207))] s.heap.size = A at hD ⊢
  have hA : ∀ q : Nat, s.heap.size ≤ q → A q := fun q h => by rw [← hAe]; exact Or.inr h
  have hS : va_S A s.heap s.heap [] := va_S.rf
  have hP : va_P D classes [(a 200, .inr (12, .int v200_0 :: .ref (a 201) :: .ref (a 202) :: .ref (a 203) :: .ref (a 204) :: .int v200_5 :: .ref (a 205) :: .int v200_7 :: .int v200_8 :: .int v200_9 :: .int v200_10 :: .int v200_11 :: .int v200_12 :: .int v200_13 :: .ref (a 206) :: .int v200_15 :: .ref (a 207) :: .int v200_17 :: .int v200_18 :: .int v200_19 :: .ref (a 208) :: .int v200_21 :: .ref (a 209) :: .int v200_23 :: .ref (a 210) :: .ref (a 211) :: .ref (a 212) :: .int v200_27 :: .int v200_28 :: .int v200_29 :: .ref (a 213) :: .ref (a 214) :: .ref (a 215) :: .int v200_33 :: .int v200_34 :: .int v200_35 :: .ref (a 216) :: .ref (a 217) :: .ref (a 218) :: .ref (a 219) :: [])), (a 201, .inl (t 0, 841, .inl f201)), (a 207, .inl (t 0, 9, .inl f207))] s.heap := hP
  refine lv_aload_n hx hb dX12_asItIs_0 rfl (lv_at hl 0 rfl) ?_
  refine lv_aload_n hx hb dX12_asItIs_1 rfl (lv_at hl 0 rfl) ?_
  refine y_pV hF (s_X12_living l D t a v200_0 v200_5 v200_7 v200_8 v200_9 v200_10 v200_11 v200_12 v200_13 v200_15 v200_17 v200_18 v200_19 v200_21 v200_23 v200_27 v200_28 v200_29 v200_33 v200_34 v200_35 f201 r200_5 r200_7 r200_8 r200_9 r200_23 q201) m_1644 m_1646 m_s63 m_13 m_1647 hd_X12_living ⟨Nat.le_of_ble_eq_true rfl, Nat.le_of_ble_eq_true rfl⟩ hK hN hP hS [0, 1] rfl 0 (ci := 12) rfl rfl rfl hl.1 rfl (Nat.le_of_ble_eq_true rfl) dX12_asItIs_2 ⟨Nat.zero_le _, Nat.zero_le _⟩ (fun r_1 H locs hr_1 hP hS => ?_)
  refine va_put (D := D) (ci := 12) (v := .int r_1) (ty := .int) (C := RX12) (T := TX12) (N := 40) hx hb hts iX12 tyX12 tyX12_ok nmX12 hown hK hP hD hS 0 rfl rfl 15 (by decide) (hts _ m_1358) (fun _ h9 => h9) rfl (tyX12_ok 15 (by decide)) rfl rfl (Nat.le_of_ble_eq_true rfl) dX12_asItIs_5 (fun H locs hP hD hS => ?_)
  have hP : va_P D classes [(a 200, .inr (12, .int v200_0 :: .ref (a 201) :: .ref (a 202) :: .ref (a 203) :: .ref (a 204) :: .int v200_5 :: .ref (a 205) :: .int v200_7 :: .int v200_8 :: .int v200_9 :: .int v200_10 :: .int v200_11 :: .int v200_12 :: .int v200_13 :: .ref (a 206) :: .int r_1 :: .ref (a 207) :: .int v200_17 :: .int v200_18 :: .int v200_19 :: .ref (a 208) :: .int v200_21 :: .ref (a 209) :: .int v200_23 :: .ref (a 210) :: .ref (a 211) :: .ref (a 212) :: .int v200_27 :: .int v200_28 :: .int v200_29 :: .ref (a 213) :: .ref (a 214) :: .ref (a 215) :: .int v200_33 :: .int v200_34 :: .int v200_35 :: .ref (a 216) :: .ref (a 217) :: .ref (a 218) :: .ref (a 219) :: [])), (a 201, .inl (t 0, 841, .inl f201)), (a 207, .inl (t 0, 9, .inl f207))] H := hP
  have hD : va_D A [(a 200, .inr (12, .int v200_0 :: .ref (a 201) :: .ref (a 202) :: .ref (a 203) :: .ref (a 204) :: .int v200_5 :: .ref (a 205) :: .int v200_7 :: .int v200_8 :: .int v200_9 :: .int v200_10 :: .int v200_11 :: .int v200_12 :: .int v200_13 :: .ref (a 206) :: .int r_1 :: .ref (a 207) :: .int v200_17 :: .int v200_18 :: .int v200_19 :: .ref (a 208) :: .int v200_21 :: .ref (a 209) :: .int v200_23 :: .ref (a 210) :: .ref (a 211) :: .ref (a 212) :: .int v200_27 :: .int v200_28 :: .int v200_29 :: .ref (a 213) :: .ref (a 214) :: .ref (a 215) :: .int v200_33 :: .int v200_34 :: .int v200_35 :: .ref (a 216) :: .ref (a 217) :: .ref (a 218) :: .ref (a 219) :: [])), (a 201, .inl (t 0, 841, .inl f201)), (a 207, .inl (t 0, 9, .inl f207))] := hD
  refine lv_aload_n hx hb dX12_asItIs_8 rfl (lv_at hl 0 rfl) ?_
  refine lv_sipush (v := 511) hx hb dX12_asItIs_9 (by decide) ?_
  refine va_put (D := D) (ci := 12) (v := .int 511) (ty := .int) (C := RX12) (T := TX12) (N := 40) hx hb hts iX12 tyX12 tyX12_ok nmX12 hown hK hP hD hS 0 rfl rfl 17 (by decide) (hts _ m_1360) (fun _ h9 => h9) rfl (tyX12_ok 17 (by decide)) rfl rfl (Nat.le_of_ble_eq_true rfl) dX12_asItIs_12 (fun H locs hP hD hS => ?_)
  have hP : va_P D classes [(a 200, .inr (12, .int v200_0 :: .ref (a 201) :: .ref (a 202) :: .ref (a 203) :: .ref (a 204) :: .int v200_5 :: .ref (a 205) :: .int v200_7 :: .int v200_8 :: .int v200_9 :: .int v200_10 :: .int v200_11 :: .int v200_12 :: .int v200_13 :: .ref (a 206) :: .int r_1 :: .ref (a 207) :: .int 511 :: .int v200_18 :: .int v200_19 :: .ref (a 208) :: .int v200_21 :: .ref (a 209) :: .int v200_23 :: .ref (a 210) :: .ref (a 211) :: .ref (a 212) :: .int v200_27 :: .int v200_28 :: .int v200_29 :: .ref (a 213) :: .ref (a 214) :: .ref (a 215) :: .int v200_33 :: .int v200_34 :: .int v200_35 :: .ref (a 216) :: .ref (a 217) :: .ref (a 218) :: .ref (a 219) :: [])), (a 201, .inl (t 0, 841, .inl f201)), (a 207, .inl (t 0, 9, .inl f207))] H := hP
  have hD : va_D A [(a 200, .inr (12, .int v200_0 :: .ref (a 201) :: .ref (a 202) :: .ref (a 203) :: .ref (a 204) :: .int v200_5 :: .ref (a 205) :: .int v200_7 :: .int v200_8 :: .int v200_9 :: .int v200_10 :: .int v200_11 :: .int v200_12 :: .int v200_13 :: .ref (a 206) :: .int r_1 :: .ref (a 207) :: .int 511 :: .int v200_18 :: .int v200_19 :: .ref (a 208) :: .int v200_21 :: .ref (a 209) :: .int v200_23 :: .ref (a 210) :: .ref (a 211) :: .ref (a 212) :: .int v200_27 :: .int v200_28 :: .int v200_29 :: .ref (a 213) :: .ref (a 214) :: .ref (a 215) :: .int v200_33 :: .int v200_34 :: .int v200_35 :: .ref (a 216) :: .ref (a 217) :: .ref (a 218) :: .ref (a 219) :: [])), (a 201, .inl (t 0, 841, .inl f201)), (a 207, .inl (t 0, 9, .inl f207))] := hD
  refine lv_aload_n hx hb dX12_asItIs_15 rfl (lv_at hl 0 rfl) ?_
  refine lv_iconst (v := (-1)) hx hb dX12_asItIs_16 (by decide) ?_
  refine va_put (D := D) (ci := 12) (v := .int (-1)) (ty := .int) (C := RX12) (T := TX12) (N := 40) hx hb hts iX12 tyX12 tyX12_ok nmX12 hown hK hP hD hS 0 rfl rfl 18 (by decide) (hts _ m_1361) (fun _ h9 => h9) rfl (tyX12_ok 18 (by decide)) rfl rfl (Nat.le_of_ble_eq_true rfl) dX12_asItIs_17 (fun H locs hP hD hS => ?_)
  have hP : va_P D classes [(a 200, .inr (12, .int v200_0 :: .ref (a 201) :: .ref (a 202) :: .ref (a 203) :: .ref (a 204) :: .int v200_5 :: .ref (a 205) :: .int v200_7 :: .int v200_8 :: .int v200_9 :: .int v200_10 :: .int v200_11 :: .int v200_12 :: .int v200_13 :: .ref (a 206) :: .int r_1 :: .ref (a 207) :: .int 511 :: .int (-1) :: .int v200_19 :: .ref (a 208) :: .int v200_21 :: .ref (a 209) :: .int v200_23 :: .ref (a 210) :: .ref (a 211) :: .ref (a 212) :: .int v200_27 :: .int v200_28 :: .int v200_29 :: .ref (a 213) :: .ref (a 214) :: .ref (a 215) :: .int v200_33 :: .int v200_34 :: .int v200_35 :: .ref (a 216) :: .ref (a 217) :: .ref (a 218) :: .ref (a 219) :: [])), (a 201, .inl (t 0, 841, .inl f201)), (a 207, .inl (t 0, 9, .inl f207))] H := hP
  have hD : va_D A [(a 200, .inr (12, .int v200_0 :: .ref (a 201) :: .ref (a 202) :: .ref (a 203) :: .ref (a 204) :: .int v200_5 :: .ref (a 205) :: .int v200_7 :: .int v200_8 :: .int v200_9 :: .int v200_10 :: .int v200_11 :: .int v200_12 :: .int v200_13 :: .ref (a 206) :: .int r_1 :: .ref (a 207) :: .int 511 :: .int (-1) :: .int v200_19 :: .ref (a 208) :: .int v200_21 :: .ref (a 209) :: .int v200_23 :: .ref (a 210) :: .ref (a 211) :: .ref (a 212) :: .int v200_27 :: .int v200_28 :: .int v200_29 :: .ref (a 213) :: .ref (a 214) :: .ref (a 215) :: .int v200_33 :: .int v200_34 :: .int v200_35 :: .ref (a 216) :: .ref (a 217) :: .ref (a 218) :: .ref (a 219) :: [])), (a 201, .inl (t 0, 841, .inl f201)), (a 207, .inl (t 0, 9, .inl f207))] := hD
  refine lv_iconst (v := 0) hx hb dX12_asItIs_20 (by decide) ?_
  refine lv_istore_n (lv' := [(1, .int 0), (0, .ref (a 200))]) hx hb dX12_asItIs_21 rfl hl (by decide) rfl (fun ls hl => ?_)
  refine loopW (α := US) (fun n y_2 H locs ls => 9 < (y_2.1 0).toInt + (n : Int) ∧ rg 0 9 (y_2.1 0) ∧ va_P D classes [(a 200, .inr (12, .int v200_0 :: .ref (a 201) :: .ref (a 202) :: .ref (a 203) :: .ref (a 204) :: .int v200_5 :: .ref (a 205) :: .int v200_7 :: .int v200_8 :: .int v200_9 :: .int v200_10 :: .int v200_11 :: .int v200_12 :: .int v200_13 :: .ref (a 206) :: .int r_1 :: .ref (a 207) :: .int 511 :: .int (-1) :: .int v200_19 :: .ref (a 208) :: .int v200_21 :: .ref (a 209) :: .int v200_23 :: .ref (a 210) :: .ref (a 211) :: .ref (a 212) :: .int v200_27 :: .int v200_28 :: .int v200_29 :: .ref (a 213) :: .ref (a 214) :: .ref (a 215) :: .int v200_33 :: .int v200_34 :: .int v200_35 :: .ref (a 216) :: .ref (a 217) :: .ref (a 218) :: .ref (a 219) :: [])), (a 201, .inl (t 0, 841, .inl f201)), (a 207, .inl (t 0, 9, .inl (y_2.2.1 0)))] H ∧ va_D A [(a 200, .inr (12, .int v200_0 :: .ref (a 201) :: .ref (a 202) :: .ref (a 203) :: .ref (a 204) :: .int v200_5 :: .ref (a 205) :: .int v200_7 :: .int v200_8 :: .int v200_9 :: .int v200_10 :: .int v200_11 :: .int v200_12 :: .int v200_13 :: .ref (a 206) :: .int r_1 :: .ref (a 207) :: .int 511 :: .int (-1) :: .int v200_19 :: .ref (a 208) :: .int v200_21 :: .ref (a 209) :: .int v200_23 :: .ref (a 210) :: .ref (a 211) :: .ref (a 212) :: .int v200_27 :: .int v200_28 :: .int v200_29 :: .ref (a 213) :: .ref (a 214) :: .ref (a 215) :: .int v200_33 :: .int v200_34 :: .int v200_35 :: .ref (a 216) :: .ref (a 217) :: .ref (a 218) :: .ref (a 219) :: [])), (a 201, .inl (t 0, 841, .inl f201)), (a 207, .inl (t 0, 9, .inl (y_2.2.1 0)))] ∧ va_S A s.heap H locs ∧ lv_has ls 2 [(1, .int (y_2.1 0)), (0, .ref (a 200))]) 22 (fun y_2 => []) (fun _ _ _ _ h9 => m_0 h9.1 h9.2.1) (fun n ih_4 y_2 H locs ls hI => ?_) 10 (fun k => [0].getD k 0, fun k => [f207].getD k (fun _ => 0), fun k => [].getD k (fun _ => 0), fun k => [].getD k 0) ⟨(m_i (rg_c (x := 0) (k := 0) (by decide)) (by decide)), (rg_w (c := 0) (d := 9) (rg_c (x := 0) (k := 0) (by decide)) (by decide) (by decide)), hP, hD, hS, (lv_sub hl [0, 1] rfl)⟩
  obtain ⟨me_5, h_3, hP, hD, hS, hl⟩ := hI
  refine lv_iload_n hx hb dX12_asItIs_22 rfl (lv_at hl 0 rfl) ?_
  refine lv_bipush (v := 9) hx hb dX12_asItIs_23 (by decide) ?_
  refine lv_icmp_ge (tgt := 46) hx hb dX12_asItIs_25 (by decide) (fun c_6 => ?_) (fun c_6 => ?_)
  · skip
    have h_7 : rg 9 9 (y_2.1 0) := ⟨Int.le_trans (by decide) (c_leR c_6 (rg_c (x := 9) (k := 9) (by decide))), (h_3).2⟩
    have hP9 := hP.sub (ws' := [(a 200, .inr (12, .int v200_0 :: .ref (a 201) :: .ref (a 202) :: .ref (a 203) :: .ref (a 204) :: .int v200_5 :: .ref (a 205) :: .int v200_7 :: .int v200_8 :: .int v200_9 :: .int v200_10 :: .int v200_11 :: .int v200_12 :: .int v200_13 :: .ref (a 206) :: .int r_1 :: .ref (a 207) :: .int 511 :: .int (-1) :: .int v200_19 :: .ref (a 208) :: .int v200_21 :: .ref (a 209) :: .int v200_23 :: .ref (a 210) :: .ref (a 211) :: .ref (a 212) :: .int v200_27 :: .int v200_28 :: .int v200_29 :: .ref (a 213) :: .ref (a 214) :: .ref (a 215) :: .int v200_33 :: .int v200_34 :: .int v200_35 :: .ref (a 216) :: .ref (a 217) :: .ref (a 218) :: .ref (a 219) :: [])), (a 201, .inl (t 0, 841, .inl f201)), (a 207, .inl (t 0, 9, .inl (y_2.2.1 0)))]) [0, 1, 2] rfl
    have hD9 := hD.sub (ws' := [(a 200, .inr (12, .int v200_0 :: .ref (a 201) :: .ref (a 202) :: .ref (a 203) :: .ref (a 204) :: .int v200_5 :: .ref (a 205) :: .int v200_7 :: .int v200_8 :: .int v200_9 :: .int v200_10 :: .int v200_11 :: .int v200_12 :: .int v200_13 :: .ref (a 206) :: .int r_1 :: .ref (a 207) :: .int 511 :: .int (-1) :: .int v200_19 :: .ref (a 208) :: .int v200_21 :: .ref (a 209) :: .int v200_23 :: .ref (a 210) :: .ref (a 211) :: .ref (a 212) :: .int v200_27 :: .int v200_28 :: .int v200_29 :: .ref (a 213) :: .ref (a 214) :: .ref (a 215) :: .int v200_33 :: .int v200_34 :: .int v200_35 :: .ref (a 216) :: .ref (a 217) :: .ref (a 218) :: .ref (a 219) :: [])), (a 201, .inl (t 0, 841, .inl f201)), (a 207, .inl (t 0, 9, .inl (y_2.2.1 0)))]) [0, 1, 2] (by decide) rfl
    exact W.vret hx hb hr (fun t9 ht hW => ⟨⟨(fun k => [r_1, 511, (-1)].getD k 0, fun k => [(y_2.2.1 0)].getD k (fun _ => 0), fun k => [].getD k (fun _ => 0), fun _ => 0), rfl, trivial, by rw [ht]; exact hP9, hD9⟩, hS.F ht⟩) hS.2.2 dX12_asItIs_46
  · skip
    have h_8 : rg 0 8 (y_2.1 0) := ⟨(h_3).1, Int.le_trans (c_nleR c_6 (rg_c (x := 9) (k := 9) (by decide))) (by decide)⟩
    refine lv_aload_n hx hb dX12_asItIs_28 rfl (lv_at hl 1 rfl) ?_
    refine va_get (D := D) (ci := 12) (v := .ref (a 207)) (C := RX12) (T := TX12) (N := 40) hx hb hts iX12 hown hK hP 0 rfl rfl 16 (by decide) (hts _ m_1359) (fun _ h9 => h9) rfl dX12_asItIs_29 ?_
    refine lv_iload_n hx hb dX12_asItIs_32 rfl (lv_at hl 0 rfl) ?_
    refine lv_aload_n hx hb dX12_asItIs_33 rfl (lv_at hl 1 rfl) ?_
    refine lv_iload_n hx hb dX12_asItIs_34 rfl (lv_at hl 0 rfl) ?_
    refine lv_iconst (v := 0) hx hb dX12_asItIs_35 (by decide) ?_
    refine y_pV hF (s_ofSpeaker0 l D t a v200_0 v200_5 v200_7 v200_8 v200_9 v200_10 v200_11 v200_12 v200_13 r_1 511 (-1) v200_19 v200_21 v200_23 v200_27 v200_28 v200_29 v200_33 v200_34 v200_35 f201 (y_2.1 0) 0 r200_5 r200_7 r200_8 r200_9 r200_23 q201 h_8 (rg_c (x := 0) (k := 0) (by decide))) m_1628 m_1630 m_s60 m_13 m_1631 hd_X12_ofSpeaker ⟨Nat.le_of_ble_eq_true rfl, Nat.le_of_ble_eq_true rfl⟩ hK hN hP hS [0, 1] rfl 0 (ci := 12) rfl rfl rfl hl.1 rfl (Nat.le_of_ble_eq_true rfl) dX12_asItIs_36 ⟨Nat.zero_le _, Nat.zero_le _⟩ (fun r_9 H locs hr_9 hP hS => ?_)
    refine x_iast hx hb hK hP hD hS 2 0 rfl rfl (in_rg h_8 (by decide) (by decide)) dX12_asItIs_39 (fun g_10 H locs hP hD hS => ?_)
    have hP : va_P D classes [(a 200, .inr (12, .int v200_0 :: .ref (a 201) :: .ref (a 202) :: .ref (a 203) :: .ref (a 204) :: .int v200_5 :: .ref (a 205) :: .int v200_7 :: .int v200_8 :: .int v200_9 :: .int v200_10 :: .int v200_11 :: .int v200_12 :: .int v200_13 :: .ref (a 206) :: .int r_1 :: .ref (a 207) :: .int 511 :: .int (-1) :: .int v200_19 :: .ref (a 208) :: .int v200_21 :: .ref (a 209) :: .int v200_23 :: .ref (a 210) :: .ref (a 211) :: .ref (a 212) :: .int v200_27 :: .int v200_28 :: .int v200_29 :: .ref (a 213) :: .ref (a 214) :: .ref (a 215) :: .int v200_33 :: .int v200_34 :: .int v200_35 :: .ref (a 216) :: .ref (a 217) :: .ref (a 218) :: .ref (a 219) :: [])), (a 201, .inl (t 0, 841, .inl f201)), (a 207, .inl (t 0, 9, .inl g_10))] H := hP
    have hD : va_D A [(a 200, .inr (12, .int v200_0 :: .ref (a 201) :: .ref (a 202) :: .ref (a 203) :: .ref (a 204) :: .int v200_5 :: .ref (a 205) :: .int v200_7 :: .int v200_8 :: .int v200_9 :: .int v200_10 :: .int v200_11 :: .int v200_12 :: .int v200_13 :: .ref (a 206) :: .int r_1 :: .ref (a 207) :: .int 511 :: .int (-1) :: .int v200_19 :: .ref (a 208) :: .int v200_21 :: .ref (a 209) :: .int v200_23 :: .ref (a 210) :: .ref (a 211) :: .ref (a 212) :: .int v200_27 :: .int v200_28 :: .int v200_29 :: .ref (a 213) :: .ref (a 214) :: .ref (a 215) :: .int v200_33 :: .int v200_34 :: .int v200_35 :: .ref (a 216) :: .ref (a 217) :: .ref (a 218) :: .ref (a 219) :: [])), (a 201, .inl (t 0, 841, .inl f201)), (a 207, .inl (t 0, 9, .inl g_10))] := hD
    obtain ⟨x_11, ex_11⟩ : ∃ y9 : Int32, y9 = (y_2.1 0) + 1 := ⟨_, rfl⟩
    have hx_11 : rg 1 9 x_11 := by rw [ex_11]; exact rg_add h_8 (rg_c (x := 1) (k := 1) (by decide)) (by decide) (by decide) (by decide) (by decide)
    have tx_11 : x_11.toInt = (y_2.1 0).toInt + 1 := by rw [ex_11]; exact inc_tk h_8 (by decide) (by decide) (by decide)
    refine lv_iinc (v := x_11) (lv' := [(1, .int x_11), (0, .ref (a 200))]) hx hb dX12_asItIs_40 hl (k := 0) rfl (by rw [ex_11]; rfl) (by decide) rfl (fun ls hl => ?_)
    refine lv_goto (tgt := 22) hx hb dX12_asItIs_43 (by decide) ?_
    exact ih_4 (fun k => [x_11].getD k 0, fun k => [g_10].getD k (fun _ => 0), fun k => [].getD k (fun _ => 0), fun k => [].getD k 0) _ _ ls ⟨(m_upk me_5 tx_11 (by decide)), (rg_w (c := 0) (d := 9) hx_11 (by decide) (by decide)), hP, hD, hS, (lv_sub hl [0, 1] rfl)⟩

set_option maxHeartbeats 4000000 in
set_option maxRecDepth 100000 in
theorem s_X12_likesOf (l : Launch) (D : va_G) (t : Nat → ClassId) (a : Nat → Nat) (v200_0 : Int32) (v200_5 : Int32) (v200_7 : Int32) (v200_8 : Int32) (v200_9 : Int32) (v200_10 : Int32) (v200_11 : Int32) (v200_12 : Int32) (v200_13 : Int32) (v200_15 : Int32) (v200_17 : Int32) (v200_18 : Int32) (v200_19 : Int32) (v200_21 : Int32) (v200_23 : Int32) (v200_27 : Int32) (v200_28 : Int32) (v200_29 : Int32) (v200_33 : Int32) (v200_34 : Int32) (v200_35 : Int32) (f201 : Nat → Int32) (p0 : Int32) (p1 : Int32) (r200_5 : rg 0 1600 v200_5) (r200_7 : rg 0 1600 v200_7) (r200_8 : rg 0 1600 v200_8) (r200_9 : rg 0 1600 v200_9) (r200_23 : rg 0 9 v200_23) (q201 : wR f201) (rp0 : rg 0 8 p0) (rp1 : rg 0 8 p1) : Met l yX12_likesOf (wd yX12_likesOf cX12_likesOf 3 (some .int)) (RM 1 0 0) (PreP D (TY t) [.ref (a 200), .int p0, .int p1] [(a 200, .inr (12, .int v200_0 :: .ref (a 201) :: .ref (a 202) :: .ref (a 203) :: .ref (a 204) :: .int v200_5 :: .ref (a 205) :: .int v200_7 :: .int v200_8 :: .int v200_9 :: .int v200_10 :: .int v200_11 :: .int v200_12 :: .int v200_13 :: .ref (a 206) :: .int v200_15 :: .ref (a 207) :: .int v200_17 :: .int v200_18 :: .int v200_19 :: .ref (a 208) :: .int v200_21 :: .ref (a 209) :: .int v200_23 :: .ref (a 210) :: .ref (a 211) :: .ref (a 212) :: .int v200_27 :: .int v200_28 :: .int v200_29 :: .ref (a 213) :: .ref (a 214) :: .ref (a 215) :: .int v200_33 :: .int v200_34 :: .int v200_35 :: .ref (a 216) :: .ref (a 217) :: .ref (a 218) :: .ref (a 219) :: [])), (a 201, .inl (t 0, 841, .inl f201))]) (QP (fun r => rg 0 9 r)) 0 0 NoF := by
  refine Met.ofW (cc := cX12_likesOf) (maxL := 3) (ret := (some .int)) (by decide) rfl ?_
  intro p e s m args below meth c s₁ B hml hv
  obtain ⟨rfl, hP, hK, hN⟩ := hv
  have hx := B.exec
  have hb := B.bytes
  have hr := B.returns
  have hts : ∀ w ∈ TB, w.before _ s = true := fun w h => atoms_spec (ws := wd yX12_likesOf cX12_likesOf 3 (some .int)) B.pre w (List.mem_cons_of_mem _ h)
  have hown : s.vm.findClass RX12 = some m.cls := findClass_of_methodNamed B.named
  have hlocks := B.notSynchronized
  have hF : CallFix p m c cX12_likesOf 3 s _ TB RX12 := ⟨hx, hb, hml, hown, hts⟩
  have hl := lv_entry ([.ref (a 200), .int p0, .int p1]) (n := 3) (Nat.le_of_ble_eq_true rfl)
  rw [lg_entry_eq]
  generalize (lg_sl ([.ref (a 200), .int p0, .int p1]) ++ List.replicate (3 - (lg_sl ([.ref (a 200), .int p0, .int p1])).length) Slot.unset).toArray = ls at hl ⊢
  have hl : lv_has ls 3 [(0, .ref (a 200)), (1, .int p0), (2, .int p1)] := hl
  have hS : va_S NoF s.heap s.heap [] := va_S.rf
  have hP : va_P D classes [(a 200, .inr (12, .int v200_0 :: .ref (a 201) :: .ref (a 202) :: .ref (a 203) :: .ref (a 204) :: .int v200_5 :: .ref (a 205) :: .int v200_7 :: .int v200_8 :: .int v200_9 :: .int v200_10 :: .int v200_11 :: .int v200_12 :: .int v200_13 :: .ref (a 206) :: .int v200_15 :: .ref (a 207) :: .int v200_17 :: .int v200_18 :: .int v200_19 :: .ref (a 208) :: .int v200_21 :: .ref (a 209) :: .int v200_23 :: .ref (a 210) :: .ref (a 211) :: .ref (a 212) :: .int v200_27 :: .int v200_28 :: .int v200_29 :: .ref (a 213) :: .ref (a 214) :: .ref (a 215) :: .int v200_33 :: .int v200_34 :: .int v200_35 :: .ref (a 216) :: .ref (a 217) :: .ref (a 218) :: .ref (a 219) :: [])), (a 201, .inl (t 0, 841, .inl f201))] s.heap := hP
  refine lv_aload_n hx hb dX12_likesOf_0 rfl (lv_at hl 0 rfl) ?_
  refine lv_iload_n hx hb dX12_likesOf_1 rfl (lv_at hl 1 rfl) ?_
  refine lv_iconst (v := 3) hx hb dX12_likesOf_2 (by decide) ?_
  refine y_pV hF (s_ofSpeaker3 l D t a v200_0 v200_5 v200_7 v200_8 v200_9 v200_10 v200_11 v200_12 v200_13 v200_15 v200_17 v200_18 v200_19 v200_21 v200_23 v200_27 v200_28 v200_29 v200_33 v200_34 v200_35 f201 p0 3 r200_5 r200_7 r200_8 r200_9 r200_23 q201 rp0 (rg_c (x := 3) (k := 3) (by decide))) m_1628 m_1630 m_s60 m_13 m_1631 hd_X12_ofSpeaker ⟨Nat.le_of_ble_eq_true rfl, Nat.le_of_ble_eq_true rfl⟩ hK hN hP hS [0, 1] rfl 0 (ci := 12) rfl rfl rfl hl.1 rfl (Nat.le_of_ble_eq_true rfl) dX12_likesOf_3 ⟨Nat.zero_le _, Nat.zero_le _⟩ (fun r_1 H locs hr_1 hP hS => ?_)
  refine lv_aload_n hx hb dX12_likesOf_6 rfl (lv_at hl 0 rfl) ?_
  refine lv_iload_n hx hb dX12_likesOf_7 rfl (lv_at hl 2 rfl) ?_
  refine lv_iconst (v := 3) hx hb dX12_likesOf_8 (by decide) ?_
  refine y_pV hF (s_ofWord3 l D t a v200_0 v200_5 v200_7 v200_8 v200_9 v200_10 v200_11 v200_12 v200_13 v200_15 v200_17 v200_18 v200_19 v200_21 v200_23 v200_27 v200_28 v200_29 v200_33 v200_34 v200_35 f201 p1 3 r200_5 r200_7 r200_8 r200_9 r200_23 q201 rp1 (rg_c (x := 3) (k := 3) (by decide))) m_1612 m_1614 m_s58 m_13 m_1615 hd_X12_ofWord ⟨Nat.le_of_ble_eq_true rfl, Nat.le_of_ble_eq_true rfl⟩ hK hN hP hS [0, 1] rfl 0 (ci := 12) rfl rfl rfl hl.1 rfl (Nat.le_of_ble_eq_true rfl) dX12_likesOf_9 ⟨Nat.zero_le _, Nat.zero_le _⟩ (fun r_2 H locs hr_2 hP hS => ?_)
  refine lv_iand hx hb dX12_likesOf_12 ?_
  refine lv_topi (fun x_3 ex_3 => ?_)
  refine y_pS hF (s_X12_bits l D t a x_3) m_1668 m_1669 m_13 m_1670 hd_X12_bits ⟨Nat.le_of_ble_eq_true rfl, Nat.le_of_ble_eq_true rfl⟩ hK hN hP hS [] rfl hl.1 rfl (Nat.le_of_ble_eq_true rfl) dX12_likesOf_13 ⟨Nat.zero_le _, Nat.zero_le _⟩ (fun r_4 H locs hr_4 hP hS => ?_)
  have or_4 := hr_4.2
  exact W.iret (v := r_4) hx hb hr (fun t9 ht hW => ⟨⟨r_4, (), rfl, hr_4.1, trivial⟩, hS.F ht⟩) hS.2.2 dX12_likesOf_16

set_option maxHeartbeats 4000000 in
set_option maxRecDepth 100000 in
theorem s_X12_standingIn (l : Launch) (D : va_G) (t : Nat → ClassId) (a : Nat → Nat) (v200_0 : Int32) (v200_5 : Int32) (v200_7 : Int32) (v200_8 : Int32) (v200_9 : Int32) (v200_10 : Int32) (v200_11 : Int32) (v200_12 : Int32) (v200_13 : Int32) (v200_15 : Int32) (v200_17 : Int32) (v200_18 : Int32) (v200_19 : Int32) (v200_21 : Int32) (v200_23 : Int32) (v200_27 : Int32) (v200_28 : Int32) (v200_29 : Int32) (v200_33 : Int32) (v200_34 : Int32) (v200_35 : Int32) (f201 : Nat → Int32) (p0 : Int32) (r200_5 : rg 0 1600 v200_5) (r200_7 : rg 0 1600 v200_7) (r200_8 : rg 0 1600 v200_8) (r200_9 : rg 0 1600 v200_9) (r200_23 : rg 0 9 v200_23) (q201 : wR f201) : Met l yX12_standingIn (wd yX12_standingIn cX12_standingIn 4 (some .int)) (RM 1 0 0) (PreP D (TY t) [.ref (a 200), .int p0] [(a 200, .inr (12, .int v200_0 :: .ref (a 201) :: .ref (a 202) :: .ref (a 203) :: .ref (a 204) :: .int v200_5 :: .ref (a 205) :: .int v200_7 :: .int v200_8 :: .int v200_9 :: .int v200_10 :: .int v200_11 :: .int v200_12 :: .int v200_13 :: .ref (a 206) :: .int v200_15 :: .ref (a 207) :: .int v200_17 :: .int v200_18 :: .int v200_19 :: .ref (a 208) :: .int v200_21 :: .ref (a 209) :: .int v200_23 :: .ref (a 210) :: .ref (a 211) :: .ref (a 212) :: .int v200_27 :: .int v200_28 :: .int v200_29 :: .ref (a 213) :: .ref (a 214) :: .ref (a 215) :: .int v200_33 :: .int v200_34 :: .int v200_35 :: .ref (a 216) :: .ref (a 217) :: .ref (a 218) :: .ref (a 219) :: [])), (a 201, .inl (t 0, 841, .inl f201))]) (QP (fun r => rg 0 511 r ∧ (lo9 (f201 5) r))) 0 0 NoF := by
  refine Met.ofW (cc := cX12_standingIn) (maxL := 4) (ret := (some .int)) (by decide) rfl ?_
  intro p e s m args below meth c s₁ B hml hv
  obtain ⟨rfl, hP, hK, hN⟩ := hv
  have hx := B.exec
  have hb := B.bytes
  have hr := B.returns
  have hts : ∀ w ∈ TB, w.before _ s = true := fun w h => atoms_spec (ws := wd yX12_standingIn cX12_standingIn 4 (some .int)) B.pre w (List.mem_cons_of_mem _ h)
  have hown : s.vm.findClass RX12 = some m.cls := findClass_of_methodNamed B.named
  have hlocks := B.notSynchronized
  have hF : CallFix p m c cX12_standingIn 4 s _ TB RX12 := ⟨hx, hb, hml, hown, hts⟩
  have hl := lv_entry ([.ref (a 200), .int p0]) (n := 4) (Nat.le_of_ble_eq_true rfl)
  rw [lg_entry_eq]
  generalize (lg_sl ([.ref (a 200), .int p0]) ++ List.replicate (4 - (lg_sl ([.ref (a 200), .int p0])).length) Slot.unset).toArray = ls at hl ⊢
  have hl : lv_has ls 4 [(0, .ref (a 200)), (1, .int p0)] := hl
  have hS : va_S NoF s.heap s.heap [] := va_S.rf
  have hP : va_P D classes [(a 200, .inr (12, .int v200_0 :: .ref (a 201) :: .ref (a 202) :: .ref (a 203) :: .ref (a 204) :: .int v200_5 :: .ref (a 205) :: .int v200_7 :: .int v200_8 :: .int v200_9 :: .int v200_10 :: .int v200_11 :: .int v200_12 :: .int v200_13 :: .ref (a 206) :: .int v200_15 :: .ref (a 207) :: .int v200_17 :: .int v200_18 :: .int v200_19 :: .ref (a 208) :: .int v200_21 :: .ref (a 209) :: .int v200_23 :: .ref (a 210) :: .ref (a 211) :: .ref (a 212) :: .int v200_27 :: .int v200_28 :: .int v200_29 :: .ref (a 213) :: .ref (a 214) :: .ref (a 215) :: .int v200_33 :: .int v200_34 :: .int v200_35 :: .ref (a 216) :: .ref (a 217) :: .ref (a 218) :: .ref (a 219) :: [])), (a 201, .inl (t 0, 841, .inl f201))] s.heap := hP
  refine lv_iconst (v := 0) hx hb dX12_standingIn_0 (by decide) ?_
  refine lv_istore_n (lv' := [(2, .int 0), (0, .ref (a 200)), (1, .int p0)]) hx hb dX12_standingIn_1 rfl hl (by decide) rfl (fun ls hl => ?_)
  refine lv_iconst (v := 0) hx hb dX12_standingIn_2 (by decide) ?_
  refine lv_istore_n (lv' := [(3, .int 0), (2, .int 0), (0, .ref (a 200)), (1, .int p0)]) hx hb dX12_standingIn_3 rfl hl (by decide) rfl (fun ls hl => ?_)
  refine loopW (α := US) (fun n y_1 H locs ls => 9 < (y_1.1 0).toInt + (n : Int) ∧ rg 0 9 (y_1.1 0) ∧ rg 0 511 (y_1.1 1) ∧ (lo9 (y_1.1 0) (y_1.1 1)) ∧ ((y_1.1 0).toInt ≤ (f201 5).toInt) ∧ va_P D classes [(a 200, .inr (12, .int v200_0 :: .ref (a 201) :: .ref (a 202) :: .ref (a 203) :: .ref (a 204) :: .int v200_5 :: .ref (a 205) :: .int v200_7 :: .int v200_8 :: .int v200_9 :: .int v200_10 :: .int v200_11 :: .int v200_12 :: .int v200_13 :: .ref (a 206) :: .int v200_15 :: .ref (a 207) :: .int v200_17 :: .int v200_18 :: .int v200_19 :: .ref (a 208) :: .int v200_21 :: .ref (a 209) :: .int v200_23 :: .ref (a 210) :: .ref (a 211) :: .ref (a 212) :: .int v200_27 :: .int v200_28 :: .int v200_29 :: .ref (a 213) :: .ref (a 214) :: .ref (a 215) :: .int v200_33 :: .int v200_34 :: .int v200_35 :: .ref (a 216) :: .ref (a 217) :: .ref (a 218) :: .ref (a 219) :: [])), (a 201, .inl (t 0, 841, .inl f201))] H ∧ va_S NoF s.heap H locs ∧ lv_has ls 4 [(3, .int (y_1.1 0)), (2, .int (y_1.1 1)), (0, .ref (a 200)), (1, .int p0)]) 4 (fun y_1 => []) (fun _ _ _ _ h9 => m_0 h9.1 h9.2.1) (fun n ih_6 y_1 H locs ls hI => ?_) 10 (fun k => [0, 0].getD k 0, fun k => [].getD k (fun _ => 0), fun k => [].getD k (fun _ => 0), fun k => [].getD k 0) ⟨(m_i (rg_c (x := 0) (k := 0) (by decide)) (by decide)), (rg_w (c := 0) (d := 9) (rg_c (x := 0) (k := 0) (by decide)) (by decide) (by decide)), (rg_w (c := 0) (d := 511) (rg_c (x := 0) (k := 0) (by decide)) (by decide) (by decide)), (show lo9 (0 : Int32) (0 : Int32) from lo_z), (show (0 : Int32).toInt ≤ (f201 5).toInt from (by have z0 : (0 : Int32).toInt = 0 := rfl; have zq : rg 0 9 (f201 5) := q201 5 (by decide); have := zq.1; omega)), hP, hS, (lv_sub hl [0, 1, 2, 3] rfl)⟩
  obtain ⟨me_7, h_2, h_3, i_4, i_5, hP, hS, hl⟩ := hI
  refine lv_iload_n hx hb dX12_standingIn_4 rfl (lv_at hl 0 rfl) ?_
  refine lv_aload_n hx hb dX12_standingIn_5 rfl (lv_at hl 2 rfl) ?_
  refine va_get (D := D) (ci := 12) (v := .ref (a 201)) (C := RX12) (T := TX12) (N := 40) hx hb hts iX12 hown hK hP 0 rfl rfl 1 (by decide) (hts _ m_1344) (fun _ h9 => h9) rfl dX12_standingIn_6 ?_
  refine lv_iconst (v := 5) hx hb dX12_standingIn_9 (by decide) ?_
  refine va_iald hx hb hK hP 1 0 rfl rfl (in_rg (rg_c (x := 5) (k := 5) (by decide)) (by decide) (by decide)) dX12_standingIn_10 ?_
  refine x_seti (f201 5) rfl ?_
  have h_8 : rg 0 9 (f201 5) := q201 5 (by decide)
  refine lv_icmp_ge (tgt := 52) hx hb dX12_standingIn_11 (by decide) (fun c_9 => ?_) (fun c_9 => ?_)
  · skip
    have tc_9 := t_le c_9
    refine lv_iload_n hx hb dX12_standingIn_52 rfl (lv_at hl 1 rfl) ?_
    exact W.iret (v := (y_1.1 1)) hx hb hr (fun t9 ht hW => ⟨⟨(y_1.1 1), (), rfl, ⟨h_3, (lo_eq i_4 (by omega))⟩, trivial⟩, hS.F ht⟩) hS.2.2 dX12_standingIn_53
  · skip
    have tc_9 := t_nle c_9
    have h_10 : rg 0 8 (y_1.1 0) := ⟨(h_2).1, Int.le_trans (c_nleR c_9 h_8) (by decide)⟩
    have h_11 : rg 1 9 (f201 5) := ⟨Int.le_trans (by decide) (c_nle c_9 h_2), (h_8).2⟩
    refine lv_iload_n hx hb dX12_standingIn_14 rfl (lv_at hl 1 rfl) ?_
    refine lv_aload_n hx hb dX12_standingIn_15 rfl (lv_at hl 2 rfl) ?_
    refine va_get (D := D) (ci := 12) (v := .int v200_15) (C := RX12) (T := TX12) (N := 40) hx hb hts iX12 hown hK hP 0 rfl rfl 15 (by decide) (hts _ m_1358) (fun _ h9 => h9) rfl dX12_standingIn_16 ?_
    refine lv_iload_n hx hb dX12_standingIn_19 rfl (lv_at hl 0 rfl) ?_
    refine y_pS hF (s_X12_bit l D t a v200_15 (y_1.1 0)) m_1616 m_1617 m_13 m_1618 hd_X12_bit ⟨Nat.le_of_ble_eq_true rfl, Nat.le_of_ble_eq_true rfl⟩ hK hN hP hS [] rfl hl.1 rfl (Nat.le_of_ble_eq_true rfl) dX12_standingIn_20 ⟨Nat.zero_le _, Nat.zero_le _⟩ (fun r_12 H locs hr_12 hP hS => ?_)
    have or_12 := hr_12.2
    refine lv_iconst (v := 1) hx hb dX12_standingIn_23 (by decide) ?_
    refine lv_icmp_ne (tgt := 43) hx hb dX12_standingIn_24 (by decide) (fun c_13 => ?_) (fun c_13 => ?_)
    · skip
      have zc_14 : (1 : Int32).toInt = 1 := by decide
      have tc_13 : ¬ (r_12 : Int32).toInt = (1 : Int32).toInt := fun z9 => c_13 (Int32.toInt_inj.mp z9)
      have h_15 : rg 0 0 r_12 := rg_w (rg_neR hr_12.1 c_13 (by decide)) (by decide) (by decide)
      refine lv_iconst (v := 0) hx hb dX12_standingIn_43 (by decide) ?_
      refine lv_ior hx hb dX12_standingIn_44 ?_
      refine lv_topi (fun x_16 ex_16 => ?_)
      have hx_16 : rg 0 511 x_16 := by rw [ex_16]; exact rg_or (m := 9) h_3 (rg_w (c := 0) (d := 511) (rg_c (x := 0) (k := 0) (by decide)) (by decide) (by decide)) (by decide) (by decide)
      refine lv_istore_n (lv' := [(2, .int x_16), (3, .int (y_1.1 0)), (0, .ref (a 200)), (1, .int p0)]) hx hb dX12_standingIn_45 rfl hl (by decide) rfl (fun ls hl => ?_)
      obtain ⟨x_17, ex_17⟩ : ∃ y9 : Int32, y9 = (y_1.1 0) + 1 := ⟨_, rfl⟩
      have hx_17 : rg 1 9 x_17 := by rw [ex_17]; exact rg_add h_10 (rg_c (x := 1) (k := 1) (by decide)) (by decide) (by decide) (by decide) (by decide)
      have tx_17 : x_17.toInt = (y_1.1 0).toInt + 1 := by rw [ex_17]; exact inc_tk h_10 (by decide) (by decide) (by decide)
      refine lv_iinc (v := x_17) (lv' := [(3, .int x_17), (2, .int x_16), (0, .ref (a 200)), (1, .int p0)]) hx hb dX12_standingIn_46 hl (k := 1) rfl (by rw [ex_17]; rfl) (by decide) rfl (fun ls hl => ?_)
      refine lv_goto (tgt := 4) hx hb dX12_standingIn_49 (by decide) ?_
      exact ih_6 (fun k => [x_17, x_16].getD k 0, fun k => [].getD k (fun _ => 0), fun k => [].getD k (fun _ => 0), fun k => [].getD k 0) _ _ ls ⟨(m_upk me_7 tx_17 (by decide)), (rg_w (c := 0) (d := 9) hx_17 (by decide) (by decide)), hx_16, (show lo9 x_17 x_16 from (lo_or0 h_10 i_4 tx_17 ex_16)), (show x_17.toInt ≤ (f201 5).toInt from (by have z0 : (0 : Int32).toInt = 0 := rfl; have zq : rg 0 9 (f201 5) := q201 5 (by decide); have := zq.1; omega)), hP, hS, (lv_sub hl [0, 1, 2, 3] rfl)⟩
    · skip
      have zc_18 : (1 : Int32).toInt = 1 := by decide
      have tc_13 : (r_12 : Int32).toInt = (1 : Int32).toInt := congrArg Int32.toInt (by first | exact c_13 | exact Classical.not_not.mp c_13)
      have h_19 : rg 1 1 r_12 := rg_eq c_13 (rg_c (x := 1) (k := 1) (by decide))
      refine lv_aload_n hx hb dX12_standingIn_27 rfl (lv_at hl 2 rfl) ?_
      refine lv_iload_n hx hb dX12_standingIn_28 rfl (lv_at hl 0 rfl) ?_
      refine lv_iconst (v := 1) hx hb dX12_standingIn_29 (by decide) ?_
      refine y_pV hF (s_ofWord1 l D t a v200_0 v200_5 v200_7 v200_8 v200_9 v200_10 v200_11 v200_12 v200_13 v200_15 v200_17 v200_18 v200_19 v200_21 v200_23 v200_27 v200_28 v200_29 v200_33 v200_34 v200_35 f201 (y_1.1 0) 1 r200_5 r200_7 r200_8 r200_9 r200_23 q201 h_10 (rg_c (x := 1) (k := 1) (by decide))) m_1612 m_1614 m_s58 m_13 m_1615 hd_X12_ofWord ⟨Nat.le_of_ble_eq_true rfl, Nat.le_of_ble_eq_true rfl⟩ hK hN hP hS [0, 1] rfl 0 (ci := 12) rfl rfl rfl hl.1 rfl (Nat.le_of_ble_eq_true rfl) dX12_standingIn_30 ⟨Nat.zero_le _, Nat.zero_le _⟩ (fun r_20 H locs hr_20 hP hS => ?_)
      refine lv_iload_n hx hb dX12_standingIn_33 rfl (lv_at hl 3 rfl) ?_
      refine lv_icmp_ne (tgt := 43) hx hb dX12_standingIn_34 (by decide) (fun c_21 => ?_) (fun c_21 => ?_)
      · skip
        have tc_21 : ¬ (r_20 : Int32).toInt = (p0 : Int32).toInt := fun z9 => c_21 (Int32.toInt_inj.mp z9)
        refine lv_iconst (v := 0) hx hb dX12_standingIn_43 (by decide) ?_
        refine lv_ior hx hb dX12_standingIn_44 ?_
        refine lv_topi (fun x_22 ex_22 => ?_)
        have hx_22 : rg 0 511 x_22 := by rw [ex_22]; exact rg_or (m := 9) h_3 (rg_w (c := 0) (d := 511) (rg_c (x := 0) (k := 0) (by decide)) (by decide) (by decide)) (by decide) (by decide)
        refine lv_istore_n (lv' := [(2, .int x_22), (3, .int (y_1.1 0)), (0, .ref (a 200)), (1, .int p0)]) hx hb dX12_standingIn_45 rfl hl (by decide) rfl (fun ls hl => ?_)
        obtain ⟨x_23, ex_23⟩ : ∃ y9 : Int32, y9 = (y_1.1 0) + 1 := ⟨_, rfl⟩
        have hx_23 : rg 1 9 x_23 := by rw [ex_23]; exact rg_add h_10 (rg_c (x := 1) (k := 1) (by decide)) (by decide) (by decide) (by decide) (by decide)
        have tx_23 : x_23.toInt = (y_1.1 0).toInt + 1 := by rw [ex_23]; exact inc_tk h_10 (by decide) (by decide) (by decide)
        refine lv_iinc (v := x_23) (lv' := [(3, .int x_23), (2, .int x_22), (0, .ref (a 200)), (1, .int p0)]) hx hb dX12_standingIn_46 hl (k := 1) rfl (by rw [ex_23]; rfl) (by decide) rfl (fun ls hl => ?_)
        refine lv_goto (tgt := 4) hx hb dX12_standingIn_49 (by decide) ?_
        exact ih_6 (fun k => [x_23, x_22].getD k 0, fun k => [].getD k (fun _ => 0), fun k => [].getD k (fun _ => 0), fun k => [].getD k 0) _ _ ls ⟨(m_upk me_7 tx_23 (by decide)), (rg_w (c := 0) (d := 9) hx_23 (by decide) (by decide)), hx_22, (show lo9 x_23 x_22 from (lo_or0 h_10 i_4 tx_23 ex_22)), (show x_23.toInt ≤ (f201 5).toInt from (by have z0 : (0 : Int32).toInt = 0 := rfl; have zq : rg 0 9 (f201 5) := q201 5 (by decide); have := zq.1; omega)), hP, hS, (lv_sub hl [0, 1, 2, 3] rfl)⟩
      · skip
        have tc_21 : (r_20 : Int32).toInt = (p0 : Int32).toInt := congrArg Int32.toInt (by first | exact c_21 | exact Classical.not_not.mp c_21)
        refine lv_iconst (v := 1) hx hb dX12_standingIn_37 (by decide) ?_
        refine lv_iload_n hx hb dX12_standingIn_38 rfl (lv_at hl 0 rfl) ?_
        refine lv_ishl hx hb dX12_standingIn_39 ?_
        refine lv_topi (fun x_24 ex_24 => ?_)
        have hx_24 : rg 1 256 x_24 := by rw [ex_24]; exact rg_shl1 (b := 8) h_10 (by decide) (by decide)
        refine lv_goto (tgt := 44) hx hb dX12_standingIn_40 (by decide) ?_
        refine lv_ior hx hb dX12_standingIn_44 ?_
        refine lv_topi (fun x_25 ex_25 => ?_)
        have hx_25 : rg 0 511 x_25 := by rw [ex_25]; exact rg_or (m := 9) h_3 (rg_w (c := 0) (d := 511) hx_24 (by decide) (by decide)) (by decide) (by decide)
        refine lv_istore_n (lv' := [(2, .int x_25), (3, .int (y_1.1 0)), (0, .ref (a 200)), (1, .int p0)]) hx hb dX12_standingIn_45 rfl hl (by decide) rfl (fun ls hl => ?_)
        obtain ⟨x_26, ex_26⟩ : ∃ y9 : Int32, y9 = (y_1.1 0) + 1 := ⟨_, rfl⟩
        have hx_26 : rg 1 9 x_26 := by rw [ex_26]; exact rg_add h_10 (rg_c (x := 1) (k := 1) (by decide)) (by decide) (by decide) (by decide) (by decide)
        have tx_26 : x_26.toInt = (y_1.1 0).toInt + 1 := by rw [ex_26]; exact inc_tk h_10 (by decide) (by decide) (by decide)
        refine lv_iinc (v := x_26) (lv' := [(3, .int x_26), (2, .int x_25), (0, .ref (a 200)), (1, .int p0)]) hx hb dX12_standingIn_46 hl (k := 1) rfl (by rw [ex_26]; rfl) (by decide) rfl (fun ls hl => ?_)
        refine lv_goto (tgt := 4) hx hb dX12_standingIn_49 (by decide) ?_
        exact ih_6 (fun k => [x_26, x_25].getD k 0, fun k => [].getD k (fun _ => 0), fun k => [].getD k (fun _ => 0), fun k => [].getD k 0) _ _ ls ⟨(m_upk me_7 tx_26 (by decide)), (rg_w (c := 0) (d := 9) hx_26 (by decide) (by decide)), hx_25, (show lo9 x_26 x_25 from (lo_or1 h_10 i_4 tx_26 ex_24 ex_25)), (show x_26.toInt ≤ (f201 5).toInt from (by have z0 : (0 : Int32).toInt = 0 := rfl; have zq : rg 0 9 (f201 5) := q201 5 (by decide); have := zq.1; omega)), hP, hS, (lv_sub hl [0, 1, 2, 3] rfl)⟩

set_option maxHeartbeats 4000000 in
set_option maxRecDepth 100000 in
theorem s_X12_isLiked (l : Launch) (D : va_G) (t : Nat → ClassId) (a : Nat → Nat) (v200_0 : Int32) (v200_5 : Int32) (v200_7 : Int32) (v200_8 : Int32) (v200_9 : Int32) (v200_10 : Int32) (v200_11 : Int32) (v200_12 : Int32) (v200_13 : Int32) (v200_15 : Int32) (v200_17 : Int32) (v200_18 : Int32) (v200_19 : Int32) (v200_21 : Int32) (v200_23 : Int32) (v200_27 : Int32) (v200_28 : Int32) (v200_29 : Int32) (v200_33 : Int32) (v200_34 : Int32) (v200_35 : Int32) (f201 : Nat → Int32) (p0 : Int32) (p1 : Int32) (r200_5 : rg 0 1600 v200_5) (r200_7 : rg 0 1600 v200_7) (r200_8 : rg 0 1600 v200_8) (r200_9 : rg 0 1600 v200_9) (r200_23 : rg 0 9 v200_23) (q201 : wR f201) (rp0 : rg 0 8 p0) (rp1 : rg 0 8 p1) : Met l yX12_isLiked (wd yX12_isLiked cX12_isLiked 3 (some .boolean)) (RM 2 0 0) (PreP D (TY t) [.ref (a 200), .int p0, .int p1] [(a 200, .inr (12, .int v200_0 :: .ref (a 201) :: .ref (a 202) :: .ref (a 203) :: .ref (a 204) :: .int v200_5 :: .ref (a 205) :: .int v200_7 :: .int v200_8 :: .int v200_9 :: .int v200_10 :: .int v200_11 :: .int v200_12 :: .int v200_13 :: .ref (a 206) :: .int v200_15 :: .ref (a 207) :: .int v200_17 :: .int v200_18 :: .int v200_19 :: .ref (a 208) :: .int v200_21 :: .ref (a 209) :: .int v200_23 :: .ref (a 210) :: .ref (a 211) :: .ref (a 212) :: .int v200_27 :: .int v200_28 :: .int v200_29 :: .ref (a 213) :: .ref (a 214) :: .ref (a 215) :: .int v200_33 :: .int v200_34 :: .int v200_35 :: .ref (a 216) :: .ref (a 217) :: .ref (a 218) :: .ref (a 219) :: [])), (a 201, .inl (t 0, 841, .inl f201))]) (QP (fun r => rg 0 1 r)) 0 0 NoF := by
  refine Met.ofW (cc := cX12_isLiked) (maxL := 3) (ret := (some .boolean)) (by decide) rfl ?_
  intro p e s m args below meth c s₁ B hml hv
  obtain ⟨rfl, hP, hK, hN⟩ := hv
  have hx := B.exec
  have hb := B.bytes
  have hr := B.returns
  have hts : ∀ w ∈ TB, w.before _ s = true := fun w h => atoms_spec (ws := wd yX12_isLiked cX12_isLiked 3 (some .boolean)) B.pre w (List.mem_cons_of_mem _ h)
  have hown : s.vm.findClass RX12 = some m.cls := findClass_of_methodNamed B.named
  have hlocks := B.notSynchronized
  have hF : CallFix p m c cX12_isLiked 3 s _ TB RX12 := ⟨hx, hb, hml, hown, hts⟩
  have hl := lv_entry ([.ref (a 200), .int p0, .int p1]) (n := 3) (Nat.le_of_ble_eq_true rfl)
  rw [lg_entry_eq]
  generalize (lg_sl ([.ref (a 200), .int p0, .int p1]) ++ List.replicate (3 - (lg_sl ([.ref (a 200), .int p0, .int p1])).length) Slot.unset).toArray = ls at hl ⊢
  have hl : lv_has ls 3 [(0, .ref (a 200)), (1, .int p0), (2, .int p1)] := hl
  have hS : va_S NoF s.heap s.heap [] := va_S.rf
  have hP : va_P D classes [(a 200, .inr (12, .int v200_0 :: .ref (a 201) :: .ref (a 202) :: .ref (a 203) :: .ref (a 204) :: .int v200_5 :: .ref (a 205) :: .int v200_7 :: .int v200_8 :: .int v200_9 :: .int v200_10 :: .int v200_11 :: .int v200_12 :: .int v200_13 :: .ref (a 206) :: .int v200_15 :: .ref (a 207) :: .int v200_17 :: .int v200_18 :: .int v200_19 :: .ref (a 208) :: .int v200_21 :: .ref (a 209) :: .int v200_23 :: .ref (a 210) :: .ref (a 211) :: .ref (a 212) :: .int v200_27 :: .int v200_28 :: .int v200_29 :: .ref (a 213) :: .ref (a 214) :: .ref (a 215) :: .int v200_33 :: .int v200_34 :: .int v200_35 :: .ref (a 216) :: .ref (a 217) :: .ref (a 218) :: .ref (a 219) :: [])), (a 201, .inl (t 0, 841, .inl f201))] s.heap := hP
  refine lv_aload_n hx hb dX12_isLiked_0 rfl (lv_at hl 0 rfl) ?_
  refine lv_iload_n hx hb dX12_isLiked_1 rfl (lv_at hl 1 rfl) ?_
  refine lv_iload_n hx hb dX12_isLiked_2 rfl (lv_at hl 2 rfl) ?_
  refine y_pV hF (s_X12_likesOf l D t a v200_0 v200_5 v200_7 v200_8 v200_9 v200_10 v200_11 v200_12 v200_13 v200_15 v200_17 v200_18 v200_19 v200_21 v200_23 v200_27 v200_28 v200_29 v200_33 v200_34 v200_35 f201 p0 p1 r200_5 r200_7 r200_8 r200_9 r200_23 q201 rp0 rp1) m_1664 m_1666 m_s67 m_13 m_1667 hd_X12_likesOf ⟨Nat.le_of_ble_eq_true rfl, Nat.le_of_ble_eq_true rfl⟩ hK hN hP hS [0, 1] rfl 0 (ci := 12) rfl rfl rfl hl.1 rfl (Nat.le_of_ble_eq_true rfl) dX12_isLiked_3 ⟨Nat.zero_le _, Nat.zero_le _⟩ (fun r_1 H locs hr_1 hP hS => ?_)
  refine lv_if_gt (tgt := 25) hx hb dX12_isLiked_6 (by decide) (fun c_2 => ?_) (fun c_2 => ?_)
  · skip
    have h_3 : rg 1 9 r_1 := ⟨Int.le_trans (by decide) (c_ltR c_2 (rg_c (x := 0) (k := 0) (by decide))), (hr_1).2⟩
    refine lv_iconst (v := 1) hx hb dX12_isLiked_25 (by decide) ?_
    refine lv_goto (tgt := 30) hx hb dX12_isLiked_26 (by decide) ?_
    exact W.zret (v := 1) hx hb hr rfl (fun t9 ht hW => ⟨⟨1, (), rfl, (rg_w (c := 0) (d := 1) (rg_c (x := 1) (k := 1) (by decide)) (by decide) (by decide)), trivial⟩, hS.F ht⟩) hS.2.2 dX12_isLiked_30
  · skip
    have h_4 : rg 0 0 r_1 := ⟨(hr_1).1, Int.le_trans (c_nltR c_2 (rg_c (x := 0) (k := 0) (by decide))) (by decide)⟩
    refine lv_iload_n hx hb dX12_isLiked_9 rfl (lv_at hl 1 rfl) ?_
    refine lv_aload_n hx hb dX12_isLiked_10 rfl (lv_at hl 0 rfl) ?_
    refine va_get (D := D) (ci := 12) (v := .int v200_18) (C := RX12) (T := TX12) (N := 40) hx hb hts iX12 hown hK hP 0 rfl rfl 18 (by decide) (hts _ m_1361) (fun _ h9 => h9) rfl dX12_isLiked_11 ?_
    refine lv_icmp_ne (tgt := 29) hx hb dX12_isLiked_14 (by decide) (fun c_5 => ?_) (fun c_5 => ?_)
    · skip
      refine lv_iconst (v := 0) hx hb dX12_isLiked_29 (by decide) ?_
      exact W.zret (v := 0) hx hb hr rfl (fun t9 ht hW => ⟨⟨0, (), rfl, (rg_w (c := 0) (d := 1) (rg_c (x := 0) (k := 0) (by decide)) (by decide) (by decide)), trivial⟩, hS.F ht⟩) hS.2.2 dX12_isLiked_30
    · skip
      refine lv_iload_n hx hb dX12_isLiked_17 rfl (lv_at hl 2 rfl) ?_
      refine lv_aload_n hx hb dX12_isLiked_18 rfl (lv_at hl 0 rfl) ?_
      refine va_get (D := D) (ci := 12) (v := .int v200_19) (C := RX12) (T := TX12) (N := 40) hx hb hts iX12 hown hK hP 0 rfl rfl 19 (by decide) (hts _ m_1362) (fun _ h9 => h9) rfl dX12_isLiked_19 ?_
      refine lv_icmp_ne (tgt := 29) hx hb dX12_isLiked_22 (by decide) (fun c_6 => ?_) (fun c_6 => ?_)
      · skip
        refine lv_iconst (v := 0) hx hb dX12_isLiked_29 (by decide) ?_
        exact W.zret (v := 0) hx hb hr rfl (fun t9 ht hW => ⟨⟨0, (), rfl, (rg_w (c := 0) (d := 1) (rg_c (x := 0) (k := 0) (by decide)) (by decide) (by decide)), trivial⟩, hS.F ht⟩) hS.2.2 dX12_isLiked_30
      · skip
        refine lv_iconst (v := 1) hx hb dX12_isLiked_25 (by decide) ?_
        refine lv_goto (tgt := 30) hx hb dX12_isLiked_26 (by decide) ?_
        exact W.zret (v := 1) hx hb hr rfl (fun t9 ht hW => ⟨⟨1, (), rfl, (rg_w (c := 0) (d := 1) (rg_c (x := 1) (k := 1) (by decide)) (by decide) (by decide)), trivial⟩, hS.F ht⟩) hS.2.2 dX12_isLiked_30

set_option maxHeartbeats 4000000 in
set_option maxRecDepth 100000 in
theorem s_X12_isLonger (l : Launch) (D : va_G) (t : Nat → ClassId) (a : Nat → Nat) (v200_0 : Int32) (v200_5 : Int32) (v200_7 : Int32) (v200_8 : Int32) (v200_9 : Int32) (v200_10 : Int32) (v200_11 : Int32) (v200_12 : Int32) (v200_13 : Int32) (v200_15 : Int32) (v200_17 : Int32) (v200_18 : Int32) (v200_19 : Int32) (v200_21 : Int32) (v200_23 : Int32) (v200_27 : Int32) (v200_28 : Int32) (v200_29 : Int32) (v200_33 : Int32) (v200_34 : Int32) (v200_35 : Int32) (f201 : Nat → Int32) (p0 : Int32) (p1 : Int32) (r200_5 : rg 0 1600 v200_5) (r200_7 : rg 0 1600 v200_7) (r200_8 : rg 0 1600 v200_8) (r200_9 : rg 0 1600 v200_9) (r200_23 : rg 0 9 v200_23) (q201 : wR f201) (rp0 : rg 0 8 p0) (rp1 : rg 0 8 p1) : Met l yX12_isLonger (wd yX12_isLonger cX12_isLonger 3 (some .boolean)) (RM 1 0 0) (PreP D (TY t) [.ref (a 200), .int p0, .int p1] [(a 200, .inr (12, .int v200_0 :: .ref (a 201) :: .ref (a 202) :: .ref (a 203) :: .ref (a 204) :: .int v200_5 :: .ref (a 205) :: .int v200_7 :: .int v200_8 :: .int v200_9 :: .int v200_10 :: .int v200_11 :: .int v200_12 :: .int v200_13 :: .ref (a 206) :: .int v200_15 :: .ref (a 207) :: .int v200_17 :: .int v200_18 :: .int v200_19 :: .ref (a 208) :: .int v200_21 :: .ref (a 209) :: .int v200_23 :: .ref (a 210) :: .ref (a 211) :: .ref (a 212) :: .int v200_27 :: .int v200_28 :: .int v200_29 :: .ref (a 213) :: .ref (a 214) :: .ref (a 215) :: .int v200_33 :: .int v200_34 :: .int v200_35 :: .ref (a 216) :: .ref (a 217) :: .ref (a 218) :: .ref (a 219) :: [])), (a 201, .inl (t 0, 841, .inl f201))]) (QP (fun r => rg 0 1 r)) 0 0 NoF := by
  refine Met.ofW (cc := cX12_isLonger) (maxL := 3) (ret := (some .boolean)) (by decide) rfl ?_
  intro p e s m args below meth c s₁ B hml hv
  obtain ⟨rfl, hP, hK, hN⟩ := hv
  have hx := B.exec
  have hb := B.bytes
  have hr := B.returns
  have hts : ∀ w ∈ TB, w.before _ s = true := fun w h => atoms_spec (ws := wd yX12_isLonger cX12_isLonger 3 (some .boolean)) B.pre w (List.mem_cons_of_mem _ h)
  have hown : s.vm.findClass RX12 = some m.cls := findClass_of_methodNamed B.named
  have hlocks := B.notSynchronized
  have hF : CallFix p m c cX12_isLonger 3 s _ TB RX12 := ⟨hx, hb, hml, hown, hts⟩
  have hl := lv_entry ([.ref (a 200), .int p0, .int p1]) (n := 3) (Nat.le_of_ble_eq_true rfl)
  rw [lg_entry_eq]
  generalize (lg_sl ([.ref (a 200), .int p0, .int p1]) ++ List.replicate (3 - (lg_sl ([.ref (a 200), .int p0, .int p1])).length) Slot.unset).toArray = ls at hl ⊢
  have hl : lv_has ls 3 [(0, .ref (a 200)), (1, .int p0), (2, .int p1)] := hl
  have hS : va_S NoF s.heap s.heap [] := va_S.rf
  have hP : va_P D classes [(a 200, .inr (12, .int v200_0 :: .ref (a 201) :: .ref (a 202) :: .ref (a 203) :: .ref (a 204) :: .int v200_5 :: .ref (a 205) :: .int v200_7 :: .int v200_8 :: .int v200_9 :: .int v200_10 :: .int v200_11 :: .int v200_12 :: .int v200_13 :: .ref (a 206) :: .int v200_15 :: .ref (a 207) :: .int v200_17 :: .int v200_18 :: .int v200_19 :: .ref (a 208) :: .int v200_21 :: .ref (a 209) :: .int v200_23 :: .ref (a 210) :: .ref (a 211) :: .ref (a 212) :: .int v200_27 :: .int v200_28 :: .int v200_29 :: .ref (a 213) :: .ref (a 214) :: .ref (a 215) :: .int v200_33 :: .int v200_34 :: .int v200_35 :: .ref (a 216) :: .ref (a 217) :: .ref (a 218) :: .ref (a 219) :: [])), (a 201, .inl (t 0, 841, .inl f201))] s.heap := hP
  refine lv_aload_n hx hb dX12_isLonger_0 rfl (lv_at hl 0 rfl) ?_
  refine lv_iload_n hx hb dX12_isLonger_1 rfl (lv_at hl 1 rfl) ?_
  refine lv_iconst (v := 0) hx hb dX12_isLonger_2 (by decide) ?_
  refine y_pV hF (s_ofWord0 l D t a v200_0 v200_5 v200_7 v200_8 v200_9 v200_10 v200_11 v200_12 v200_13 v200_15 v200_17 v200_18 v200_19 v200_21 v200_23 v200_27 v200_28 v200_29 v200_33 v200_34 v200_35 f201 p0 0 r200_5 r200_7 r200_8 r200_9 r200_23 q201 rp0 (rg_c (x := 0) (k := 0) (by decide))) m_1612 m_1614 m_s58 m_13 m_1615 hd_X12_ofWord ⟨Nat.le_of_ble_eq_true rfl, Nat.le_of_ble_eq_true rfl⟩ hK hN hP hS [0, 1] rfl 0 (ci := 12) rfl rfl rfl hl.1 rfl (Nat.le_of_ble_eq_true rfl) dX12_isLonger_3 ⟨Nat.zero_le _, Nat.zero_le _⟩ (fun r_1 H locs hr_1 hP hS => ?_)
  refine lv_aload_n hx hb dX12_isLonger_6 rfl (lv_at hl 0 rfl) ?_
  refine lv_iload_n hx hb dX12_isLonger_7 rfl (lv_at hl 2 rfl) ?_
  refine lv_iconst (v := 0) hx hb dX12_isLonger_8 (by decide) ?_
  refine y_pV hF (s_ofWord0 l D t a v200_0 v200_5 v200_7 v200_8 v200_9 v200_10 v200_11 v200_12 v200_13 v200_15 v200_17 v200_18 v200_19 v200_21 v200_23 v200_27 v200_28 v200_29 v200_33 v200_34 v200_35 f201 p1 0 r200_5 r200_7 r200_8 r200_9 r200_23 q201 rp1 (rg_c (x := 0) (k := 0) (by decide))) m_1612 m_1614 m_s58 m_13 m_1615 hd_X12_ofWord ⟨Nat.le_of_ble_eq_true rfl, Nat.le_of_ble_eq_true rfl⟩ hK hN hP hS [0, 1] rfl 0 (ci := 12) rfl rfl rfl hl.1 rfl (Nat.le_of_ble_eq_true rfl) dX12_isLonger_9 ⟨Nat.zero_le _, Nat.zero_le _⟩ (fun r_2 H locs hr_2 hP hS => ?_)
  refine lv_icmp_eq (tgt := 38) hx hb dX12_isLonger_12 (by decide) (fun c_3 => ?_) (fun c_3 => ?_)
  · skip
    refine lv_iload_n hx hb dX12_isLonger_38 rfl (lv_at hl 1 rfl) ?_
    refine lv_iload_n hx hb dX12_isLonger_39 rfl (lv_at hl 2 rfl) ?_
    refine lv_icmp_ge (tgt := 47) hx hb dX12_isLonger_40 (by decide) (fun c_4 => ?_) (fun c_4 => ?_)
    · skip
      refine lv_iconst (v := 0) hx hb dX12_isLonger_47 (by decide) ?_
      exact W.zret (v := 0) hx hb hr rfl (fun t9 ht hW => ⟨⟨0, (), rfl, (rg_w (c := 0) (d := 1) (rg_c (x := 0) (k := 0) (by decide)) (by decide) (by decide)), trivial⟩, hS.F ht⟩) hS.2.2 dX12_isLonger_48
    · skip
      have h_5 : rg 0 7 p0 := ⟨(rp0).1, Int.le_trans (c_nleR c_4 rp1) (by decide)⟩
      have h_6 : rg 1 8 p1 := ⟨Int.le_trans (by decide) (c_nle c_4 rp0), (rp1).2⟩
      refine lv_iconst (v := 1) hx hb dX12_isLonger_43 (by decide) ?_
      refine lv_goto (tgt := 48) hx hb dX12_isLonger_44 (by decide) ?_
      exact W.zret (v := 1) hx hb hr rfl (fun t9 ht hW => ⟨⟨1, (), rfl, (rg_w (c := 0) (d := 1) (rg_c (x := 1) (k := 1) (by decide)) (by decide) (by decide)), trivial⟩, hS.F ht⟩) hS.2.2 dX12_isLonger_48
  · skip
    refine lv_aload_n hx hb dX12_isLonger_15 rfl (lv_at hl 0 rfl) ?_
    refine lv_iload_n hx hb dX12_isLonger_16 rfl (lv_at hl 1 rfl) ?_
    refine lv_iconst (v := 0) hx hb dX12_isLonger_17 (by decide) ?_
    refine y_pV hF (s_ofWord0 l D t a v200_0 v200_5 v200_7 v200_8 v200_9 v200_10 v200_11 v200_12 v200_13 v200_15 v200_17 v200_18 v200_19 v200_21 v200_23 v200_27 v200_28 v200_29 v200_33 v200_34 v200_35 f201 p0 0 r200_5 r200_7 r200_8 r200_9 r200_23 q201 rp0 (rg_c (x := 0) (k := 0) (by decide))) m_1612 m_1614 m_s58 m_13 m_1615 hd_X12_ofWord ⟨Nat.le_of_ble_eq_true rfl, Nat.le_of_ble_eq_true rfl⟩ hK hN hP hS [0, 1] rfl 0 (ci := 12) rfl rfl rfl hl.1 rfl (Nat.le_of_ble_eq_true rfl) dX12_isLonger_18 ⟨Nat.zero_le _, Nat.zero_le _⟩ (fun r_7 H locs hr_7 hP hS => ?_)
    refine lv_aload_n hx hb dX12_isLonger_21 rfl (lv_at hl 0 rfl) ?_
    refine lv_iload_n hx hb dX12_isLonger_22 rfl (lv_at hl 2 rfl) ?_
    refine lv_iconst (v := 0) hx hb dX12_isLonger_23 (by decide) ?_
    refine y_pV hF (s_ofWord0 l D t a v200_0 v200_5 v200_7 v200_8 v200_9 v200_10 v200_11 v200_12 v200_13 v200_15 v200_17 v200_18 v200_19 v200_21 v200_23 v200_27 v200_28 v200_29 v200_33 v200_34 v200_35 f201 p1 0 r200_5 r200_7 r200_8 r200_9 r200_23 q201 rp1 (rg_c (x := 0) (k := 0) (by decide))) m_1612 m_1614 m_s58 m_13 m_1615 hd_X12_ofWord ⟨Nat.le_of_ble_eq_true rfl, Nat.le_of_ble_eq_true rfl⟩ hK hN hP hS [0, 1] rfl 0 (ci := 12) rfl rfl rfl hl.1 rfl (Nat.le_of_ble_eq_true rfl) dX12_isLonger_24 ⟨Nat.zero_le _, Nat.zero_le _⟩ (fun r_8 H locs hr_8 hP hS => ?_)
    refine lv_icmp_le (tgt := 34) hx hb dX12_isLonger_27 (by decide) (fun c_9 => ?_) (fun c_9 => ?_)
    · skip
      refine lv_iconst (v := 0) hx hb dX12_isLonger_34 (by decide) ?_
      refine lv_goto (tgt := 48) hx hb dX12_isLonger_35 (by decide) ?_
      exact W.zret (v := 0) hx hb hr rfl (fun t9 ht hW => ⟨⟨0, (), rfl, (rg_w (c := 0) (d := 1) (rg_c (x := 0) (k := 0) (by decide)) (by decide) (by decide)), trivial⟩, hS.F ht⟩) hS.2.2 dX12_isLonger_48
    · skip
      have h_10 : rg 1 12 r_7 := ⟨Int.le_trans (by decide) (c_nle c_9 hr_8), (hr_7).2⟩
      have h_11 : rg 0 11 r_8 := ⟨(hr_8).1, Int.le_trans (c_nleR c_9 hr_7) (by decide)⟩
      refine lv_iconst (v := 1) hx hb dX12_isLonger_30 (by decide) ?_
      refine lv_goto (tgt := 48) hx hb dX12_isLonger_31 (by decide) ?_
      exact W.zret (v := 1) hx hb hr rfl (fun t9 ht hW => ⟨⟨1, (), rfl, (rg_w (c := 0) (d := 1) (rg_c (x := 1) (k := 1) (by decide)) (by decide) (by decide)), trivial⟩, hS.F ht⟩) hS.2.2 dX12_isLonger_48

set_option maxHeartbeats 4000000 in
set_option maxRecDepth 100000 in
theorem s_X12_isAhead (l : Launch) (D : va_G) (t : Nat → ClassId) (a : Nat → Nat) (v200_0 : Int32) (v200_5 : Int32) (v200_7 : Int32) (v200_8 : Int32) (v200_9 : Int32) (v200_10 : Int32) (v200_11 : Int32) (v200_12 : Int32) (v200_13 : Int32) (v200_15 : Int32) (v200_17 : Int32) (v200_18 : Int32) (v200_19 : Int32) (v200_21 : Int32) (v200_23 : Int32) (v200_27 : Int32) (v200_28 : Int32) (v200_29 : Int32) (v200_33 : Int32) (v200_34 : Int32) (v200_35 : Int32) (f201 : Nat → Int32) (p0 : Int32) (p1 : Int32) (p2 : Int32) (r200_5 : rg 0 1600 v200_5) (r200_7 : rg 0 1600 v200_7) (r200_8 : rg 0 1600 v200_8) (r200_9 : rg 0 1600 v200_9) (r200_23 : rg 0 9 v200_23) (q201 : wR f201) (rp0 : rg 0 8 p0) (rp1 : rg 0 8 p1) (rp2 : rg 0 8 p2) : Met l yX12_isAhead (wd yX12_isAhead cX12_isAhead 4 (some .boolean)) (RM 2 0 0) (PreP D (TY t) [.ref (a 200), .int p0, .int p1, .int p2] [(a 200, .inr (12, .int v200_0 :: .ref (a 201) :: .ref (a 202) :: .ref (a 203) :: .ref (a 204) :: .int v200_5 :: .ref (a 205) :: .int v200_7 :: .int v200_8 :: .int v200_9 :: .int v200_10 :: .int v200_11 :: .int v200_12 :: .int v200_13 :: .ref (a 206) :: .int v200_15 :: .ref (a 207) :: .int v200_17 :: .int v200_18 :: .int v200_19 :: .ref (a 208) :: .int v200_21 :: .ref (a 209) :: .int v200_23 :: .ref (a 210) :: .ref (a 211) :: .ref (a 212) :: .int v200_27 :: .int v200_28 :: .int v200_29 :: .ref (a 213) :: .ref (a 214) :: .ref (a 215) :: .int v200_33 :: .int v200_34 :: .int v200_35 :: .ref (a 216) :: .ref (a 217) :: .ref (a 218) :: .ref (a 219) :: [])), (a 201, .inl (t 0, 841, .inl f201))]) (QP (fun r => rg 0 1 r)) 0 0 NoF := by
  refine Met.ofW (cc := cX12_isAhead) (maxL := 4) (ret := (some .boolean)) (by decide) rfl ?_
  intro p e s m args below meth c s₁ B hml hv
  obtain ⟨rfl, hP, hK, hN⟩ := hv
  have hx := B.exec
  have hb := B.bytes
  have hr := B.returns
  have hts : ∀ w ∈ TB, w.before _ s = true := fun w h => atoms_spec (ws := wd yX12_isAhead cX12_isAhead 4 (some .boolean)) B.pre w (List.mem_cons_of_mem _ h)
  have hown : s.vm.findClass RX12 = some m.cls := findClass_of_methodNamed B.named
  have hlocks := B.notSynchronized
  have hF : CallFix p m c cX12_isAhead 4 s _ TB RX12 := ⟨hx, hb, hml, hown, hts⟩
  have hl := lv_entry ([.ref (a 200), .int p0, .int p1, .int p2]) (n := 4) (Nat.le_of_ble_eq_true rfl)
  rw [lg_entry_eq]
  generalize (lg_sl ([.ref (a 200), .int p0, .int p1, .int p2]) ++ List.replicate (4 - (lg_sl ([.ref (a 200), .int p0, .int p1, .int p2])).length) Slot.unset).toArray = ls at hl ⊢
  have hl : lv_has ls 4 [(0, .ref (a 200)), (1, .int p0), (2, .int p1), (3, .int p2)] := hl
  have hS : va_S NoF s.heap s.heap [] := va_S.rf
  have hP : va_P D classes [(a 200, .inr (12, .int v200_0 :: .ref (a 201) :: .ref (a 202) :: .ref (a 203) :: .ref (a 204) :: .int v200_5 :: .ref (a 205) :: .int v200_7 :: .int v200_8 :: .int v200_9 :: .int v200_10 :: .int v200_11 :: .int v200_12 :: .int v200_13 :: .ref (a 206) :: .int v200_15 :: .ref (a 207) :: .int v200_17 :: .int v200_18 :: .int v200_19 :: .ref (a 208) :: .int v200_21 :: .ref (a 209) :: .int v200_23 :: .ref (a 210) :: .ref (a 211) :: .ref (a 212) :: .int v200_27 :: .int v200_28 :: .int v200_29 :: .ref (a 213) :: .ref (a 214) :: .ref (a 215) :: .int v200_33 :: .int v200_34 :: .int v200_35 :: .ref (a 216) :: .ref (a 217) :: .ref (a 218) :: .ref (a 219) :: [])), (a 201, .inl (t 0, 841, .inl f201))] s.heap := hP
  refine lv_iload_n hx hb dX12_isAhead_0 rfl (lv_at hl 1 rfl) ?_
  refine lv_aload_n hx hb dX12_isAhead_1 rfl (lv_at hl 0 rfl) ?_
  refine va_get (D := D) (ci := 12) (v := .int v200_18) (C := RX12) (T := TX12) (N := 40) hx hb hts iX12 hown hK hP 0 rfl rfl 18 (by decide) (hts _ m_1361) (fun _ h9 => h9) rfl dX12_isAhead_2 ?_
  refine lv_icmp_ne (tgt := 38) hx hb dX12_isAhead_5 (by decide) (fun c_1 => ?_) (fun c_1 => ?_)
  · skip
    refine lv_aload_n hx hb dX12_isAhead_38 rfl (lv_at hl 0 rfl) ?_
    refine lv_iload_n hx hb dX12_isAhead_39 rfl (lv_at hl 1 rfl) ?_
    refine lv_iload_n hx hb dX12_isAhead_40 rfl (lv_at hl 2 rfl) ?_
    refine y_pV hF (s_X12_likesOf l D t a v200_0 v200_5 v200_7 v200_8 v200_9 v200_10 v200_11 v200_12 v200_13 v200_15 v200_17 v200_18 v200_19 v200_21 v200_23 v200_27 v200_28 v200_29 v200_33 v200_34 v200_35 f201 p0 p1 r200_5 r200_7 r200_8 r200_9 r200_23 q201 rp0 rp1) m_1664 m_1666 m_s67 m_13 m_1667 hd_X12_likesOf ⟨Nat.le_of_ble_eq_true rfl, Nat.le_of_ble_eq_true rfl⟩ hK hN hP hS [0, 1] rfl 0 (ci := 12) rfl rfl rfl hl.1 rfl (Nat.le_of_ble_eq_true rfl) dX12_isAhead_41 ⟨Nat.zero_le _, Nat.zero_le _⟩ (fun r_2 H locs hr_2 hP hS => ?_)
    refine lv_aload_n hx hb dX12_isAhead_44 rfl (lv_at hl 0 rfl) ?_
    refine lv_iload_n hx hb dX12_isAhead_45 rfl (lv_at hl 1 rfl) ?_
    refine lv_iload_n hx hb dX12_isAhead_46 rfl (lv_at hl 3 rfl) ?_
    refine y_pV hF (s_X12_likesOf l D t a v200_0 v200_5 v200_7 v200_8 v200_9 v200_10 v200_11 v200_12 v200_13 v200_15 v200_17 v200_18 v200_19 v200_21 v200_23 v200_27 v200_28 v200_29 v200_33 v200_34 v200_35 f201 p0 p2 r200_5 r200_7 r200_8 r200_9 r200_23 q201 rp0 rp2) m_1664 m_1666 m_s67 m_13 m_1667 hd_X12_likesOf ⟨Nat.le_of_ble_eq_true rfl, Nat.le_of_ble_eq_true rfl⟩ hK hN hP hS [0, 1] rfl 0 (ci := 12) rfl rfl rfl hl.1 rfl (Nat.le_of_ble_eq_true rfl) dX12_isAhead_47 ⟨Nat.zero_le _, Nat.zero_le _⟩ (fun r_3 H locs hr_3 hP hS => ?_)
    refine lv_icmp_eq (tgt := 74) hx hb dX12_isAhead_50 (by decide) (fun c_4 => ?_) (fun c_4 => ?_)
    · skip
      refine lv_aload_n hx hb dX12_isAhead_74 rfl (lv_at hl 0 rfl) ?_
      refine lv_iload_n hx hb dX12_isAhead_75 rfl (lv_at hl 2 rfl) ?_
      refine lv_iload_n hx hb dX12_isAhead_76 rfl (lv_at hl 3 rfl) ?_
      refine y_pV hF (s_X12_isLonger l D t a v200_0 v200_5 v200_7 v200_8 v200_9 v200_10 v200_11 v200_12 v200_13 v200_15 v200_17 v200_18 v200_19 v200_21 v200_23 v200_27 v200_28 v200_29 v200_33 v200_34 v200_35 f201 p1 p2 r200_5 r200_7 r200_8 r200_9 r200_23 q201 rp1 rp2) m_1687 m_1689 m_s71 m_13 m_1690 hd_X12_isLonger ⟨Nat.le_of_ble_eq_true rfl, Nat.le_of_ble_eq_true rfl⟩ hK hN hP hS [0, 1] rfl 0 (ci := 12) rfl rfl rfl hl.1 rfl (Nat.le_of_ble_eq_true rfl) dX12_isAhead_77 ⟨Nat.zero_le _, Nat.zero_le _⟩ (fun r_5 H locs hr_5 hP hS => ?_)
      exact W.zret (v := r_5) hx hb hr (nb_rg hr_5) (fun t9 ht hW => ⟨⟨r_5, (), rfl, hr_5, trivial⟩, hS.F ht⟩) hS.2.2 dX12_isAhead_80
    · skip
      refine lv_aload_n hx hb dX12_isAhead_53 rfl (lv_at hl 0 rfl) ?_
      refine lv_iload_n hx hb dX12_isAhead_54 rfl (lv_at hl 1 rfl) ?_
      refine lv_iload_n hx hb dX12_isAhead_55 rfl (lv_at hl 2 rfl) ?_
      refine y_pV hF (s_X12_likesOf l D t a v200_0 v200_5 v200_7 v200_8 v200_9 v200_10 v200_11 v200_12 v200_13 v200_15 v200_17 v200_18 v200_19 v200_21 v200_23 v200_27 v200_28 v200_29 v200_33 v200_34 v200_35 f201 p0 p1 r200_5 r200_7 r200_8 r200_9 r200_23 q201 rp0 rp1) m_1664 m_1666 m_s67 m_13 m_1667 hd_X12_likesOf ⟨Nat.le_of_ble_eq_true rfl, Nat.le_of_ble_eq_true rfl⟩ hK hN hP hS [0, 1] rfl 0 (ci := 12) rfl rfl rfl hl.1 rfl (Nat.le_of_ble_eq_true rfl) dX12_isAhead_56 ⟨Nat.zero_le _, Nat.zero_le _⟩ (fun r_6 H locs hr_6 hP hS => ?_)
      refine lv_aload_n hx hb dX12_isAhead_59 rfl (lv_at hl 0 rfl) ?_
      refine lv_iload_n hx hb dX12_isAhead_60 rfl (lv_at hl 1 rfl) ?_
      refine lv_iload_n hx hb dX12_isAhead_61 rfl (lv_at hl 3 rfl) ?_
      refine y_pV hF (s_X12_likesOf l D t a v200_0 v200_5 v200_7 v200_8 v200_9 v200_10 v200_11 v200_12 v200_13 v200_15 v200_17 v200_18 v200_19 v200_21 v200_23 v200_27 v200_28 v200_29 v200_33 v200_34 v200_35 f201 p0 p2 r200_5 r200_7 r200_8 r200_9 r200_23 q201 rp0 rp2) m_1664 m_1666 m_s67 m_13 m_1667 hd_X12_likesOf ⟨Nat.le_of_ble_eq_true rfl, Nat.le_of_ble_eq_true rfl⟩ hK hN hP hS [0, 1] rfl 0 (ci := 12) rfl rfl rfl hl.1 rfl (Nat.le_of_ble_eq_true rfl) dX12_isAhead_62 ⟨Nat.zero_le _, Nat.zero_le _⟩ (fun r_7 H locs hr_7 hP hS => ?_)
      refine lv_icmp_le (tgt := 72) hx hb dX12_isAhead_65 (by decide) (fun c_8 => ?_) (fun c_8 => ?_)
      · skip
        refine lv_iconst (v := 0) hx hb dX12_isAhead_72 (by decide) ?_
        exact W.zret (v := 0) hx hb hr rfl (fun t9 ht hW => ⟨⟨0, (), rfl, (rg_w (c := 0) (d := 1) (rg_c (x := 0) (k := 0) (by decide)) (by decide) (by decide)), trivial⟩, hS.F ht⟩) hS.2.2 dX12_isAhead_73
      · skip
        have h_9 : rg 1 9 r_6 := ⟨Int.le_trans (by decide) (c_nle c_8 hr_7), (hr_6).2⟩
        have h_10 : rg 0 8 r_7 := ⟨(hr_7).1, Int.le_trans (c_nleR c_8 hr_6) (by decide)⟩
        refine lv_iconst (v := 1) hx hb dX12_isAhead_68 (by decide) ?_
        refine lv_goto (tgt := 73) hx hb dX12_isAhead_69 (by decide) ?_
        exact W.zret (v := 1) hx hb hr rfl (fun t9 ht hW => ⟨⟨1, (), rfl, (rg_w (c := 0) (d := 1) (rg_c (x := 1) (k := 1) (by decide)) (by decide) (by decide)), trivial⟩, hS.F ht⟩) hS.2.2 dX12_isAhead_73
  · skip
    refine lv_iload_n hx hb dX12_isAhead_8 rfl (lv_at hl 2 rfl) ?_
    refine lv_aload_n hx hb dX12_isAhead_9 rfl (lv_at hl 0 rfl) ?_
    refine va_get (D := D) (ci := 12) (v := .int v200_19) (C := RX12) (T := TX12) (N := 40) hx hb hts iX12 hown hK hP 0 rfl rfl 19 (by decide) (hts _ m_1362) (fun _ h9 => h9) rfl dX12_isAhead_10 ?_
    refine lv_icmp_eq (tgt := 24) hx hb dX12_isAhead_13 (by decide) (fun c_11 => ?_) (fun c_11 => ?_)
    · skip
      refine lv_iload_n hx hb dX12_isAhead_24 rfl (lv_at hl 2 rfl) ?_
      refine lv_aload_n hx hb dX12_isAhead_25 rfl (lv_at hl 0 rfl) ?_
      refine va_get (D := D) (ci := 12) (v := .int v200_19) (C := RX12) (T := TX12) (N := 40) hx hb hts iX12 hown hK hP 0 rfl rfl 19 (by decide) (hts _ m_1362) (fun _ h9 => h9) rfl dX12_isAhead_26 ?_
      refine lv_icmp_ne (tgt := 36) hx hb dX12_isAhead_29 (by decide) (fun c_12 => ?_) (fun c_12 => ?_)
      · skip
        refine lv_iconst (v := 0) hx hb dX12_isAhead_36 (by decide) ?_
        exact W.zret (v := 0) hx hb hr rfl (fun t9 ht hW => ⟨⟨0, (), rfl, (rg_w (c := 0) (d := 1) (rg_c (x := 0) (k := 0) (by decide)) (by decide) (by decide)), trivial⟩, hS.F ht⟩) hS.2.2 dX12_isAhead_37
      · skip
        refine lv_iconst (v := 1) hx hb dX12_isAhead_32 (by decide) ?_
        refine lv_goto (tgt := 37) hx hb dX12_isAhead_33 (by decide) ?_
        exact W.zret (v := 1) hx hb hr rfl (fun t9 ht hW => ⟨⟨1, (), rfl, (rg_w (c := 0) (d := 1) (rg_c (x := 1) (k := 1) (by decide)) (by decide) (by decide)), trivial⟩, hS.F ht⟩) hS.2.2 dX12_isAhead_37
    · skip
      refine lv_iload_n hx hb dX12_isAhead_16 rfl (lv_at hl 3 rfl) ?_
      refine lv_aload_n hx hb dX12_isAhead_17 rfl (lv_at hl 0 rfl) ?_
      refine va_get (D := D) (ci := 12) (v := .int v200_19) (C := RX12) (T := TX12) (N := 40) hx hb hts iX12 hown hK hP 0 rfl rfl 19 (by decide) (hts _ m_1362) (fun _ h9 => h9) rfl dX12_isAhead_18 ?_
      refine lv_icmp_ne (tgt := 38) hx hb dX12_isAhead_21 (by decide) (fun c_13 => ?_) (fun c_13 => ?_)
      · skip
        refine lv_aload_n hx hb dX12_isAhead_38 rfl (lv_at hl 0 rfl) ?_
        refine lv_iload_n hx hb dX12_isAhead_39 rfl (lv_at hl 1 rfl) ?_
        refine lv_iload_n hx hb dX12_isAhead_40 rfl (lv_at hl 2 rfl) ?_
        refine y_pV hF (s_X12_likesOf l D t a v200_0 v200_5 v200_7 v200_8 v200_9 v200_10 v200_11 v200_12 v200_13 v200_15 v200_17 v200_18 v200_19 v200_21 v200_23 v200_27 v200_28 v200_29 v200_33 v200_34 v200_35 f201 p0 p1 r200_5 r200_7 r200_8 r200_9 r200_23 q201 rp0 rp1) m_1664 m_1666 m_s67 m_13 m_1667 hd_X12_likesOf ⟨Nat.le_of_ble_eq_true rfl, Nat.le_of_ble_eq_true rfl⟩ hK hN hP hS [0, 1] rfl 0 (ci := 12) rfl rfl rfl hl.1 rfl (Nat.le_of_ble_eq_true rfl) dX12_isAhead_41 ⟨Nat.zero_le _, Nat.zero_le _⟩ (fun r_14 H locs hr_14 hP hS => ?_)
        refine lv_aload_n hx hb dX12_isAhead_44 rfl (lv_at hl 0 rfl) ?_
        refine lv_iload_n hx hb dX12_isAhead_45 rfl (lv_at hl 1 rfl) ?_
        refine lv_iload_n hx hb dX12_isAhead_46 rfl (lv_at hl 3 rfl) ?_
        refine y_pV hF (s_X12_likesOf l D t a v200_0 v200_5 v200_7 v200_8 v200_9 v200_10 v200_11 v200_12 v200_13 v200_15 v200_17 v200_18 v200_19 v200_21 v200_23 v200_27 v200_28 v200_29 v200_33 v200_34 v200_35 f201 p0 p2 r200_5 r200_7 r200_8 r200_9 r200_23 q201 rp0 rp2) m_1664 m_1666 m_s67 m_13 m_1667 hd_X12_likesOf ⟨Nat.le_of_ble_eq_true rfl, Nat.le_of_ble_eq_true rfl⟩ hK hN hP hS [0, 1] rfl 0 (ci := 12) rfl rfl rfl hl.1 rfl (Nat.le_of_ble_eq_true rfl) dX12_isAhead_47 ⟨Nat.zero_le _, Nat.zero_le _⟩ (fun r_15 H locs hr_15 hP hS => ?_)
        refine lv_icmp_eq (tgt := 74) hx hb dX12_isAhead_50 (by decide) (fun c_16 => ?_) (fun c_16 => ?_)
        · skip
          refine lv_aload_n hx hb dX12_isAhead_74 rfl (lv_at hl 0 rfl) ?_
          refine lv_iload_n hx hb dX12_isAhead_75 rfl (lv_at hl 2 rfl) ?_
          refine lv_iload_n hx hb dX12_isAhead_76 rfl (lv_at hl 3 rfl) ?_
          refine y_pV hF (s_X12_isLonger l D t a v200_0 v200_5 v200_7 v200_8 v200_9 v200_10 v200_11 v200_12 v200_13 v200_15 v200_17 v200_18 v200_19 v200_21 v200_23 v200_27 v200_28 v200_29 v200_33 v200_34 v200_35 f201 p1 p2 r200_5 r200_7 r200_8 r200_9 r200_23 q201 rp1 rp2) m_1687 m_1689 m_s71 m_13 m_1690 hd_X12_isLonger ⟨Nat.le_of_ble_eq_true rfl, Nat.le_of_ble_eq_true rfl⟩ hK hN hP hS [0, 1] rfl 0 (ci := 12) rfl rfl rfl hl.1 rfl (Nat.le_of_ble_eq_true rfl) dX12_isAhead_77 ⟨Nat.zero_le _, Nat.zero_le _⟩ (fun r_17 H locs hr_17 hP hS => ?_)
          exact W.zret (v := r_17) hx hb hr (nb_rg hr_17) (fun t9 ht hW => ⟨⟨r_17, (), rfl, hr_17, trivial⟩, hS.F ht⟩) hS.2.2 dX12_isAhead_80
        · skip
          refine lv_aload_n hx hb dX12_isAhead_53 rfl (lv_at hl 0 rfl) ?_
          refine lv_iload_n hx hb dX12_isAhead_54 rfl (lv_at hl 1 rfl) ?_
          refine lv_iload_n hx hb dX12_isAhead_55 rfl (lv_at hl 2 rfl) ?_
          refine y_pV hF (s_X12_likesOf l D t a v200_0 v200_5 v200_7 v200_8 v200_9 v200_10 v200_11 v200_12 v200_13 v200_15 v200_17 v200_18 v200_19 v200_21 v200_23 v200_27 v200_28 v200_29 v200_33 v200_34 v200_35 f201 p0 p1 r200_5 r200_7 r200_8 r200_9 r200_23 q201 rp0 rp1) m_1664 m_1666 m_s67 m_13 m_1667 hd_X12_likesOf ⟨Nat.le_of_ble_eq_true rfl, Nat.le_of_ble_eq_true rfl⟩ hK hN hP hS [0, 1] rfl 0 (ci := 12) rfl rfl rfl hl.1 rfl (Nat.le_of_ble_eq_true rfl) dX12_isAhead_56 ⟨Nat.zero_le _, Nat.zero_le _⟩ (fun r_18 H locs hr_18 hP hS => ?_)
          refine lv_aload_n hx hb dX12_isAhead_59 rfl (lv_at hl 0 rfl) ?_
          refine lv_iload_n hx hb dX12_isAhead_60 rfl (lv_at hl 1 rfl) ?_
          refine lv_iload_n hx hb dX12_isAhead_61 rfl (lv_at hl 3 rfl) ?_
          refine y_pV hF (s_X12_likesOf l D t a v200_0 v200_5 v200_7 v200_8 v200_9 v200_10 v200_11 v200_12 v200_13 v200_15 v200_17 v200_18 v200_19 v200_21 v200_23 v200_27 v200_28 v200_29 v200_33 v200_34 v200_35 f201 p0 p2 r200_5 r200_7 r200_8 r200_9 r200_23 q201 rp0 rp2) m_1664 m_1666 m_s67 m_13 m_1667 hd_X12_likesOf ⟨Nat.le_of_ble_eq_true rfl, Nat.le_of_ble_eq_true rfl⟩ hK hN hP hS [0, 1] rfl 0 (ci := 12) rfl rfl rfl hl.1 rfl (Nat.le_of_ble_eq_true rfl) dX12_isAhead_62 ⟨Nat.zero_le _, Nat.zero_le _⟩ (fun r_19 H locs hr_19 hP hS => ?_)
          refine lv_icmp_le (tgt := 72) hx hb dX12_isAhead_65 (by decide) (fun c_20 => ?_) (fun c_20 => ?_)
          · skip
            refine lv_iconst (v := 0) hx hb dX12_isAhead_72 (by decide) ?_
            exact W.zret (v := 0) hx hb hr rfl (fun t9 ht hW => ⟨⟨0, (), rfl, (rg_w (c := 0) (d := 1) (rg_c (x := 0) (k := 0) (by decide)) (by decide) (by decide)), trivial⟩, hS.F ht⟩) hS.2.2 dX12_isAhead_73
          · skip
            have h_21 : rg 1 9 r_18 := ⟨Int.le_trans (by decide) (c_nle c_20 hr_19), (hr_18).2⟩
            have h_22 : rg 0 8 r_19 := ⟨(hr_19).1, Int.le_trans (c_nleR c_20 hr_18) (by decide)⟩
            refine lv_iconst (v := 1) hx hb dX12_isAhead_68 (by decide) ?_
            refine lv_goto (tgt := 73) hx hb dX12_isAhead_69 (by decide) ?_
            exact W.zret (v := 1) hx hb hr rfl (fun t9 ht hW => ⟨⟨1, (), rfl, (rg_w (c := 0) (d := 1) (rg_c (x := 1) (k := 1) (by decide)) (by decide) (by decide)), trivial⟩, hS.F ht⟩) hS.2.2 dX12_isAhead_73
      · skip
        refine lv_iload_n hx hb dX12_isAhead_24 rfl (lv_at hl 2 rfl) ?_
        refine lv_aload_n hx hb dX12_isAhead_25 rfl (lv_at hl 0 rfl) ?_
        refine va_get (D := D) (ci := 12) (v := .int v200_19) (C := RX12) (T := TX12) (N := 40) hx hb hts iX12 hown hK hP 0 rfl rfl 19 (by decide) (hts _ m_1362) (fun _ h9 => h9) rfl dX12_isAhead_26 ?_
        refine lv_icmp_ne (tgt := 36) hx hb dX12_isAhead_29 (by decide) (fun c_23 => ?_) (fun c_23 => ?_)
        · skip
          refine lv_iconst (v := 0) hx hb dX12_isAhead_36 (by decide) ?_
          exact W.zret (v := 0) hx hb hr rfl (fun t9 ht hW => ⟨⟨0, (), rfl, (rg_w (c := 0) (d := 1) (rg_c (x := 0) (k := 0) (by decide)) (by decide) (by decide)), trivial⟩, hS.F ht⟩) hS.2.2 dX12_isAhead_37
        · skip
          refine lv_iconst (v := 1) hx hb dX12_isAhead_32 (by decide) ?_
          refine lv_goto (tgt := 37) hx hb dX12_isAhead_33 (by decide) ?_
          exact W.zret (v := 1) hx hb hr rfl (fun t9 ht hW => ⟨⟨1, (), rfl, (rg_w (c := 0) (d := 1) (rg_c (x := 1) (k := 1) (by decide)) (by decide) (by decide)), trivial⟩, hS.F ht⟩) hS.2.2 dX12_isAhead_37

set_option maxHeartbeats 4000000 in
set_option maxRecDepth 100000 in
theorem s_X12_firstOf (l : Launch) (D : va_G) (t : Nat → ClassId) (a : Nat → Nat) (v200_0 : Int32) (v200_5 : Int32) (v200_7 : Int32) (v200_8 : Int32) (v200_9 : Int32) (v200_10 : Int32) (v200_11 : Int32) (v200_12 : Int32) (v200_13 : Int32) (v200_15 : Int32) (v200_17 : Int32) (v200_18 : Int32) (v200_19 : Int32) (v200_21 : Int32) (v200_23 : Int32) (v200_27 : Int32) (v200_28 : Int32) (v200_29 : Int32) (v200_33 : Int32) (v200_34 : Int32) (v200_35 : Int32) (f201 : Nat → Int32) (p0 : Int32) (p1 : Int32) (r200_5 : rg 0 1600 v200_5) (r200_7 : rg 0 1600 v200_7) (r200_8 : rg 0 1600 v200_8) (r200_9 : rg 0 1600 v200_9) (r200_23 : rg 0 9 v200_23) (q201 : wR f201) (rp0 : rg 0 8 p0) : Met l yX12_firstOf (wd yX12_firstOf cX12_firstOf 5 (some .int)) (RM 3 0 0) (PreP D (TY t) [.ref (a 200), .int p0, .int p1] [(a 200, .inr (12, .int v200_0 :: .ref (a 201) :: .ref (a 202) :: .ref (a 203) :: .ref (a 204) :: .int v200_5 :: .ref (a 205) :: .int v200_7 :: .int v200_8 :: .int v200_9 :: .int v200_10 :: .int v200_11 :: .int v200_12 :: .int v200_13 :: .ref (a 206) :: .int v200_15 :: .ref (a 207) :: .int v200_17 :: .int v200_18 :: .int v200_19 :: .ref (a 208) :: .int v200_21 :: .ref (a 209) :: .int v200_23 :: .ref (a 210) :: .ref (a 211) :: .ref (a 212) :: .int v200_27 :: .int v200_28 :: .int v200_29 :: .ref (a 213) :: .ref (a 214) :: .ref (a 215) :: .int v200_33 :: .int v200_34 :: .int v200_35 :: .ref (a 216) :: .ref (a 217) :: .ref (a 218) :: .ref (a 219) :: [])), (a 201, .inl (t 0, 841, .inl f201))]) (QP (fun r => rg (-1) 8 r)) 0 0 NoF := by
  refine Met.ofW (cc := cX12_firstOf) (maxL := 5) (ret := (some .int)) (by decide) rfl ?_
  intro p e s m args below meth c s₁ B hml hv
  obtain ⟨rfl, hP, hK, hN⟩ := hv
  have hx := B.exec
  have hb := B.bytes
  have hr := B.returns
  have hts : ∀ w ∈ TB, w.before _ s = true := fun w h => atoms_spec (ws := wd yX12_firstOf cX12_firstOf 5 (some .int)) B.pre w (List.mem_cons_of_mem _ h)
  have hown : s.vm.findClass RX12 = some m.cls := findClass_of_methodNamed B.named
  have hlocks := B.notSynchronized
  have hF : CallFix p m c cX12_firstOf 5 s _ TB RX12 := ⟨hx, hb, hml, hown, hts⟩
  have hl := lv_entry ([.ref (a 200), .int p0, .int p1]) (n := 5) (Nat.le_of_ble_eq_true rfl)
  rw [lg_entry_eq]
  generalize (lg_sl ([.ref (a 200), .int p0, .int p1]) ++ List.replicate (5 - (lg_sl ([.ref (a 200), .int p0, .int p1])).length) Slot.unset).toArray = ls at hl ⊢
  have hl : lv_has ls 5 [(0, .ref (a 200)), (1, .int p0), (2, .int p1)] := hl
  have hS : va_S NoF s.heap s.heap [] := va_S.rf
  have hP : va_P D classes [(a 200, .inr (12, .int v200_0 :: .ref (a 201) :: .ref (a 202) :: .ref (a 203) :: .ref (a 204) :: .int v200_5 :: .ref (a 205) :: .int v200_7 :: .int v200_8 :: .int v200_9 :: .int v200_10 :: .int v200_11 :: .int v200_12 :: .int v200_13 :: .ref (a 206) :: .int v200_15 :: .ref (a 207) :: .int v200_17 :: .int v200_18 :: .int v200_19 :: .ref (a 208) :: .int v200_21 :: .ref (a 209) :: .int v200_23 :: .ref (a 210) :: .ref (a 211) :: .ref (a 212) :: .int v200_27 :: .int v200_28 :: .int v200_29 :: .ref (a 213) :: .ref (a 214) :: .ref (a 215) :: .int v200_33 :: .int v200_34 :: .int v200_35 :: .ref (a 216) :: .ref (a 217) :: .ref (a 218) :: .ref (a 219) :: [])), (a 201, .inl (t 0, 841, .inl f201))] s.heap := hP
  refine lv_iconst (v := (-1)) hx hb dX12_firstOf_0 (by decide) ?_
  refine lv_istore_n (lv' := [(3, .int (-1)), (0, .ref (a 200)), (1, .int p0), (2, .int p1)]) hx hb dX12_firstOf_1 rfl hl (by decide) rfl (fun ls hl => ?_)
  refine lv_iconst (v := 0) hx hb dX12_firstOf_2 (by decide) ?_
  refine lv_istore (lv' := [(4, .int 0), (3, .int (-1)), (0, .ref (a 200)), (1, .int p0), (2, .int p1)]) hx hb dX12_firstOf_3 hl (by decide) rfl (fun ls hl => ?_)
  refine loopW (α := US) (fun n y_1 H locs ls => 9 < (y_1.1 0).toInt + (n : Int) ∧ rg 0 9 (y_1.1 0) ∧ rg (-1) 8 (y_1.1 1) ∧ va_P D classes [(a 200, .inr (12, .int v200_0 :: .ref (a 201) :: .ref (a 202) :: .ref (a 203) :: .ref (a 204) :: .int v200_5 :: .ref (a 205) :: .int v200_7 :: .int v200_8 :: .int v200_9 :: .int v200_10 :: .int v200_11 :: .int v200_12 :: .int v200_13 :: .ref (a 206) :: .int v200_15 :: .ref (a 207) :: .int v200_17 :: .int v200_18 :: .int v200_19 :: .ref (a 208) :: .int v200_21 :: .ref (a 209) :: .int v200_23 :: .ref (a 210) :: .ref (a 211) :: .ref (a 212) :: .int v200_27 :: .int v200_28 :: .int v200_29 :: .ref (a 213) :: .ref (a 214) :: .ref (a 215) :: .int v200_33 :: .int v200_34 :: .int v200_35 :: .ref (a 216) :: .ref (a 217) :: .ref (a 218) :: .ref (a 219) :: [])), (a 201, .inl (t 0, 841, .inl f201))] H ∧ va_S NoF s.heap H locs ∧ lv_has ls 5 [(4, .int (y_1.1 0)), (3, .int (y_1.1 1)), (0, .ref (a 200)), (1, .int p0), (2, .int p1)]) 5 (fun y_1 => []) (fun _ _ _ _ h9 => m_0 h9.1 h9.2.1) (fun n ih_4 y_1 H locs ls hI => ?_) 10 (fun k => [0, (-1)].getD k 0, fun k => [].getD k (fun _ => 0), fun k => [].getD k (fun _ => 0), fun k => [].getD k 0) ⟨(m_i (rg_c (x := 0) (k := 0) (by decide)) (by decide)), (rg_w (c := 0) (d := 9) (rg_c (x := 0) (k := 0) (by decide)) (by decide) (by decide)), (rg_w (c := (-1)) (d := 8) (rg_c (x := (-1)) (k := (-1)) (by decide)) (by decide) (by decide)), hP, hS, (lv_sub hl [0, 1, 2, 3, 4] rfl)⟩
  obtain ⟨me_5, h_2, h_3, hP, hS, hl⟩ := hI
  refine lv_iload hx hb dX12_firstOf_5 (lv_at hl 0 rfl) ?_
  refine lv_aload_n hx hb dX12_firstOf_7 rfl (lv_at hl 2 rfl) ?_
  refine va_get (D := D) (ci := 12) (v := .ref (a 201)) (C := RX12) (T := TX12) (N := 40) hx hb hts iX12 hown hK hP 0 rfl rfl 1 (by decide) (hts _ m_1344) (fun _ h9 => h9) rfl dX12_firstOf_8 ?_
  refine lv_iconst (v := 5) hx hb dX12_firstOf_11 (by decide) ?_
  refine va_iald hx hb hK hP 1 0 rfl rfl (in_rg (rg_c (x := 5) (k := 5) (by decide)) (by decide) (by decide)) dX12_firstOf_12 ?_
  refine x_seti (f201 5) rfl ?_
  have h_6 : rg 0 9 (f201 5) := q201 5 (by decide)
  refine lv_icmp_ge (tgt := 61) hx hb dX12_firstOf_13 (by decide) (fun c_7 => ?_) (fun c_7 => ?_)
  · skip
    refine lv_iload_n hx hb dX12_firstOf_61 rfl (lv_at hl 1 rfl) ?_
    exact W.iret (v := (y_1.1 1)) hx hb hr (fun t9 ht hW => ⟨⟨(y_1.1 1), (), rfl, h_3, trivial⟩, hS.F ht⟩) hS.2.2 dX12_firstOf_62
  · skip
    have h_8 : rg 0 8 (y_1.1 0) := ⟨(h_2).1, Int.le_trans (c_nleR c_7 h_6) (by decide)⟩
    have h_9 : rg 1 9 (f201 5) := ⟨Int.le_trans (by decide) (c_nle c_7 h_2), (h_6).2⟩
    refine lv_iload_n hx hb dX12_firstOf_16 rfl (lv_at hl 4 rfl) ?_
    refine lv_iload hx hb dX12_firstOf_17 (lv_at hl 0 rfl) ?_
    refine y_pS hF (s_X12_bit l D t a p1 (y_1.1 0)) m_1616 m_1617 m_13 m_1618 hd_X12_bit ⟨Nat.le_of_ble_eq_true rfl, Nat.le_of_ble_eq_true rfl⟩ hK hN hP hS [] rfl hl.1 rfl (Nat.le_of_ble_eq_true rfl) dX12_firstOf_19 ⟨Nat.zero_le _, Nat.zero_le _⟩ (fun r_10 H locs hr_10 hP hS => ?_)
    have or_10 := hr_10.2
    refine lv_iconst (v := 1) hx hb dX12_firstOf_22 (by decide) ?_
    refine lv_icmp_ne (tgt := 55) hx hb dX12_firstOf_23 (by decide) (fun c_11 => ?_) (fun c_11 => ?_)
    · skip
      have h_12 : rg 0 0 r_10 := rg_w (rg_neR hr_10.1 c_11 (by decide)) (by decide) (by decide)
      obtain ⟨x_13, ex_13⟩ : ∃ y9 : Int32, y9 = (y_1.1 0) + 1 := ⟨_, rfl⟩
      have hx_13 : rg 1 9 x_13 := by rw [ex_13]; exact rg_add h_8 (rg_c (x := 1) (k := 1) (by decide)) (by decide) (by decide) (by decide) (by decide)
      have tx_13 : x_13.toInt = (y_1.1 0).toInt + 1 := by rw [ex_13]; exact inc_tk h_8 (by decide) (by decide) (by decide)
      refine lv_iinc (v := x_13) (lv' := [(4, .int x_13), (3, .int (y_1.1 1)), (0, .ref (a 200)), (1, .int p0), (2, .int p1)]) hx hb dX12_firstOf_55 hl (k := 0) rfl (by rw [ex_13]; rfl) (by decide) rfl (fun ls hl => ?_)
      refine lv_goto (tgt := 5) hx hb dX12_firstOf_58 (by decide) ?_
      exact ih_4 (fun k => [x_13, (y_1.1 1)].getD k 0, fun k => [].getD k (fun _ => 0), fun k => [].getD k (fun _ => 0), fun k => [].getD k 0) _ _ ls ⟨(m_upk me_5 tx_13 (by decide)), (rg_w (c := 0) (d := 9) hx_13 (by decide) (by decide)), h_3, hP, hS, (lv_sub hl [0, 1, 2, 3, 4] rfl)⟩
    · skip
      have h_14 : rg 1 1 r_10 := rg_eq c_11 (rg_c (x := 1) (k := 1) (by decide))
      refine lv_aload_n hx hb dX12_firstOf_26 rfl (lv_at hl 2 rfl) ?_
      refine lv_iload_n hx hb dX12_firstOf_27 rfl (lv_at hl 3 rfl) ?_
      refine lv_iload hx hb dX12_firstOf_28 (lv_at hl 0 rfl) ?_
      refine y_pV hF (s_X12_isLiked l D t a v200_0 v200_5 v200_7 v200_8 v200_9 v200_10 v200_11 v200_12 v200_13 v200_15 v200_17 v200_18 v200_19 v200_21 v200_23 v200_27 v200_28 v200_29 v200_33 v200_34 v200_35 f201 p0 (y_1.1 0) r200_5 r200_7 r200_8 r200_9 r200_23 q201 rp0 h_8) m_1679 m_1681 m_s69 m_13 m_1682 hd_X12_isLiked ⟨Nat.le_of_ble_eq_true rfl, Nat.le_of_ble_eq_true rfl⟩ hK hN hP hS [0, 1] rfl 0 (ci := 12) rfl rfl rfl hl.1 rfl (Nat.le_of_ble_eq_true rfl) dX12_firstOf_30 ⟨Nat.zero_le _, Nat.zero_le _⟩ (fun r_15 H locs hr_15 hP hS => ?_)
      refine lv_if_eq (tgt := 55) hx hb dX12_firstOf_33 (by decide) (fun c_16 => ?_) (fun c_16 => ?_)
      · skip
        have h_17 : rg 0 0 r_15 := rg_eq c_16 (rg_c (x := 0) (k := 0) (by decide))
        obtain ⟨x_18, ex_18⟩ : ∃ y9 : Int32, y9 = (y_1.1 0) + 1 := ⟨_, rfl⟩
        have hx_18 : rg 1 9 x_18 := by rw [ex_18]; exact rg_add h_8 (rg_c (x := 1) (k := 1) (by decide)) (by decide) (by decide) (by decide) (by decide)
        have tx_18 : x_18.toInt = (y_1.1 0).toInt + 1 := by rw [ex_18]; exact inc_tk h_8 (by decide) (by decide) (by decide)
        refine lv_iinc (v := x_18) (lv' := [(4, .int x_18), (3, .int (y_1.1 1)), (0, .ref (a 200)), (1, .int p0), (2, .int p1)]) hx hb dX12_firstOf_55 hl (k := 0) rfl (by rw [ex_18]; rfl) (by decide) rfl (fun ls hl => ?_)
        refine lv_goto (tgt := 5) hx hb dX12_firstOf_58 (by decide) ?_
        exact ih_4 (fun k => [x_18, (y_1.1 1)].getD k 0, fun k => [].getD k (fun _ => 0), fun k => [].getD k (fun _ => 0), fun k => [].getD k 0) _ _ ls ⟨(m_upk me_5 tx_18 (by decide)), (rg_w (c := 0) (d := 9) hx_18 (by decide) (by decide)), h_3, hP, hS, (lv_sub hl [0, 1, 2, 3, 4] rfl)⟩
      · skip
        have h_19 : rg 1 1 r_15 := rg_w (rg_neL hr_15 c_16 (by decide)) (by decide) (by decide)
        refine lv_iload_n hx hb dX12_firstOf_36 rfl (lv_at hl 1 rfl) ?_
        refine lv_iconst (v := (-1)) hx hb dX12_firstOf_37 (by decide) ?_
        refine lv_icmp_eq (tgt := 52) hx hb dX12_firstOf_38 (by decide) (fun c_20 => ?_) (fun c_20 => ?_)
        · skip
          have h_21 : rg (-1) (-1) (y_1.1 1) := rg_eq c_20 (rg_c (x := (-1)) (k := (-1)) (by decide))
          refine lv_iload hx hb dX12_firstOf_52 (lv_at hl 0 rfl) ?_
          refine lv_istore_n (lv' := [(3, .int (y_1.1 0)), (4, .int (y_1.1 0)), (0, .ref (a 200)), (1, .int p0), (2, .int p1)]) hx hb dX12_firstOf_54 rfl hl (by decide) rfl (fun ls hl => ?_)
          obtain ⟨x_22, ex_22⟩ : ∃ y9 : Int32, y9 = (y_1.1 0) + 1 := ⟨_, rfl⟩
          have hx_22 : rg 1 9 x_22 := by rw [ex_22]; exact rg_add h_8 (rg_c (x := 1) (k := 1) (by decide)) (by decide) (by decide) (by decide) (by decide)
          have tx_22 : x_22.toInt = (y_1.1 0).toInt + 1 := by rw [ex_22]; exact inc_tk h_8 (by decide) (by decide) (by decide)
          refine lv_iinc (v := x_22) (lv' := [(4, .int x_22), (3, .int (y_1.1 0)), (0, .ref (a 200)), (1, .int p0), (2, .int p1)]) hx hb dX12_firstOf_55 hl (k := 1) rfl (by rw [ex_22]; rfl) (by decide) rfl (fun ls hl => ?_)
          refine lv_goto (tgt := 5) hx hb dX12_firstOf_58 (by decide) ?_
          exact ih_4 (fun k => [x_22, (y_1.1 0)].getD k 0, fun k => [].getD k (fun _ => 0), fun k => [].getD k (fun _ => 0), fun k => [].getD k 0) _ _ ls ⟨(m_upk me_5 tx_22 (by decide)), (rg_w (c := 0) (d := 9) hx_22 (by decide) (by decide)), (rg_w (c := (-1)) (d := 8) h_8 (by decide) (by decide)), hP, hS, (lv_sub hl [0, 1, 2, 3, 4] rfl)⟩
        · skip
          have h_23 : rg 0 8 (y_1.1 1) := rg_w (rg_neL h_3 c_20 (by decide)) (by decide) (by decide)
          refine lv_aload_n hx hb dX12_firstOf_41 rfl (lv_at hl 2 rfl) ?_
          refine lv_iload_n hx hb dX12_firstOf_42 rfl (lv_at hl 3 rfl) ?_
          refine lv_iload hx hb dX12_firstOf_43 (lv_at hl 0 rfl) ?_
          refine lv_iload_n hx hb dX12_firstOf_45 rfl (lv_at hl 1 rfl) ?_
          refine y_pV hF (s_X12_isAhead l D t a v200_0 v200_5 v200_7 v200_8 v200_9 v200_10 v200_11 v200_12 v200_13 v200_15 v200_17 v200_18 v200_19 v200_21 v200_23 v200_27 v200_28 v200_29 v200_33 v200_34 v200_35 f201 p0 (y_1.1 0) (y_1.1 1) r200_5 r200_7 r200_8 r200_9 r200_23 q201 rp0 h_8 h_23) m_1683 m_1685 m_s70 m_13 m_1686 hd_X12_isAhead ⟨Nat.le_of_ble_eq_true rfl, Nat.le_of_ble_eq_true rfl⟩ hK hN hP hS [0, 1] rfl 0 (ci := 12) rfl rfl rfl hl.1 rfl (Nat.le_of_ble_eq_true rfl) dX12_firstOf_46 ⟨Nat.zero_le _, Nat.zero_le _⟩ (fun r_24 H locs hr_24 hP hS => ?_)
          refine lv_if_eq (tgt := 55) hx hb dX12_firstOf_49 (by decide) (fun c_25 => ?_) (fun c_25 => ?_)
          · skip
            have h_26 : rg 0 0 r_24 := rg_eq c_25 (rg_c (x := 0) (k := 0) (by decide))
            obtain ⟨x_27, ex_27⟩ : ∃ y9 : Int32, y9 = (y_1.1 0) + 1 := ⟨_, rfl⟩
            have hx_27 : rg 1 9 x_27 := by rw [ex_27]; exact rg_add h_8 (rg_c (x := 1) (k := 1) (by decide)) (by decide) (by decide) (by decide) (by decide)
            have tx_27 : x_27.toInt = (y_1.1 0).toInt + 1 := by rw [ex_27]; exact inc_tk h_8 (by decide) (by decide) (by decide)
            refine lv_iinc (v := x_27) (lv' := [(4, .int x_27), (3, .int (y_1.1 1)), (0, .ref (a 200)), (1, .int p0), (2, .int p1)]) hx hb dX12_firstOf_55 hl (k := 0) rfl (by rw [ex_27]; rfl) (by decide) rfl (fun ls hl => ?_)
            refine lv_goto (tgt := 5) hx hb dX12_firstOf_58 (by decide) ?_
            exact ih_4 (fun k => [x_27, (y_1.1 1)].getD k 0, fun k => [].getD k (fun _ => 0), fun k => [].getD k (fun _ => 0), fun k => [].getD k 0) _ _ ls ⟨(m_upk me_5 tx_27 (by decide)), (rg_w (c := 0) (d := 9) hx_27 (by decide) (by decide)), (rg_w (c := (-1)) (d := 8) h_23 (by decide) (by decide)), hP, hS, (lv_sub hl [0, 1, 2, 3, 4] rfl)⟩
          · skip
            have h_28 : rg 1 1 r_24 := rg_w (rg_neL hr_24 c_25 (by decide)) (by decide) (by decide)
            refine lv_iload hx hb dX12_firstOf_52 (lv_at hl 0 rfl) ?_
            refine lv_istore_n (lv' := [(3, .int (y_1.1 0)), (4, .int (y_1.1 0)), (0, .ref (a 200)), (1, .int p0), (2, .int p1)]) hx hb dX12_firstOf_54 rfl hl (by decide) rfl (fun ls hl => ?_)
            obtain ⟨x_29, ex_29⟩ : ∃ y9 : Int32, y9 = (y_1.1 0) + 1 := ⟨_, rfl⟩
            have hx_29 : rg 1 9 x_29 := by rw [ex_29]; exact rg_add h_8 (rg_c (x := 1) (k := 1) (by decide)) (by decide) (by decide) (by decide) (by decide)
            have tx_29 : x_29.toInt = (y_1.1 0).toInt + 1 := by rw [ex_29]; exact inc_tk h_8 (by decide) (by decide) (by decide)
            refine lv_iinc (v := x_29) (lv' := [(4, .int x_29), (3, .int (y_1.1 0)), (0, .ref (a 200)), (1, .int p0), (2, .int p1)]) hx hb dX12_firstOf_55 hl (k := 1) rfl (by rw [ex_29]; rfl) (by decide) rfl (fun ls hl => ?_)
            refine lv_goto (tgt := 5) hx hb dX12_firstOf_58 (by decide) ?_
            exact ih_4 (fun k => [x_29, (y_1.1 0)].getD k 0, fun k => [].getD k (fun _ => 0), fun k => [].getD k (fun _ => 0), fun k => [].getD k 0) _ _ ls ⟨(m_upk me_5 tx_29 (by decide)), (rg_w (c := 0) (d := 9) hx_29 (by decide) (by decide)), (rg_w (c := (-1)) (d := 8) h_8 (by decide) (by decide)), hP, hS, (lv_sub hl [0, 1, 2, 3, 4] rfl)⟩

set_option maxHeartbeats 4000000 in
set_option maxRecDepth 100000 in
theorem s_X12_votesIn (l : Launch) (D : va_G) (t : Nat → ClassId) (a : Nat → Nat) (v200_0 : Int32) (v200_5 : Int32) (v200_7 : Int32) (v200_8 : Int32) (v200_9 : Int32) (v200_10 : Int32) (v200_11 : Int32) (v200_12 : Int32) (v200_13 : Int32) (v200_15 : Int32) (v200_17 : Int32) (v200_18 : Int32) (v200_19 : Int32) (v200_21 : Int32) (v200_23 : Int32) (v200_27 : Int32) (v200_28 : Int32) (v200_29 : Int32) (v200_33 : Int32) (v200_34 : Int32) (v200_35 : Int32) (f207 : Nat → Int32) (p0 : Int32) (p1 : Int32) (r200_5 : rg 0 1600 v200_5) (r200_7 : rg 0 1600 v200_7) (r200_8 : rg 0 1600 v200_8) (r200_9 : rg 0 1600 v200_9) (r200_23 : rg 0 9 v200_23) (rp0 : rg 0 8 p0) : Met l yX12_votesIn (wd yX12_votesIn cX12_votesIn 3 (some .boolean)) (RM 1 0 0) (PreP D (TY t) [.ref (a 200), .int p0, .int p1] [(a 200, .inr (12, .int v200_0 :: .ref (a 201) :: .ref (a 202) :: .ref (a 203) :: .ref (a 204) :: .int v200_5 :: .ref (a 205) :: .int v200_7 :: .int v200_8 :: .int v200_9 :: .int v200_10 :: .int v200_11 :: .int v200_12 :: .int v200_13 :: .ref (a 206) :: .int v200_15 :: .ref (a 207) :: .int v200_17 :: .int v200_18 :: .int v200_19 :: .ref (a 208) :: .int v200_21 :: .ref (a 209) :: .int v200_23 :: .ref (a 210) :: .ref (a 211) :: .ref (a 212) :: .int v200_27 :: .int v200_28 :: .int v200_29 :: .ref (a 213) :: .ref (a 214) :: .ref (a 215) :: .int v200_33 :: .int v200_34 :: .int v200_35 :: .ref (a 216) :: .ref (a 217) :: .ref (a 218) :: .ref (a 219) :: [])), (a 207, .inl (t 0, 9, .inl f207))]) (QP (fun r => rg 0 1 r)) 0 0 NoF := by
  refine Met.ofW (cc := cX12_votesIn) (maxL := 3) (ret := (some .boolean)) (by decide) rfl ?_
  intro p e s m args below meth c s₁ B hml hv
  obtain ⟨rfl, hP, hK, hN⟩ := hv
  have hx := B.exec
  have hb := B.bytes
  have hr := B.returns
  have hts : ∀ w ∈ TB, w.before _ s = true := fun w h => atoms_spec (ws := wd yX12_votesIn cX12_votesIn 3 (some .boolean)) B.pre w (List.mem_cons_of_mem _ h)
  have hown : s.vm.findClass RX12 = some m.cls := findClass_of_methodNamed B.named
  have hlocks := B.notSynchronized
  have hF : CallFix p m c cX12_votesIn 3 s _ TB RX12 := ⟨hx, hb, hml, hown, hts⟩
  have hl := lv_entry ([.ref (a 200), .int p0, .int p1]) (n := 3) (Nat.le_of_ble_eq_true rfl)
  rw [lg_entry_eq]
  generalize (lg_sl ([.ref (a 200), .int p0, .int p1]) ++ List.replicate (3 - (lg_sl ([.ref (a 200), .int p0, .int p1])).length) Slot.unset).toArray = ls at hl ⊢
  have hl : lv_has ls 3 [(0, .ref (a 200)), (1, .int p0), (2, .int p1)] := hl
  have hS : va_S NoF s.heap s.heap [] := va_S.rf
  have hP : va_P D classes [(a 200, .inr (12, .int v200_0 :: .ref (a 201) :: .ref (a 202) :: .ref (a 203) :: .ref (a 204) :: .int v200_5 :: .ref (a 205) :: .int v200_7 :: .int v200_8 :: .int v200_9 :: .int v200_10 :: .int v200_11 :: .int v200_12 :: .int v200_13 :: .ref (a 206) :: .int v200_15 :: .ref (a 207) :: .int v200_17 :: .int v200_18 :: .int v200_19 :: .ref (a 208) :: .int v200_21 :: .ref (a 209) :: .int v200_23 :: .ref (a 210) :: .ref (a 211) :: .ref (a 212) :: .int v200_27 :: .int v200_28 :: .int v200_29 :: .ref (a 213) :: .ref (a 214) :: .ref (a 215) :: .int v200_33 :: .int v200_34 :: .int v200_35 :: .ref (a 216) :: .ref (a 217) :: .ref (a 218) :: .ref (a 219) :: [])), (a 207, .inl (t 0, 9, .inl f207))] s.heap := hP
  refine lv_aload_n hx hb dX12_votesIn_0 rfl (lv_at hl 0 rfl) ?_
  refine va_get (D := D) (ci := 12) (v := .ref (a 207)) (C := RX12) (T := TX12) (N := 40) hx hb hts iX12 hown hK hP 0 rfl rfl 16 (by decide) (hts _ m_1359) (fun _ h9 => h9) rfl dX12_votesIn_1 ?_
  refine lv_iload_n hx hb dX12_votesIn_4 rfl (lv_at hl 1 rfl) ?_
  refine va_iald hx hb hK hP 1 0 rfl rfl (in_rg rp0 (by decide) (by decide)) dX12_votesIn_5 ?_
  refine lv_topi (fun x_1 ex_1 => ?_)
  refine lv_iload_n hx hb dX12_votesIn_6 rfl (lv_at hl 2 rfl) ?_
  refine lv_icmp_ne (tgt := 26) hx hb dX12_votesIn_7 (by decide) (fun c_2 => ?_) (fun c_2 => ?_)
  · skip
    refine lv_iconst (v := 0) hx hb dX12_votesIn_26 (by decide) ?_
    exact W.zret (v := 0) hx hb hr rfl (fun t9 ht hW => ⟨⟨0, (), rfl, (rg_w (c := 0) (d := 1) (rg_c (x := 0) (k := 0) (by decide)) (by decide) (by decide)), trivial⟩, hS.F ht⟩) hS.2.2 dX12_votesIn_27
  · skip
    refine lv_aload_n hx hb dX12_votesIn_10 rfl (lv_at hl 0 rfl) ?_
    refine va_get (D := D) (ci := 12) (v := .int v200_17) (C := RX12) (T := TX12) (N := 40) hx hb hts iX12 hown hK hP 0 rfl rfl 17 (by decide) (hts _ m_1360) (fun _ h9 => h9) rfl dX12_votesIn_11 ?_
    refine lv_iload_n hx hb dX12_votesIn_14 rfl (lv_at hl 1 rfl) ?_
    refine y_pS hF (s_X12_bit l D t a v200_17 p0) m_1616 m_1617 m_13 m_1618 hd_X12_bit ⟨Nat.le_of_ble_eq_true rfl, Nat.le_of_ble_eq_true rfl⟩ hK hN hP hS [] rfl hl.1 rfl (Nat.le_of_ble_eq_true rfl) dX12_votesIn_15 ⟨Nat.zero_le _, Nat.zero_le _⟩ (fun r_3 H locs hr_3 hP hS => ?_)
    have or_3 := hr_3.2
    refine lv_iconst (v := 1) hx hb dX12_votesIn_18 (by decide) ?_
    refine lv_icmp_ne (tgt := 26) hx hb dX12_votesIn_19 (by decide) (fun c_4 => ?_) (fun c_4 => ?_)
    · skip
      have h_5 : rg 0 0 r_3 := rg_w (rg_neR hr_3.1 c_4 (by decide)) (by decide) (by decide)
      refine lv_iconst (v := 0) hx hb dX12_votesIn_26 (by decide) ?_
      exact W.zret (v := 0) hx hb hr rfl (fun t9 ht hW => ⟨⟨0, (), rfl, (rg_w (c := 0) (d := 1) (rg_c (x := 0) (k := 0) (by decide)) (by decide) (by decide)), trivial⟩, hS.F ht⟩) hS.2.2 dX12_votesIn_27
    · skip
      have h_6 : rg 1 1 r_3 := rg_eq c_4 (rg_c (x := 1) (k := 1) (by decide))
      refine lv_iconst (v := 1) hx hb dX12_votesIn_22 (by decide) ?_
      refine lv_goto (tgt := 27) hx hb dX12_votesIn_23 (by decide) ?_
      exact W.zret (v := 1) hx hb hr rfl (fun t9 ht hW => ⟨⟨1, (), rfl, (rg_w (c := 0) (d := 1) (rg_c (x := 1) (k := 1) (by decide)) (by decide) (by decide)), trivial⟩, hS.F ht⟩) hS.2.2 dX12_votesIn_27

set_option maxHeartbeats 4000000 in
set_option maxRecDepth 100000 in
theorem s_X12_count (l : Launch) (D : va_G) (t : Nat → ClassId) (a : Nat → Nat) (v200_0 : Int32) (v200_5 : Int32) (v200_7 : Int32) (v200_8 : Int32) (v200_9 : Int32) (v200_10 : Int32) (v200_11 : Int32) (v200_12 : Int32) (v200_13 : Int32) (v200_15 : Int32) (v200_17 : Int32) (v200_18 : Int32) (v200_19 : Int32) (v200_21 : Int32) (v200_23 : Int32) (v200_27 : Int32) (v200_28 : Int32) (v200_29 : Int32) (v200_33 : Int32) (v200_34 : Int32) (v200_35 : Int32) (f201 : Nat → Int32) (f207 : Nat → Int32) (f208 : Nat → Int32) (p0 : Int32) (p1 : Int32) (p2 : Int32) (r200_5 : rg 0 1600 v200_5) (r200_7 : rg 0 1600 v200_7) (r200_8 : rg 0 1600 v200_8) (r200_9 : rg 0 1600 v200_9) (r200_23 : rg 0 9 v200_23) (q201 : wR f201) (rp2 : rg 0 1 p2) (sz : Nat) : Met l yX12_count (wd yX12_count cX12_count 7 none) (RM 4 0 0) (PreW D (TY t) [.ref (a 200), .int p0, .int p1, .int p2] [(a 200, .inr (12, .int v200_0 :: .ref (a 201) :: .ref (a 202) :: .ref (a 203) :: .ref (a 204) :: .int v200_5 :: .ref (a 205) :: .int v200_7 :: .int v200_8 :: .int v200_9 :: .int v200_10 :: .int v200_11 :: .int v200_12 :: .int v200_13 :: .ref (a 206) :: .int v200_15 :: .ref (a 207) :: .int v200_17 :: .int v200_18 :: .int v200_19 :: .ref (a 208) :: .int v200_21 :: .ref (a 209) :: .int v200_23 :: .ref (a 210) :: .ref (a 211) :: .ref (a 212) :: .int v200_27 :: .int v200_28 :: .int v200_29 :: .ref (a 213) :: .ref (a 214) :: .ref (a 215) :: .int v200_33 :: .int v200_34 :: .int v200_35 :: .ref (a 216) :: .ref (a 217) :: .ref (a 218) :: .ref (a 219) :: [])), (a 201, .inl (t 0, 841, .inl f201)), (a 207, .inl (t 0, 9, .inl f207)), (a 208, .inl (t 0, 9, .inl f208))] sz) (va_Qv (fun (_ : US) => True) (fun (u : US) t9 => va_P D classes ((fun u : US => [(a 200, .inr (12, .int v200_0 :: .ref (a 201) :: .ref (a 202) :: .ref (a 203) :: .ref (a 204) :: .int v200_5 :: .ref (a 205) :: .int v200_7 :: .int v200_8 :: .int v200_9 :: .int v200_10 :: .int v200_11 :: .int v200_12 :: .int v200_13 :: .ref (a 206) :: .int v200_15 :: .ref (a 207) :: .int v200_17 :: .int v200_18 :: .int v200_19 :: .ref (a 208) :: .int (u.1 0) :: .ref (a 209) :: .int v200_23 :: .ref (a 210) :: .ref (a 211) :: .ref (a 212) :: .int v200_27 :: .int v200_28 :: .int v200_29 :: .ref (a 213) :: .ref (a 214) :: .ref (a 215) :: .int v200_33 :: .int v200_34 :: .int v200_35 :: .ref (a 216) :: .ref (a 217) :: .ref (a 218) :: .ref (a 219) :: [])), (a 201, .inl (t 0, 841, .inl f201)), (a 207, .inl (t 0, 9, .inl f207)), (a 208, .inl (t 0, 9, .inl (u.2.1 0)))]) u) t9.heap ∧ va_D (va_A [(a 200, .inr (12, .int v200_0 :: .ref (a 201) :: .ref (a 202) :: .ref (a 203) :: .ref (a 204) :: .int v200_5 :: .ref (a 205) :: .int v200_7 :: .int v200_8 :: .int v200_9 :: .int v200_10 :: .int v200_11 :: .int v200_12 :: .int v200_13 :: .ref (a 206) :: .int v200_15 :: .ref (a 207) :: .int v200_17 :: .int v200_18 :: .int v200_19 :: .ref (a 208) :: .int v200_21 :: .ref (a 209) :: .int v200_23 :: .ref (a 210) :: .ref (a 211) :: .ref (a 212) :: .int v200_27 :: .int v200_28 :: .int v200_29 :: .ref (a 213) :: .ref (a 214) :: .ref (a 215) :: .int v200_33 :: .int v200_34 :: .int v200_35 :: .ref (a 216) :: .ref (a 217) :: .ref (a 218) :: .ref (a 219) :: [])), (a 201, .inl (t 0, 841, .inl f201)), (a 207, .inl (t 0, 9, .inl f207)), (a 208, .inl (t 0, 9, .inl f208))] sz) ((fun u : US => [(a 200, .inr (12, .int v200_0 :: .ref (a 201) :: .ref (a 202) :: .ref (a 203) :: .ref (a 204) :: .int v200_5 :: .ref (a 205) :: .int v200_7 :: .int v200_8 :: .int v200_9 :: .int v200_10 :: .int v200_11 :: .int v200_12 :: .int v200_13 :: .ref (a 206) :: .int v200_15 :: .ref (a 207) :: .int v200_17 :: .int v200_18 :: .int v200_19 :: .ref (a 208) :: .int (u.1 0) :: .ref (a 209) :: .int v200_23 :: .ref (a 210) :: .ref (a 211) :: .ref (a 212) :: .int v200_27 :: .int v200_28 :: .int v200_29 :: .ref (a 213) :: .ref (a 214) :: .ref (a 215) :: .int v200_33 :: .int v200_34 :: .int v200_35 :: .ref (a 216) :: .ref (a 217) :: .ref (a 218) :: .ref (a 219) :: [])), (a 201, .inl (t 0, 841, .inl f201)), (a 207, .inl (t 0, 9, .inl f207)), (a 208, .inl (t 0, 9, .inl (u.2.1 0)))]) u)) (va_A [(a 200, .inr (12, .int v200_0 :: .ref (a 201) :: .ref (a 202) :: .ref (a 203) :: .ref (a 204) :: .int v200_5 :: .ref (a 205) :: .int v200_7 :: .int v200_8 :: .int v200_9 :: .int v200_10 :: .int v200_11 :: .int v200_12 :: .int v200_13 :: .ref (a 206) :: .int v200_15 :: .ref (a 207) :: .int v200_17 :: .int v200_18 :: .int v200_19 :: .ref (a 208) :: .int v200_21 :: .ref (a 209) :: .int v200_23 :: .ref (a 210) :: .ref (a 211) :: .ref (a 212) :: .int v200_27 :: .int v200_28 :: .int v200_29 :: .ref (a 213) :: .ref (a 214) :: .ref (a 215) :: .int v200_33 :: .int v200_34 :: .int v200_35 :: .ref (a 216) :: .ref (a 217) :: .ref (a 218) :: .ref (a 219) :: [])), (a 201, .inl (t 0, 841, .inl f201)), (a 207, .inl (t 0, 9, .inl f207)), (a 208, .inl (t 0, 9, .inl f208))] sz)) 0 0 (va_A [(a 200, .inr (12, .int v200_0 :: .ref (a 201) :: .ref (a 202) :: .ref (a 203) :: .ref (a 204) :: .int v200_5 :: .ref (a 205) :: .int v200_7 :: .int v200_8 :: .int v200_9 :: .int v200_10 :: .int v200_11 :: .int v200_12 :: .int v200_13 :: .ref (a 206) :: .int v200_15 :: .ref (a 207) :: .int v200_17 :: .int v200_18 :: .int v200_19 :: .ref (a 208) :: .int v200_21 :: .ref (a 209) :: .int v200_23 :: .ref (a 210) :: .ref (a 211) :: .ref (a 212) :: .int v200_27 :: .int v200_28 :: .int v200_29 :: .ref (a 213) :: .ref (a 214) :: .ref (a 215) :: .int v200_33 :: .int v200_34 :: .int v200_35 :: .ref (a 216) :: .ref (a 217) :: .ref (a 218) :: .ref (a 219) :: [])), (a 201, .inl (t 0, 841, .inl f201)), (a 207, .inl (t 0, 9, .inl f207)), (a 208, .inl (t 0, 9, .inl f208))] sz) := by
  refine Met.ofW (cc := cX12_count) (maxL := 7) (ret := none) (by decide) rfl ?_
  intro p e s m args below meth c s₁ B hml hv
  obtain ⟨rfl, hsz, hP, hK, hD0, hN⟩ := hv
  have hx := B.exec
  have hb := B.bytes
  have hr := B.returns
  have hts : ∀ w ∈ TB, w.before _ s = true := fun w h => atoms_spec (ws := wd yX12_count cX12_count 7 none) B.pre w (List.mem_cons_of_mem _ h)
  have hown : s.vm.findClass RX12 = some m.cls := findClass_of_methodNamed B.named
  have hlocks := B.notSynchronized
  have hF : CallFix p m c cX12_count 7 s _ TB RX12 := ⟨hx, hb, hml, hown, hts⟩
  have hl := lv_entry ([.ref (a 200), .int p0, .int p1, .int p2]) (n := 7) (Nat.le_of_ble_eq_true rfl)
  rw [lg_entry_eq]
  generalize (lg_sl ([.ref (a 200), .int p0, .int p1, .int p2]) ++ List.replicate (7 - (lg_sl ([.ref (a 200), .int p0, .int p1, .int p2])).length) Slot.unset).toArray = ls at hl ⊢
  have hl : lv_has ls 7 [(0, .ref (a 200)), (1, .int p0), (2, .int p1), (3, .int p2)] := hl
  subst hsz
  have hD := hD0.self (sz := s.heap.size)
  generalize hAe : va_A [(a 200, .inr (12, .int v200_0 :: .ref (a 201) :: .ref (a 202) :: .ref (a 203) :: .ref (a 204) :: .int v200_5 :: .ref (a 205) :: .int v200_7 :: .int v200_8 :: .int v200_9 :: .int v200_10 :: .int v200_11 :: .int v200_12 :: .int v200_13 :: .ref (a 206) :: .int v200_15 :: .ref (a 207) :: .int v200_17 :: .int v200_18 :: .int v200_19 :: .ref (a 208) :: .int v200_21 :: .ref (a 209) :: .int v200_23 :: .ref (a 210) :: .ref (a 211) :: .ref (a 212) :: .int v200_27 :: .int v200_28 :: .int v200_29 :: .ref (a 213) :: .ref (a 214) :: .ref (a 215) :: .int v200_33 :: .int v200_34 :: .int v200_35 :: .ref (a 216) :: .ref (a 217) :: .ref (a 218) :: .ref (a 219) :: [])), (a 201, .inl (t 0, 841, .inl f201)), (a 207, .inl (t 0, 9, .inl f207)), (a 208, .inl (t 0, 9, .inl f208))] s.heap.size = A at hD ⊢
  have hA : ∀ q : Nat, s.heap.size ≤ q → A q := fun q h => by rw [← hAe]; exact Or.inr h
  have hS : va_S A s.heap s.heap [] := va_S.rf
  have hP : va_P D classes [(a 200, .inr (12, .int v200_0 :: .ref (a 201) :: .ref (a 202) :: .ref (a 203) :: .ref (a 204) :: .int v200_5 :: .ref (a 205) :: .int v200_7 :: .int v200_8 :: .int v200_9 :: .int v200_10 :: .int v200_11 :: .int v200_12 :: .int v200_13 :: .ref (a 206) :: .int v200_15 :: .ref (a 207) :: .int v200_17 :: .int v200_18 :: .int v200_19 :: .ref (a 208) :: .int v200_21 :: .ref (a 209) :: .int v200_23 :: .ref (a 210) :: .ref (a 211) :: .ref (a 212) :: .int v200_27 :: .int v200_28 :: .int v200_29 :: .ref (a 213) :: .ref (a 214) :: .ref (a 215) :: .int v200_33 :: .int v200_34 :: .int v200_35 :: .ref (a 216) :: .ref (a 217) :: .ref (a 218) :: .ref (a 219) :: [])), (a 201, .inl (t 0, 841, .inl f201)), (a 207, .inl (t 0, 9, .inl f207)), (a 208, .inl (t 0, 9, .inl f208))] s.heap := hP
  refine lv_iconst (v := 0) hx hb dX12_count_0 (by decide) ?_
  refine lv_istore (lv' := [(4, .int 0), (0, .ref (a 200)), (1, .int p0), (2, .int p1), (3, .int p2)]) hx hb dX12_count_1 hl (by decide) rfl (fun ls hl => ?_)
  refine loopW (α := US) (fun n y_1 H locs ls => 9 < (y_1.1 0).toInt + (n : Int) ∧ rg 0 9 (y_1.1 0) ∧ va_P D classes [(a 200, .inr (12, .int v200_0 :: .ref (a 201) :: .ref (a 202) :: .ref (a 203) :: .ref (a 204) :: .int v200_5 :: .ref (a 205) :: .int v200_7 :: .int v200_8 :: .int v200_9 :: .int v200_10 :: .int v200_11 :: .int v200_12 :: .int v200_13 :: .ref (a 206) :: .int v200_15 :: .ref (a 207) :: .int v200_17 :: .int v200_18 :: .int v200_19 :: .ref (a 208) :: .int v200_21 :: .ref (a 209) :: .int v200_23 :: .ref (a 210) :: .ref (a 211) :: .ref (a 212) :: .int v200_27 :: .int v200_28 :: .int v200_29 :: .ref (a 213) :: .ref (a 214) :: .ref (a 215) :: .int v200_33 :: .int v200_34 :: .int v200_35 :: .ref (a 216) :: .ref (a 217) :: .ref (a 218) :: .ref (a 219) :: [])), (a 201, .inl (t 0, 841, .inl f201)), (a 207, .inl (t 0, 9, .inl f207)), (a 208, .inl (t 0, 9, .inl (y_1.2.1 0)))] H ∧ va_D A [(a 200, .inr (12, .int v200_0 :: .ref (a 201) :: .ref (a 202) :: .ref (a 203) :: .ref (a 204) :: .int v200_5 :: .ref (a 205) :: .int v200_7 :: .int v200_8 :: .int v200_9 :: .int v200_10 :: .int v200_11 :: .int v200_12 :: .int v200_13 :: .ref (a 206) :: .int v200_15 :: .ref (a 207) :: .int v200_17 :: .int v200_18 :: .int v200_19 :: .ref (a 208) :: .int v200_21 :: .ref (a 209) :: .int v200_23 :: .ref (a 210) :: .ref (a 211) :: .ref (a 212) :: .int v200_27 :: .int v200_28 :: .int v200_29 :: .ref (a 213) :: .ref (a 214) :: .ref (a 215) :: .int v200_33 :: .int v200_34 :: .int v200_35 :: .ref (a 216) :: .ref (a 217) :: .ref (a 218) :: .ref (a 219) :: [])), (a 201, .inl (t 0, 841, .inl f201)), (a 207, .inl (t 0, 9, .inl f207)), (a 208, .inl (t 0, 9, .inl (y_1.2.1 0)))] ∧ va_S A s.heap H locs ∧ lv_has ls 7 [(4, .int (y_1.1 0)), (0, .ref (a 200)), (1, .int p0), (2, .int p1), (3, .int p2)]) 3 (fun y_1 => []) (fun _ _ _ _ h9 => m_0 h9.1 h9.2.1) (fun n ih_3 y_1 H locs ls hI => ?_) 10 (fun k => [0].getD k 0, fun k => [f208].getD k (fun _ => 0), fun k => [].getD k (fun _ => 0), fun k => [].getD k 0) ⟨(m_i (rg_c (x := 0) (k := 0) (by decide)) (by decide)), (rg_w (c := 0) (d := 9) (rg_c (x := 0) (k := 0) (by decide)) (by decide) (by decide)), hP, hD, hS, (lv_sub hl [0, 1, 2, 3, 4] rfl)⟩
  obtain ⟨me_4, h_2, hP, hD, hS, hl⟩ := hI
  refine lv_iload hx hb dX12_count_3 (lv_at hl 0 rfl) ?_
  refine lv_bipush (v := 9) hx hb dX12_count_5 (by decide) ?_
  refine lv_icmp_ge (tgt := 24) hx hb dX12_count_7 (by decide) (fun c_5 => ?_) (fun c_5 => ?_)
  · skip
    have h_6 : rg 9 9 (y_1.1 0) := ⟨Int.le_trans (by decide) (c_leR c_5 (rg_c (x := 9) (k := 9) (by decide))), (h_2).2⟩
    refine lv_aload_n hx hb dX12_count_24 rfl (lv_at hl 1 rfl) ?_
    refine lv_iconst (v := 0) hx hb dX12_count_25 (by decide) ?_
    refine va_put (D := D) (ci := 12) (v := .int 0) (ty := .int) (C := RX12) (T := TX12) (N := 40) hx hb hts iX12 tyX12 tyX12_ok nmX12 hown hK hP hD hS 0 rfl rfl 21 (by decide) (hts _ m_1364) (fun _ h9 => h9) rfl (tyX12_ok 21 (by decide)) rfl rfl (Nat.le_of_ble_eq_true rfl) dX12_count_26 (fun H locs hP hD hS => ?_)
    have hP : va_P D classes [(a 200, .inr (12, .int v200_0 :: .ref (a 201) :: .ref (a 202) :: .ref (a 203) :: .ref (a 204) :: .int v200_5 :: .ref (a 205) :: .int v200_7 :: .int v200_8 :: .int v200_9 :: .int v200_10 :: .int v200_11 :: .int v200_12 :: .int v200_13 :: .ref (a 206) :: .int v200_15 :: .ref (a 207) :: .int v200_17 :: .int v200_18 :: .int v200_19 :: .ref (a 208) :: .int 0 :: .ref (a 209) :: .int v200_23 :: .ref (a 210) :: .ref (a 211) :: .ref (a 212) :: .int v200_27 :: .int v200_28 :: .int v200_29 :: .ref (a 213) :: .ref (a 214) :: .ref (a 215) :: .int v200_33 :: .int v200_34 :: .int v200_35 :: .ref (a 216) :: .ref (a 217) :: .ref (a 218) :: .ref (a 219) :: [])), (a 201, .inl (t 0, 841, .inl f201)), (a 207, .inl (t 0, 9, .inl f207)), (a 208, .inl (t 0, 9, .inl (y_1.2.1 0)))] H := hP
    have hD : va_D A [(a 200, .inr (12, .int v200_0 :: .ref (a 201) :: .ref (a 202) :: .ref (a 203) :: .ref (a 204) :: .int v200_5 :: .ref (a 205) :: .int v200_7 :: .int v200_8 :: .int v200_9 :: .int v200_10 :: .int v200_11 :: .int v200_12 :: .int v200_13 :: .ref (a 206) :: .int v200_15 :: .ref (a 207) :: .int v200_17 :: .int v200_18 :: .int v200_19 :: .ref (a 208) :: .int 0 :: .ref (a 209) :: .int v200_23 :: .ref (a 210) :: .ref (a 211) :: .ref (a 212) :: .int v200_27 :: .int v200_28 :: .int v200_29 :: .ref (a 213) :: .ref (a 214) :: .ref (a 215) :: .int v200_33 :: .int v200_34 :: .int v200_35 :: .ref (a 216) :: .ref (a 217) :: .ref (a 218) :: .ref (a 219) :: [])), (a 201, .inl (t 0, 841, .inl f201)), (a 207, .inl (t 0, 9, .inl f207)), (a 208, .inl (t 0, 9, .inl (y_1.2.1 0)))] := hD
    refine lv_iconst (v := 0) hx hb dX12_count_29 (by decide) ?_
    refine lv_istore (lv' := [(4, .int 0), (0, .ref (a 200)), (1, .int p0), (2, .int p1), (3, .int p2)]) hx hb dX12_count_30 hl (by decide) rfl (fun ls hl => ?_)
    refine loopW (α := US) (fun n y_7 H locs ls => 9 < (y_7.1 0).toInt + (n : Int) ∧ rg 0 9 (y_7.1 0) ∧ va_P D classes [(a 200, .inr (12, .int v200_0 :: .ref (a 201) :: .ref (a 202) :: .ref (a 203) :: .ref (a 204) :: .int v200_5 :: .ref (a 205) :: .int v200_7 :: .int v200_8 :: .int v200_9 :: .int v200_10 :: .int v200_11 :: .int v200_12 :: .int v200_13 :: .ref (a 206) :: .int v200_15 :: .ref (a 207) :: .int v200_17 :: .int v200_18 :: .int v200_19 :: .ref (a 208) :: .int (y_7.1 1) :: .ref (a 209) :: .int v200_23 :: .ref (a 210) :: .ref (a 211) :: .ref (a 212) :: .int v200_27 :: .int v200_28 :: .int v200_29 :: .ref (a 213) :: .ref (a 214) :: .ref (a 215) :: .int v200_33 :: .int v200_34 :: .int v200_35 :: .ref (a 216) :: .ref (a 217) :: .ref (a 218) :: .ref (a 219) :: [])), (a 201, .inl (t 0, 841, .inl f201)), (a 207, .inl (t 0, 9, .inl f207)), (a 208, .inl (t 0, 9, .inl (y_7.2.1 0)))] H ∧ va_D A [(a 200, .inr (12, .int v200_0 :: .ref (a 201) :: .ref (a 202) :: .ref (a 203) :: .ref (a 204) :: .int v200_5 :: .ref (a 205) :: .int v200_7 :: .int v200_8 :: .int v200_9 :: .int v200_10 :: .int v200_11 :: .int v200_12 :: .int v200_13 :: .ref (a 206) :: .int v200_15 :: .ref (a 207) :: .int v200_17 :: .int v200_18 :: .int v200_19 :: .ref (a 208) :: .int (y_7.1 1) :: .ref (a 209) :: .int v200_23 :: .ref (a 210) :: .ref (a 211) :: .ref (a 212) :: .int v200_27 :: .int v200_28 :: .int v200_29 :: .ref (a 213) :: .ref (a 214) :: .ref (a 215) :: .int v200_33 :: .int v200_34 :: .int v200_35 :: .ref (a 216) :: .ref (a 217) :: .ref (a 218) :: .ref (a 219) :: [])), (a 201, .inl (t 0, 841, .inl f201)), (a 207, .inl (t 0, 9, .inl f207)), (a 208, .inl (t 0, 9, .inl (y_7.2.1 0)))] ∧ va_S A s.heap H locs ∧ lv_has ls 7 [(4, .int (y_7.1 0)), (0, .ref (a 200)), (1, .int p0), (2, .int p1), (3, .int p2)]) 32 (fun y_7 => []) (fun _ _ _ _ h9 => m_0 h9.1 h9.2.1) (fun n ih_9 y_7 H locs ls hI => ?_) 10 (fun k => [0, 0].getD k 0, fun k => [(y_1.2.1 0)].getD k (fun _ => 0), fun k => [].getD k (fun _ => 0), fun k => [].getD k 0) ⟨(m_i (rg_c (x := 0) (k := 0) (by decide)) (by decide)), (rg_w (c := 0) (d := 9) (rg_c (x := 0) (k := 0) (by decide)) (by decide) (by decide)), hP, hD, hS, (lv_sub hl [0, 1, 2, 3, 4] rfl)⟩
    obtain ⟨me_10, h_8, hP, hD, hS, hl⟩ := hI
    refine lv_iload hx hb dX12_count_32 (lv_at hl 0 rfl) ?_
    refine lv_aload_n hx hb dX12_count_34 rfl (lv_at hl 1 rfl) ?_
    refine va_get (D := D) (ci := 12) (v := .ref (a 201)) (C := RX12) (T := TX12) (N := 40) hx hb hts iX12 hown hK hP 0 rfl rfl 1 (by decide) (hts _ m_1344) (fun _ h9 => h9) rfl dX12_count_35 ?_
    refine lv_bipush (v := 6) hx hb dX12_count_38 (by decide) ?_
    refine va_iald hx hb hK hP 1 0 rfl rfl (in_rg (rg_c (x := 6) (k := 6) (by decide)) (by decide) (by decide)) dX12_count_40 ?_
    refine x_seti (f201 6) rfl ?_
    have h_11 : rg 0 9 (f201 6) := q201 6 (by decide)
    refine lv_icmp_ge (tgt := 170) hx hb dX12_count_41 (by decide) (fun c_12 => ?_) (fun c_12 => ?_)
    · skip
      have hP9 := hP.sub (ws' := [(a 200, .inr (12, .int v200_0 :: .ref (a 201) :: .ref (a 202) :: .ref (a 203) :: .ref (a 204) :: .int v200_5 :: .ref (a 205) :: .int v200_7 :: .int v200_8 :: .int v200_9 :: .int v200_10 :: .int v200_11 :: .int v200_12 :: .int v200_13 :: .ref (a 206) :: .int v200_15 :: .ref (a 207) :: .int v200_17 :: .int v200_18 :: .int v200_19 :: .ref (a 208) :: .int (y_7.1 1) :: .ref (a 209) :: .int v200_23 :: .ref (a 210) :: .ref (a 211) :: .ref (a 212) :: .int v200_27 :: .int v200_28 :: .int v200_29 :: .ref (a 213) :: .ref (a 214) :: .ref (a 215) :: .int v200_33 :: .int v200_34 :: .int v200_35 :: .ref (a 216) :: .ref (a 217) :: .ref (a 218) :: .ref (a 219) :: [])), (a 201, .inl (t 0, 841, .inl f201)), (a 207, .inl (t 0, 9, .inl f207)), (a 208, .inl (t 0, 9, .inl (y_7.2.1 0)))]) [0, 1, 2, 3] rfl
      have hD9 := hD.sub (ws' := [(a 200, .inr (12, .int v200_0 :: .ref (a 201) :: .ref (a 202) :: .ref (a 203) :: .ref (a 204) :: .int v200_5 :: .ref (a 205) :: .int v200_7 :: .int v200_8 :: .int v200_9 :: .int v200_10 :: .int v200_11 :: .int v200_12 :: .int v200_13 :: .ref (a 206) :: .int v200_15 :: .ref (a 207) :: .int v200_17 :: .int v200_18 :: .int v200_19 :: .ref (a 208) :: .int (y_7.1 1) :: .ref (a 209) :: .int v200_23 :: .ref (a 210) :: .ref (a 211) :: .ref (a 212) :: .int v200_27 :: .int v200_28 :: .int v200_29 :: .ref (a 213) :: .ref (a 214) :: .ref (a 215) :: .int v200_33 :: .int v200_34 :: .int v200_35 :: .ref (a 216) :: .ref (a 217) :: .ref (a 218) :: .ref (a 219) :: [])), (a 201, .inl (t 0, 841, .inl f201)), (a 207, .inl (t 0, 9, .inl f207)), (a 208, .inl (t 0, 9, .inl (y_7.2.1 0)))]) [0, 1, 2, 3] (by decide) rfl
      exact W.vret hx hb hr (fun t9 ht hW => ⟨⟨(fun k => [(y_7.1 1)].getD k 0, fun k => [(y_7.2.1 0)].getD k (fun _ => 0), fun k => [].getD k (fun _ => 0), fun _ => 0), rfl, trivial, by rw [ht]; exact hP9, hD9⟩, hS.F ht⟩) hS.2.2 dX12_count_170
    · skip
      have h_13 : rg 0 8 (y_7.1 0) := ⟨(h_8).1, Int.le_trans (c_nleR c_12 h_11) (by decide)⟩
      have h_14 : rg 1 9 (f201 6) := ⟨Int.le_trans (by decide) (c_nle c_12 h_8), (h_11).2⟩
      refine lv_aload_n hx hb dX12_count_44 rfl (lv_at hl 1 rfl) ?_
      refine lv_iload hx hb dX12_count_45 (lv_at hl 0 rfl) ?_
      refine lv_iload_n hx hb dX12_count_47 rfl (lv_at hl 2 rfl) ?_
      refine y_pV hF (s_X12_votesIn l D t a v200_0 v200_5 v200_7 v200_8 v200_9 v200_10 v200_11 v200_12 v200_13 v200_15 v200_17 v200_18 v200_19 (y_7.1 1) v200_23 v200_27 v200_28 v200_29 v200_33 v200_34 v200_35 f207 (y_7.1 0) p0 r200_5 r200_7 r200_8 r200_9 r200_23 h_13) m_1699 m_1701 m_s73 m_13 m_1702 hd_X12_votesIn ⟨Nat.le_of_ble_eq_true rfl, Nat.le_of_ble_eq_true rfl⟩ hK hN hP hS [0, 2] rfl 0 (ci := 12) rfl rfl rfl hl.1 rfl (Nat.le_of_ble_eq_true rfl) dX12_count_48 ⟨Nat.zero_le _, Nat.zero_le _⟩ (fun r_15 H locs hr_15 hP hS => ?_)
      refine lv_if_ne (tgt := 57) hx hb dX12_count_51 (by decide) (fun c_16 => ?_) (fun c_16 => ?_)
      · skip
        have h_17 : rg 1 1 r_15 := rg_w (rg_neL hr_15 c_16 (by decide)) (by decide) (by decide)
        refine lv_aload_n hx hb dX12_count_57 rfl (lv_at hl 1 rfl) ?_
        refine lv_iload hx hb dX12_count_58 (lv_at hl 0 rfl) ?_
        refine lv_iload_n hx hb dX12_count_60 rfl (lv_at hl 3 rfl) ?_
        refine y_pV hF (s_X12_firstOf l D t a v200_0 v200_5 v200_7 v200_8 v200_9 v200_10 v200_11 v200_12 v200_13 v200_15 v200_17 v200_18 v200_19 (y_7.1 1) v200_23 v200_27 v200_28 v200_29 v200_33 v200_34 v200_35 f201 (y_7.1 0) p1 r200_5 r200_7 r200_8 r200_9 r200_23 q201 h_13) m_1675 m_1677 m_s68 m_13 m_1678 hd_X12_firstOf ⟨Nat.le_of_ble_eq_true rfl, Nat.le_of_ble_eq_true rfl⟩ hK hN hP hS [0, 1] rfl 0 (ci := 12) rfl rfl rfl hl.1 rfl (Nat.le_of_ble_eq_true rfl) dX12_count_61 ⟨Nat.zero_le _, Nat.zero_le _⟩ (fun r_18 H locs hr_18 hP hS => ?_)
        refine lv_istore (lv' := [(5, .int r_18), (4, .int (y_7.1 0)), (0, .ref (a 200)), (1, .int p0), (2, .int p1), (3, .int p2)]) hx hb dX12_count_64 hl (by decide) rfl (fun ls hl => ?_)
        refine lv_aload_n hx hb dX12_count_66 rfl (lv_at hl 2 rfl) ?_
        refine lv_dup hx hb dX12_count_67 rfl ?_
        refine va_get (D := D) (ci := 12) (v := .int (y_7.1 1)) (C := RX12) (T := TX12) (N := 40) hx hb hts iX12 hown hK hP 0 rfl rfl 21 (by decide) (hts _ m_1364) (fun _ h9 => h9) rfl dX12_count_68 ?_
        refine lv_iload hx hb dX12_count_71 (lv_at hl 0 rfl) ?_
        refine lv_iconst (v := (-1)) hx hb dX12_count_73 (by decide) ?_
        refine cutW (α := US) (fun y_19 H locs ls => va_P D classes [(a 200, .inr (12, .int v200_0 :: .ref (a 201) :: .ref (a 202) :: .ref (a 203) :: .ref (a 204) :: .int v200_5 :: .ref (a 205) :: .int v200_7 :: .int v200_8 :: .int v200_9 :: .int v200_10 :: .int v200_11 :: .int v200_12 :: .int v200_13 :: .ref (a 206) :: .int v200_15 :: .ref (a 207) :: .int v200_17 :: .int v200_18 :: .int v200_19 :: .ref (a 208) :: .int (y_7.1 1) :: .ref (a 209) :: .int v200_23 :: .ref (a 210) :: .ref (a 211) :: .ref (a 212) :: .int v200_27 :: .int v200_28 :: .int v200_29 :: .ref (a 213) :: .ref (a 214) :: .ref (a 215) :: .int v200_33 :: .int v200_34 :: .int v200_35 :: .ref (a 216) :: .ref (a 217) :: .ref (a 218) :: .ref (a 219) :: [])), (a 201, .inl (t 0, 841, .inl f201)), (a 207, .inl (t 0, 9, .inl f207)), (a 208, .inl (t 0, 9, .inl (y_7.2.1 0)))] H ∧ va_D A [(a 200, .inr (12, .int v200_0 :: .ref (a 201) :: .ref (a 202) :: .ref (a 203) :: .ref (a 204) :: .int v200_5 :: .ref (a 205) :: .int v200_7 :: .int v200_8 :: .int v200_9 :: .int v200_10 :: .int v200_11 :: .int v200_12 :: .int v200_13 :: .ref (a 206) :: .int v200_15 :: .ref (a 207) :: .int v200_17 :: .int v200_18 :: .int v200_19 :: .ref (a 208) :: .int (y_7.1 1) :: .ref (a 209) :: .int v200_23 :: .ref (a 210) :: .ref (a 211) :: .ref (a 212) :: .int v200_27 :: .int v200_28 :: .int v200_29 :: .ref (a 213) :: .ref (a 214) :: .ref (a 215) :: .int v200_33 :: .int v200_34 :: .int v200_35 :: .ref (a 216) :: .ref (a 217) :: .ref (a 218) :: .ref (a 219) :: [])), (a 201, .inl (t 0, 841, .inl f201)), (a 207, .inl (t 0, 9, .inl f207)), (a 208, .inl (t 0, 9, .inl (y_7.2.1 0)))] ∧ va_S A s.heap H locs ∧ lv_has ls 7 [(5, .int r_18), (4, .int (y_7.1 0)), (0, .ref (a 200)), (1, .int p0), (2, .int p1), (3, .int p2)]) 88 (fun y_19 => [.int (y_19.1 0), .int (y_7.1 1), .ref (a 200)]) (fun y_19 H locs ls hI => ?_) (fun K_20 => ?_)
        · obtain ⟨hP, hD, hS, hl⟩ := hI
          refine lv_iadd hx hb dX12_count_88 ?_
          refine lv_topi (fun x_21 ex_21 => ?_)
          refine va_put (D := D) (ci := 12) (v := .int x_21) (ty := .int) (C := RX12) (T := TX12) (N := 40) hx hb hts iX12 tyX12 tyX12_ok nmX12 hown hK hP hD hS 0 rfl rfl 21 (by decide) (hts _ m_1364) (fun _ h9 => h9) rfl (tyX12_ok 21 (by decide)) rfl rfl (Nat.le_of_ble_eq_true rfl) dX12_count_89 (fun H locs hP hD hS => ?_)
          have hP : va_P D classes [(a 200, .inr (12, .int v200_0 :: .ref (a 201) :: .ref (a 202) :: .ref (a 203) :: .ref (a 204) :: .int v200_5 :: .ref (a 205) :: .int v200_7 :: .int v200_8 :: .int v200_9 :: .int v200_10 :: .int v200_11 :: .int v200_12 :: .int v200_13 :: .ref (a 206) :: .int v200_15 :: .ref (a 207) :: .int v200_17 :: .int v200_18 :: .int v200_19 :: .ref (a 208) :: .int x_21 :: .ref (a 209) :: .int v200_23 :: .ref (a 210) :: .ref (a 211) :: .ref (a 212) :: .int v200_27 :: .int v200_28 :: .int v200_29 :: .ref (a 213) :: .ref (a 214) :: .ref (a 215) :: .int v200_33 :: .int v200_34 :: .int v200_35 :: .ref (a 216) :: .ref (a 217) :: .ref (a 218) :: .ref (a 219) :: [])), (a 201, .inl (t 0, 841, .inl f201)), (a 207, .inl (t 0, 9, .inl f207)), (a 208, .inl (t 0, 9, .inl (y_7.2.1 0)))] H := hP
          have hD : va_D A [(a 200, .inr (12, .int v200_0 :: .ref (a 201) :: .ref (a 202) :: .ref (a 203) :: .ref (a 204) :: .int v200_5 :: .ref (a 205) :: .int v200_7 :: .int v200_8 :: .int v200_9 :: .int v200_10 :: .int v200_11 :: .int v200_12 :: .int v200_13 :: .ref (a 206) :: .int v200_15 :: .ref (a 207) :: .int v200_17 :: .int v200_18 :: .int v200_19 :: .ref (a 208) :: .int x_21 :: .ref (a 209) :: .int v200_23 :: .ref (a 210) :: .ref (a 211) :: .ref (a 212) :: .int v200_27 :: .int v200_28 :: .int v200_29 :: .ref (a 213) :: .ref (a 214) :: .ref (a 215) :: .int v200_33 :: .int v200_34 :: .int v200_35 :: .ref (a 216) :: .ref (a 217) :: .ref (a 218) :: .ref (a 219) :: [])), (a 201, .inl (t 0, 841, .inl f201)), (a 207, .inl (t 0, 9, .inl f207)), (a 208, .inl (t 0, 9, .inl (y_7.2.1 0)))] := hD
          refine lv_iconst (v := 0) hx hb dX12_count_92 (by decide) ?_
          refine lv_istore (lv' := [(6, .int 0), (5, .int r_18), (4, .int (y_7.1 0)), (0, .ref (a 200)), (1, .int p0), (2, .int p1), (3, .int p2)]) hx hb dX12_count_93 hl (by decide) rfl (fun ls hl => ?_)
          refine loopW (α := US) (fun n y_22 H locs ls => 9 < (y_22.1 0).toInt + (n : Int) ∧ rg 0 9 (y_22.1 0) ∧ va_P D classes [(a 200, .inr (12, .int v200_0 :: .ref (a 201) :: .ref (a 202) :: .ref (a 203) :: .ref (a 204) :: .int v200_5 :: .ref (a 205) :: .int v200_7 :: .int v200_8 :: .int v200_9 :: .int v200_10 :: .int v200_11 :: .int v200_12 :: .int v200_13 :: .ref (a 206) :: .int v200_15 :: .ref (a 207) :: .int v200_17 :: .int v200_18 :: .int v200_19 :: .ref (a 208) :: .int x_21 :: .ref (a 209) :: .int v200_23 :: .ref (a 210) :: .ref (a 211) :: .ref (a 212) :: .int v200_27 :: .int v200_28 :: .int v200_29 :: .ref (a 213) :: .ref (a 214) :: .ref (a 215) :: .int v200_33 :: .int v200_34 :: .int v200_35 :: .ref (a 216) :: .ref (a 217) :: .ref (a 218) :: .ref (a 219) :: [])), (a 201, .inl (t 0, 841, .inl f201)), (a 207, .inl (t 0, 9, .inl f207)), (a 208, .inl (t 0, 9, .inl (y_22.2.1 0)))] H ∧ va_D A [(a 200, .inr (12, .int v200_0 :: .ref (a 201) :: .ref (a 202) :: .ref (a 203) :: .ref (a 204) :: .int v200_5 :: .ref (a 205) :: .int v200_7 :: .int v200_8 :: .int v200_9 :: .int v200_10 :: .int v200_11 :: .int v200_12 :: .int v200_13 :: .ref (a 206) :: .int v200_15 :: .ref (a 207) :: .int v200_17 :: .int v200_18 :: .int v200_19 :: .ref (a 208) :: .int x_21 :: .ref (a 209) :: .int v200_23 :: .ref (a 210) :: .ref (a 211) :: .ref (a 212) :: .int v200_27 :: .int v200_28 :: .int v200_29 :: .ref (a 213) :: .ref (a 214) :: .ref (a 215) :: .int v200_33 :: .int v200_34 :: .int v200_35 :: .ref (a 216) :: .ref (a 217) :: .ref (a 218) :: .ref (a 219) :: [])), (a 201, .inl (t 0, 841, .inl f201)), (a 207, .inl (t 0, 9, .inl f207)), (a 208, .inl (t 0, 9, .inl (y_22.2.1 0)))] ∧ va_S A s.heap H locs ∧ lv_has ls 7 [(6, .int (y_22.1 0)), (5, .int r_18), (4, .int (y_7.1 0)), (0, .ref (a 200)), (1, .int p0), (2, .int p1), (3, .int p2)]) 95 (fun y_22 => []) (fun _ _ _ _ h9 => m_0 h9.1 h9.2.1) (fun n ih_24 y_22 H locs ls hI => ?_) 10 (fun k => [0].getD k 0, fun k => [(y_7.2.1 0)].getD k (fun _ => 0), fun k => [].getD k (fun _ => 0), fun k => [].getD k 0) ⟨(m_i (rg_c (x := 0) (k := 0) (by decide)) (by decide)), (rg_w (c := 0) (d := 9) (rg_c (x := 0) (k := 0) (by decide)) (by decide) (by decide)), hP, hD, hS, (lv_sub hl [0, 1, 2, 3, 4, 5, 6] rfl)⟩
          obtain ⟨me_25, h_23, hP, hD, hS, hl⟩ := hI
          refine lv_iload hx hb dX12_count_95 (lv_at hl 0 rfl) ?_
          refine lv_aload_n hx hb dX12_count_97 rfl (lv_at hl 3 rfl) ?_
          refine va_get (D := D) (ci := 12) (v := .ref (a 201)) (C := RX12) (T := TX12) (N := 40) hx hb hts iX12 hown hK hP 0 rfl rfl 1 (by decide) (hts _ m_1344) (fun _ h9 => h9) rfl dX12_count_98 ?_
          refine lv_iconst (v := 5) hx hb dX12_count_101 (by decide) ?_
          refine va_iald hx hb hK hP 1 0 rfl rfl (in_rg (rg_c (x := 5) (k := 5) (by decide)) (by decide) (by decide)) dX12_count_102 ?_
          refine x_seti (f201 5) rfl ?_
          have h_26 : rg 0 9 (f201 5) := q201 5 (by decide)
          refine lv_icmp_ge (tgt := 164) hx hb dX12_count_103 (by decide) (fun c_27 => ?_) (fun c_27 => ?_)
          · skip
            obtain ⟨x_28, ex_28⟩ : ∃ y9 : Int32, y9 = (y_7.1 0) + 1 := ⟨_, rfl⟩
            have hx_28 : rg 1 9 x_28 := by rw [ex_28]; exact rg_add h_13 (rg_c (x := 1) (k := 1) (by decide)) (by decide) (by decide) (by decide) (by decide)
            have tx_28 : x_28.toInt = (y_7.1 0).toInt + 1 := by rw [ex_28]; exact inc_tk h_13 (by decide) (by decide) (by decide)
            refine lv_iinc (v := x_28) (lv' := [(4, .int x_28), (6, .int (y_22.1 0)), (5, .int r_18), (0, .ref (a 200)), (1, .int p0), (2, .int p1), (3, .int p2)]) hx hb dX12_count_164 hl (k := 2) rfl (by rw [ex_28]; rfl) (by decide) rfl (fun ls hl => ?_)
            refine lv_goto (tgt := 32) hx hb dX12_count_167 (by decide) ?_
            exact ih_9 (fun k => [x_28, x_21].getD k 0, fun k => [(y_22.2.1 0)].getD k (fun _ => 0), fun k => [].getD k (fun _ => 0), fun k => [].getD k 0) _ _ ls ⟨(m_upk me_10 tx_28 (by decide)), (rg_w (c := 0) (d := 9) hx_28 (by decide) (by decide)), hP, hD, hS, (lv_sub hl [0, 3, 4, 5, 6] rfl)⟩
          · skip
            have h_29 : rg 0 8 (y_22.1 0) := ⟨(h_23).1, Int.le_trans (c_nleR c_27 h_26) (by decide)⟩
            have h_30 : rg 1 9 (f201 5) := ⟨Int.le_trans (by decide) (c_nle c_27 h_23), (h_26).2⟩
            refine lv_iload_n hx hb dX12_count_106 rfl (lv_at hl 5 rfl) ?_
            refine lv_iload hx hb dX12_count_107 (lv_at hl 0 rfl) ?_
            refine y_pS hF (s_X12_bit l D t a p1 (y_22.1 0)) m_1616 m_1617 m_13 m_1618 hd_X12_bit ⟨Nat.le_of_ble_eq_true rfl, Nat.le_of_ble_eq_true rfl⟩ hK hN hP hS [] rfl hl.1 rfl (Nat.le_of_ble_eq_true rfl) dX12_count_109 ⟨Nat.zero_le _, Nat.zero_le _⟩ (fun r_31 H locs hr_31 hP hS => ?_)
            have or_31 := hr_31.2
            refine lv_iconst (v := 1) hx hb dX12_count_112 (by decide) ?_
            refine lv_icmp_ne (tgt := 158) hx hb dX12_count_113 (by decide) (fun c_32 => ?_) (fun c_32 => ?_)
            · skip
              have h_33 : rg 0 0 r_31 := rg_w (rg_neR hr_31.1 c_32 (by decide)) (by decide) (by decide)
              obtain ⟨x_34, ex_34⟩ : ∃ y9 : Int32, y9 = (y_22.1 0) + 1 := ⟨_, rfl⟩
              have hx_34 : rg 1 9 x_34 := by rw [ex_34]; exact rg_add h_29 (rg_c (x := 1) (k := 1) (by decide)) (by decide) (by decide) (by decide) (by decide)
              have tx_34 : x_34.toInt = (y_22.1 0).toInt + 1 := by rw [ex_34]; exact inc_tk h_29 (by decide) (by decide) (by decide)
              refine lv_iinc (v := x_34) (lv' := [(6, .int x_34), (5, .int r_18), (4, .int (y_7.1 0)), (0, .ref (a 200)), (1, .int p0), (2, .int p1), (3, .int p2)]) hx hb dX12_count_158 hl (k := 0) rfl (by rw [ex_34]; rfl) (by decide) rfl (fun ls hl => ?_)
              refine lv_goto (tgt := 95) hx hb dX12_count_161 (by decide) ?_
              exact ih_24 (fun k => [x_34].getD k 0, fun k => [(y_22.2.1 0)].getD k (fun _ => 0), fun k => [].getD k (fun _ => 0), fun k => [].getD k 0) _ _ ls ⟨(m_upk me_25 tx_34 (by decide)), (rg_w (c := 0) (d := 9) hx_34 (by decide) (by decide)), hP, hD, hS, (lv_sub hl [0, 1, 2, 3, 4, 5, 6] rfl)⟩
            · skip
              have h_35 : rg 1 1 r_31 := rg_eq c_32 (rg_c (x := 1) (k := 1) (by decide))
              refine lv_iload_n hx hb dX12_count_116 rfl (lv_at hl 6 rfl) ?_
              refine lv_if_eq (tgt := 134) hx hb dX12_count_117 (by decide) (fun c_36 => ?_) (fun c_36 => ?_)
              · skip
                have h_37 : rg 0 0 p2 := rg_eq c_36 (rg_c (x := 0) (k := 0) (by decide))
                refine lv_iload hx hb dX12_count_134 (lv_at hl 0 rfl) ?_
                refine lv_iload hx hb dX12_count_136 (lv_at hl 1 rfl) ?_
                refine lv_icmp_ne (tgt := 158) hx hb dX12_count_138 (by decide) (fun c_38 => ?_) (fun c_38 => ?_)
                · skip
                  obtain ⟨x_39, ex_39⟩ : ∃ y9 : Int32, y9 = (y_22.1 0) + 1 := ⟨_, rfl⟩
                  have hx_39 : rg 1 9 x_39 := by rw [ex_39]; exact rg_add h_29 (rg_c (x := 1) (k := 1) (by decide)) (by decide) (by decide) (by decide) (by decide)
                  have tx_39 : x_39.toInt = (y_22.1 0).toInt + 1 := by rw [ex_39]; exact inc_tk h_29 (by decide) (by decide) (by decide)
                  refine lv_iinc (v := x_39) (lv' := [(6, .int x_39), (5, .int r_18), (4, .int (y_7.1 0)), (0, .ref (a 200)), (1, .int p0), (2, .int p1), (3, .int p2)]) hx hb dX12_count_158 hl (k := 0) rfl (by rw [ex_39]; rfl) (by decide) rfl (fun ls hl => ?_)
                  refine lv_goto (tgt := 95) hx hb dX12_count_161 (by decide) ?_
                  exact ih_24 (fun k => [x_39].getD k 0, fun k => [(y_22.2.1 0)].getD k (fun _ => 0), fun k => [].getD k (fun _ => 0), fun k => [].getD k 0) _ _ ls ⟨(m_upk me_25 tx_39 (by decide)), (rg_w (c := 0) (d := 9) hx_39 (by decide) (by decide)), hP, hD, hS, (lv_sub hl [0, 1, 2, 3, 4, 5, 6] rfl)⟩
                · skip
                  refine lv_aload_n hx hb dX12_count_141 rfl (lv_at hl 3 rfl) ?_
                  refine va_get (D := D) (ci := 12) (v := .ref (a 208)) (C := RX12) (T := TX12) (N := 40) hx hb hts iX12 hown hK hP 0 rfl rfl 20 (by decide) (hts _ m_1363) (fun _ h9 => h9) rfl dX12_count_142 ?_
                  refine lv_iload hx hb dX12_count_145 (lv_at hl 0 rfl) ?_
                  refine lv_dup2_11 hx hb dX12_count_147 rfl rfl ?_
                  refine va_iald hx hb hK hP 3 0 rfl rfl (in_rg h_29 (by decide) (by decide)) dX12_count_148 ?_
                  refine lv_topi (fun x_40 ex_40 => ?_)
                  refine lv_aload_n hx hb dX12_count_149 rfl (lv_at hl 3 rfl) ?_
                  refine lv_iload hx hb dX12_count_150 (lv_at hl 2 rfl) ?_
                  refine lv_iconst (v := 1) hx hb dX12_count_152 (by decide) ?_
                  refine y_pV hF (s_ofSpeaker1 l D t a v200_0 v200_5 v200_7 v200_8 v200_9 v200_10 v200_11 v200_12 v200_13 v200_15 v200_17 v200_18 v200_19 x_21 v200_23 v200_27 v200_28 v200_29 v200_33 v200_34 v200_35 f201 (y_7.1 0) 1 r200_5 r200_7 r200_8 r200_9 r200_23 q201 h_13 (rg_c (x := 1) (k := 1) (by decide))) m_1628 m_1630 m_s60 m_13 m_1631 hd_X12_ofSpeaker ⟨Nat.le_of_ble_eq_true rfl, Nat.le_of_ble_eq_true rfl⟩ hK hN hP hS [0, 1] rfl 0 (ci := 12) rfl rfl rfl hl.1 rfl (Nat.le_of_ble_eq_true rfl) dX12_count_153 ⟨Nat.zero_le _, Nat.zero_le _⟩ (fun r_41 H locs hr_41 hP hS => ?_)
                  refine lv_iadd hx hb dX12_count_156 ?_
                  refine lv_topi (fun x_42 ex_42 => ?_)
                  refine x_iast hx hb hK hP hD hS 3 0 rfl rfl (in_rg h_29 (by decide) (by decide)) dX12_count_157 (fun g_43 H locs hP hD hS => ?_)
                  have hP : va_P D classes [(a 200, .inr (12, .int v200_0 :: .ref (a 201) :: .ref (a 202) :: .ref (a 203) :: .ref (a 204) :: .int v200_5 :: .ref (a 205) :: .int v200_7 :: .int v200_8 :: .int v200_9 :: .int v200_10 :: .int v200_11 :: .int v200_12 :: .int v200_13 :: .ref (a 206) :: .int v200_15 :: .ref (a 207) :: .int v200_17 :: .int v200_18 :: .int v200_19 :: .ref (a 208) :: .int x_21 :: .ref (a 209) :: .int v200_23 :: .ref (a 210) :: .ref (a 211) :: .ref (a 212) :: .int v200_27 :: .int v200_28 :: .int v200_29 :: .ref (a 213) :: .ref (a 214) :: .ref (a 215) :: .int v200_33 :: .int v200_34 :: .int v200_35 :: .ref (a 216) :: .ref (a 217) :: .ref (a 218) :: .ref (a 219) :: [])), (a 201, .inl (t 0, 841, .inl f201)), (a 207, .inl (t 0, 9, .inl f207)), (a 208, .inl (t 0, 9, .inl g_43))] H := hP
                  have hD : va_D A [(a 200, .inr (12, .int v200_0 :: .ref (a 201) :: .ref (a 202) :: .ref (a 203) :: .ref (a 204) :: .int v200_5 :: .ref (a 205) :: .int v200_7 :: .int v200_8 :: .int v200_9 :: .int v200_10 :: .int v200_11 :: .int v200_12 :: .int v200_13 :: .ref (a 206) :: .int v200_15 :: .ref (a 207) :: .int v200_17 :: .int v200_18 :: .int v200_19 :: .ref (a 208) :: .int x_21 :: .ref (a 209) :: .int v200_23 :: .ref (a 210) :: .ref (a 211) :: .ref (a 212) :: .int v200_27 :: .int v200_28 :: .int v200_29 :: .ref (a 213) :: .ref (a 214) :: .ref (a 215) :: .int v200_33 :: .int v200_34 :: .int v200_35 :: .ref (a 216) :: .ref (a 217) :: .ref (a 218) :: .ref (a 219) :: [])), (a 201, .inl (t 0, 841, .inl f201)), (a 207, .inl (t 0, 9, .inl f207)), (a 208, .inl (t 0, 9, .inl g_43))] := hD
                  obtain ⟨x_44, ex_44⟩ : ∃ y9 : Int32, y9 = (y_22.1 0) + 1 := ⟨_, rfl⟩
                  have hx_44 : rg 1 9 x_44 := by rw [ex_44]; exact rg_add h_29 (rg_c (x := 1) (k := 1) (by decide)) (by decide) (by decide) (by decide) (by decide)
                  have tx_44 : x_44.toInt = (y_22.1 0).toInt + 1 := by rw [ex_44]; exact inc_tk h_29 (by decide) (by decide) (by decide)
                  refine lv_iinc (v := x_44) (lv' := [(6, .int x_44), (5, .int r_18), (4, .int (y_7.1 0)), (0, .ref (a 200)), (1, .int p0), (2, .int p1), (3, .int p2)]) hx hb dX12_count_158 hl (k := 0) rfl (by rw [ex_44]; rfl) (by decide) rfl (fun ls hl => ?_)
                  refine lv_goto (tgt := 95) hx hb dX12_count_161 (by decide) ?_
                  exact ih_24 (fun k => [x_44].getD k 0, fun k => [g_43].getD k (fun _ => 0), fun k => [].getD k (fun _ => 0), fun k => [].getD k 0) _ _ ls ⟨(m_upk me_25 tx_44 (by decide)), (rg_w (c := 0) (d := 9) hx_44 (by decide) (by decide)), hP, hD, hS, (lv_sub hl [0, 1, 2, 3, 4, 5, 6] rfl)⟩
              · skip
                have h_45 : rg 1 1 p2 := rg_w (rg_neL rp2 c_36 (by decide)) (by decide) (by decide)
                refine lv_aload_n hx hb dX12_count_120 rfl (lv_at hl 3 rfl) ?_
                refine lv_iload hx hb dX12_count_121 (lv_at hl 2 rfl) ?_
                refine lv_iload hx hb dX12_count_123 (lv_at hl 0 rfl) ?_
                refine y_pV hF (s_X12_isLiked l D t a v200_0 v200_5 v200_7 v200_8 v200_9 v200_10 v200_11 v200_12 v200_13 v200_15 v200_17 v200_18 v200_19 x_21 v200_23 v200_27 v200_28 v200_29 v200_33 v200_34 v200_35 f201 (y_7.1 0) (y_22.1 0) r200_5 r200_7 r200_8 r200_9 r200_23 q201 h_13 h_29) m_1679 m_1681 m_s69 m_13 m_1682 hd_X12_isLiked ⟨Nat.le_of_ble_eq_true rfl, Nat.le_of_ble_eq_true rfl⟩ hK hN hP hS [0, 1] rfl 0 (ci := 12) rfl rfl rfl hl.1 rfl (Nat.le_of_ble_eq_true rfl) dX12_count_125 ⟨Nat.zero_le _, Nat.zero_le _⟩ (fun r_46 H locs hr_46 hP hS => ?_)
                refine lv_if_eq (tgt := 158) hx hb dX12_count_128 (by decide) (fun c_47 => ?_) (fun c_47 => ?_)
                · skip
                  have h_48 : rg 0 0 r_46 := rg_eq c_47 (rg_c (x := 0) (k := 0) (by decide))
                  obtain ⟨x_49, ex_49⟩ : ∃ y9 : Int32, y9 = (y_22.1 0) + 1 := ⟨_, rfl⟩
                  have hx_49 : rg 1 9 x_49 := by rw [ex_49]; exact rg_add h_29 (rg_c (x := 1) (k := 1) (by decide)) (by decide) (by decide) (by decide) (by decide)
                  have tx_49 : x_49.toInt = (y_22.1 0).toInt + 1 := by rw [ex_49]; exact inc_tk h_29 (by decide) (by decide) (by decide)
                  refine lv_iinc (v := x_49) (lv' := [(6, .int x_49), (5, .int r_18), (4, .int (y_7.1 0)), (0, .ref (a 200)), (1, .int p0), (2, .int p1), (3, .int p2)]) hx hb dX12_count_158 hl (k := 0) rfl (by rw [ex_49]; rfl) (by decide) rfl (fun ls hl => ?_)
                  refine lv_goto (tgt := 95) hx hb dX12_count_161 (by decide) ?_
                  exact ih_24 (fun k => [x_49].getD k 0, fun k => [(y_22.2.1 0)].getD k (fun _ => 0), fun k => [].getD k (fun _ => 0), fun k => [].getD k 0) _ _ ls ⟨(m_upk me_25 tx_49 (by decide)), (rg_w (c := 0) (d := 9) hx_49 (by decide) (by decide)), hP, hD, hS, (lv_sub hl [0, 1, 2, 3, 4, 5, 6] rfl)⟩
                · skip
                  have h_50 : rg 1 1 r_46 := rg_w (rg_neL hr_46 c_47 (by decide)) (by decide) (by decide)
                  refine lv_goto (tgt := 141) hx hb dX12_count_131 (by decide) ?_
                  refine lv_aload_n hx hb dX12_count_141 rfl (lv_at hl 3 rfl) ?_
                  refine va_get (D := D) (ci := 12) (v := .ref (a 208)) (C := RX12) (T := TX12) (N := 40) hx hb hts iX12 hown hK hP 0 rfl rfl 20 (by decide) (hts _ m_1363) (fun _ h9 => h9) rfl dX12_count_142 ?_
                  refine lv_iload hx hb dX12_count_145 (lv_at hl 0 rfl) ?_
                  refine lv_dup2_11 hx hb dX12_count_147 rfl rfl ?_
                  refine va_iald hx hb hK hP 3 0 rfl rfl (in_rg h_29 (by decide) (by decide)) dX12_count_148 ?_
                  refine lv_topi (fun x_51 ex_51 => ?_)
                  refine lv_aload_n hx hb dX12_count_149 rfl (lv_at hl 3 rfl) ?_
                  refine lv_iload hx hb dX12_count_150 (lv_at hl 2 rfl) ?_
                  refine lv_iconst (v := 1) hx hb dX12_count_152 (by decide) ?_
                  refine y_pV hF (s_ofSpeaker1 l D t a v200_0 v200_5 v200_7 v200_8 v200_9 v200_10 v200_11 v200_12 v200_13 v200_15 v200_17 v200_18 v200_19 x_21 v200_23 v200_27 v200_28 v200_29 v200_33 v200_34 v200_35 f201 (y_7.1 0) 1 r200_5 r200_7 r200_8 r200_9 r200_23 q201 h_13 (rg_c (x := 1) (k := 1) (by decide))) m_1628 m_1630 m_s60 m_13 m_1631 hd_X12_ofSpeaker ⟨Nat.le_of_ble_eq_true rfl, Nat.le_of_ble_eq_true rfl⟩ hK hN hP hS [0, 1] rfl 0 (ci := 12) rfl rfl rfl hl.1 rfl (Nat.le_of_ble_eq_true rfl) dX12_count_153 ⟨Nat.zero_le _, Nat.zero_le _⟩ (fun r_52 H locs hr_52 hP hS => ?_)
                  refine lv_iadd hx hb dX12_count_156 ?_
                  refine lv_topi (fun x_53 ex_53 => ?_)
                  refine x_iast hx hb hK hP hD hS 3 0 rfl rfl (in_rg h_29 (by decide) (by decide)) dX12_count_157 (fun g_54 H locs hP hD hS => ?_)
                  have hP : va_P D classes [(a 200, .inr (12, .int v200_0 :: .ref (a 201) :: .ref (a 202) :: .ref (a 203) :: .ref (a 204) :: .int v200_5 :: .ref (a 205) :: .int v200_7 :: .int v200_8 :: .int v200_9 :: .int v200_10 :: .int v200_11 :: .int v200_12 :: .int v200_13 :: .ref (a 206) :: .int v200_15 :: .ref (a 207) :: .int v200_17 :: .int v200_18 :: .int v200_19 :: .ref (a 208) :: .int x_21 :: .ref (a 209) :: .int v200_23 :: .ref (a 210) :: .ref (a 211) :: .ref (a 212) :: .int v200_27 :: .int v200_28 :: .int v200_29 :: .ref (a 213) :: .ref (a 214) :: .ref (a 215) :: .int v200_33 :: .int v200_34 :: .int v200_35 :: .ref (a 216) :: .ref (a 217) :: .ref (a 218) :: .ref (a 219) :: [])), (a 201, .inl (t 0, 841, .inl f201)), (a 207, .inl (t 0, 9, .inl f207)), (a 208, .inl (t 0, 9, .inl g_54))] H := hP
                  have hD : va_D A [(a 200, .inr (12, .int v200_0 :: .ref (a 201) :: .ref (a 202) :: .ref (a 203) :: .ref (a 204) :: .int v200_5 :: .ref (a 205) :: .int v200_7 :: .int v200_8 :: .int v200_9 :: .int v200_10 :: .int v200_11 :: .int v200_12 :: .int v200_13 :: .ref (a 206) :: .int v200_15 :: .ref (a 207) :: .int v200_17 :: .int v200_18 :: .int v200_19 :: .ref (a 208) :: .int x_21 :: .ref (a 209) :: .int v200_23 :: .ref (a 210) :: .ref (a 211) :: .ref (a 212) :: .int v200_27 :: .int v200_28 :: .int v200_29 :: .ref (a 213) :: .ref (a 214) :: .ref (a 215) :: .int v200_33 :: .int v200_34 :: .int v200_35 :: .ref (a 216) :: .ref (a 217) :: .ref (a 218) :: .ref (a 219) :: [])), (a 201, .inl (t 0, 841, .inl f201)), (a 207, .inl (t 0, 9, .inl f207)), (a 208, .inl (t 0, 9, .inl g_54))] := hD
                  obtain ⟨x_55, ex_55⟩ : ∃ y9 : Int32, y9 = (y_22.1 0) + 1 := ⟨_, rfl⟩
                  have hx_55 : rg 1 9 x_55 := by rw [ex_55]; exact rg_add h_29 (rg_c (x := 1) (k := 1) (by decide)) (by decide) (by decide) (by decide) (by decide)
                  have tx_55 : x_55.toInt = (y_22.1 0).toInt + 1 := by rw [ex_55]; exact inc_tk h_29 (by decide) (by decide) (by decide)
                  refine lv_iinc (v := x_55) (lv' := [(6, .int x_55), (5, .int r_18), (4, .int (y_7.1 0)), (0, .ref (a 200)), (1, .int p0), (2, .int p1), (3, .int p2)]) hx hb dX12_count_158 hl (k := 0) rfl (by rw [ex_55]; rfl) (by decide) rfl (fun ls hl => ?_)
                  refine lv_goto (tgt := 95) hx hb dX12_count_161 (by decide) ?_
                  exact ih_24 (fun k => [x_55].getD k 0, fun k => [g_54].getD k (fun _ => 0), fun k => [].getD k (fun _ => 0), fun k => [].getD k 0) _ _ ls ⟨(m_upk me_25 tx_55 (by decide)), (rg_w (c := 0) (d := 9) hx_55 (by decide) (by decide)), hP, hD, hS, (lv_sub hl [0, 1, 2, 3, 4, 5, 6] rfl)⟩
        · refine lv_icmp_ne (tgt := 81) hx hb dX12_count_74 (by decide) (fun c_56 => ?_) (fun c_56 => ?_)
          · skip
            have h_57 : rg 0 8 r_18 := rg_w (rg_neL hr_18 c_56 (by decide)) (by decide) (by decide)
            refine lv_aload_n hx hb dX12_count_81 rfl (lv_at hl 2 rfl) ?_
            refine lv_iload hx hb dX12_count_82 (lv_at hl 1 rfl) ?_
            refine lv_iconst (v := 1) hx hb dX12_count_84 (by decide) ?_
            refine y_pV hF (s_ofSpeaker1 l D t a v200_0 v200_5 v200_7 v200_8 v200_9 v200_10 v200_11 v200_12 v200_13 v200_15 v200_17 v200_18 v200_19 (y_7.1 1) v200_23 v200_27 v200_28 v200_29 v200_33 v200_34 v200_35 f201 (y_7.1 0) 1 r200_5 r200_7 r200_8 r200_9 r200_23 q201 h_13 (rg_c (x := 1) (k := 1) (by decide))) m_1628 m_1630 m_s60 m_13 m_1631 hd_X12_ofSpeaker ⟨Nat.le_of_ble_eq_true rfl, Nat.le_of_ble_eq_true rfl⟩ hK hN hP hS [0, 1] rfl 0 (ci := 12) rfl rfl rfl hl.1 rfl (Nat.le_of_ble_eq_true rfl) dX12_count_85 ⟨Nat.zero_le _, Nat.zero_le _⟩ (fun r_58 H locs hr_58 hP hS => ?_)
            exact K_20 (fun k => [r_58].getD k 0, fun k => [].getD k (fun _ => 0), fun k => [].getD k (fun _ => 0), fun k => [].getD k 0) _ _ ls ⟨hP, hD, hS, (lv_sub hl [0, 1, 2, 3, 4, 5] rfl)⟩
          · skip
            have h_59 : rg (-1) (-1) r_18 := rg_eq c_56 (rg_c (x := (-1)) (k := (-1)) (by decide))
            refine lv_iconst (v := 0) hx hb dX12_count_77 (by decide) ?_
            refine lv_goto (tgt := 88) hx hb dX12_count_78 (by decide) ?_
            exact K_20 (fun k => [0].getD k 0, fun k => [].getD k (fun _ => 0), fun k => [].getD k (fun _ => 0), fun k => [].getD k 0) _ _ ls ⟨hP, hD, hS, (lv_sub hl [0, 1, 2, 3, 4, 5] rfl)⟩
      · skip
        have h_60 : rg 0 0 r_15 := rg_eq c_16 (rg_c (x := 0) (k := 0) (by decide))
        refine lv_goto (tgt := 164) hx hb dX12_count_54 (by decide) ?_
        obtain ⟨x_61, ex_61⟩ : ∃ y9 : Int32, y9 = (y_7.1 0) + 1 := ⟨_, rfl⟩
        have hx_61 : rg 1 9 x_61 := by rw [ex_61]; exact rg_add h_13 (rg_c (x := 1) (k := 1) (by decide)) (by decide) (by decide) (by decide) (by decide)
        have tx_61 : x_61.toInt = (y_7.1 0).toInt + 1 := by rw [ex_61]; exact inc_tk h_13 (by decide) (by decide) (by decide)
        refine lv_iinc (v := x_61) (lv' := [(4, .int x_61), (0, .ref (a 200)), (1, .int p0), (2, .int p1), (3, .int p2)]) hx hb dX12_count_164 hl (k := 0) rfl (by rw [ex_61]; rfl) (by decide) rfl (fun ls hl => ?_)
        refine lv_goto (tgt := 32) hx hb dX12_count_167 (by decide) ?_
        exact ih_9 (fun k => [x_61, (y_7.1 1)].getD k 0, fun k => [(y_7.2.1 0)].getD k (fun _ => 0), fun k => [].getD k (fun _ => 0), fun k => [].getD k 0) _ _ ls ⟨(m_upk me_10 tx_61 (by decide)), (rg_w (c := 0) (d := 9) hx_61 (by decide) (by decide)), hP, hD, hS, (lv_sub hl [0, 1, 2, 3, 4] rfl)⟩
  · skip
    have h_62 : rg 0 8 (y_1.1 0) := ⟨(h_2).1, Int.le_trans (c_nleR c_5 (rg_c (x := 9) (k := 9) (by decide))) (by decide)⟩
    refine lv_aload_n hx hb dX12_count_10 rfl (lv_at hl 1 rfl) ?_
    refine va_get (D := D) (ci := 12) (v := .ref (a 208)) (C := RX12) (T := TX12) (N := 40) hx hb hts iX12 hown hK hP 0 rfl rfl 20 (by decide) (hts _ m_1363) (fun _ h9 => h9) rfl dX12_count_11 ?_
    refine lv_iload hx hb dX12_count_14 (lv_at hl 0 rfl) ?_
    refine lv_iconst (v := 0) hx hb dX12_count_16 (by decide) ?_
    refine x_iast hx hb hK hP hD hS 3 0 rfl rfl (in_rg h_62 (by decide) (by decide)) dX12_count_17 (fun g_63 H locs hP hD hS => ?_)
    have hP : va_P D classes [(a 200, .inr (12, .int v200_0 :: .ref (a 201) :: .ref (a 202) :: .ref (a 203) :: .ref (a 204) :: .int v200_5 :: .ref (a 205) :: .int v200_7 :: .int v200_8 :: .int v200_9 :: .int v200_10 :: .int v200_11 :: .int v200_12 :: .int v200_13 :: .ref (a 206) :: .int v200_15 :: .ref (a 207) :: .int v200_17 :: .int v200_18 :: .int v200_19 :: .ref (a 208) :: .int v200_21 :: .ref (a 209) :: .int v200_23 :: .ref (a 210) :: .ref (a 211) :: .ref (a 212) :: .int v200_27 :: .int v200_28 :: .int v200_29 :: .ref (a 213) :: .ref (a 214) :: .ref (a 215) :: .int v200_33 :: .int v200_34 :: .int v200_35 :: .ref (a 216) :: .ref (a 217) :: .ref (a 218) :: .ref (a 219) :: [])), (a 201, .inl (t 0, 841, .inl f201)), (a 207, .inl (t 0, 9, .inl f207)), (a 208, .inl (t 0, 9, .inl g_63))] H := hP
    have hD : va_D A [(a 200, .inr (12, .int v200_0 :: .ref (a 201) :: .ref (a 202) :: .ref (a 203) :: .ref (a 204) :: .int v200_5 :: .ref (a 205) :: .int v200_7 :: .int v200_8 :: .int v200_9 :: .int v200_10 :: .int v200_11 :: .int v200_12 :: .int v200_13 :: .ref (a 206) :: .int v200_15 :: .ref (a 207) :: .int v200_17 :: .int v200_18 :: .int v200_19 :: .ref (a 208) :: .int v200_21 :: .ref (a 209) :: .int v200_23 :: .ref (a 210) :: .ref (a 211) :: .ref (a 212) :: .int v200_27 :: .int v200_28 :: .int v200_29 :: .ref (a 213) :: .ref (a 214) :: .ref (a 215) :: .int v200_33 :: .int v200_34 :: .int v200_35 :: .ref (a 216) :: .ref (a 217) :: .ref (a 218) :: .ref (a 219) :: [])), (a 201, .inl (t 0, 841, .inl f201)), (a 207, .inl (t 0, 9, .inl f207)), (a 208, .inl (t 0, 9, .inl g_63))] := hD
    obtain ⟨x_64, ex_64⟩ : ∃ y9 : Int32, y9 = (y_1.1 0) + 1 := ⟨_, rfl⟩
    have hx_64 : rg 1 9 x_64 := by rw [ex_64]; exact rg_add h_62 (rg_c (x := 1) (k := 1) (by decide)) (by decide) (by decide) (by decide) (by decide)
    have tx_64 : x_64.toInt = (y_1.1 0).toInt + 1 := by rw [ex_64]; exact inc_tk h_62 (by decide) (by decide) (by decide)
    refine lv_iinc (v := x_64) (lv' := [(4, .int x_64), (0, .ref (a 200)), (1, .int p0), (2, .int p1), (3, .int p2)]) hx hb dX12_count_18 hl (k := 0) rfl (by rw [ex_64]; rfl) (by decide) rfl (fun ls hl => ?_)
    refine lv_goto (tgt := 3) hx hb dX12_count_21 (by decide) ?_
    exact ih_3 (fun k => [x_64].getD k 0, fun k => [g_63].getD k (fun _ => 0), fun k => [].getD k (fun _ => 0), fun k => [].getD k 0) _ _ ls ⟨(m_upk me_4 tx_64 (by decide)), (rg_w (c := 0) (d := 9) hx_64 (by decide) (by decide)), hP, hD, hS, (lv_sub hl [0, 1, 2, 3, 4] rfl)⟩

