set_option maxHeartbeats 4000000 in
set_option maxRecDepth 100000 in
theorem s_X9_takeBack_54 (l : Launch) (D : va_G) (t : Nat → ClassId) (a : Nat → Nat) (v54_0 : Int32) (v54_1 : Int32) (v54_2 : Int32) (f55 : Nat → Int32) (f56 : Nat → Int32) (f57 : Nat → Int32) (f58 : Nat → Int32) (r54_0 : rg 0 60 v54_0) (sz : Nat) : Met l yX9_takeBack (wd yX9_takeBack cX9_takeBack 1 none) (RM 1 0 0) (PreW D (TY t) [.ref (a 54)] [(a 54, .inr (9, [.int v54_0, .int v54_1, .int v54_2, .ref (a 55), .ref (a 56), .ref (a 57), .ref (a 58)])), (a 55, .inl (t 0, 9, .inl f55)), (a 56, .inl (t 0, 60, .inl f56)), (a 57, .inl (t 0, 60, .inl f57)), (a 58, .inl (t 0, 540, .inl f58))] sz) (va_Qv (fun (u : US) => rg 0 60 (u.1 0)) (fun (u : US) t9 => va_P D classes ((fun u : US => [(a 54, .inr (9, [.int (u.1 0), .int (u.1 1), .int (u.1 2), .ref (a 55), .ref (a 56), .ref (a 57), .ref (a 58)])), (a 55, .inl (t 0, 9, .inl (u.2.1 0))), (a 56, .inl (t 0, 60, .inl f56)), (a 57, .inl (t 0, 60, .inl f57)), (a 58, .inl (t 0, 540, .inl f58))]) u) t9.heap ∧ va_D (va_A [(a 54, .inr (9, [.int v54_0, .int v54_1, .int v54_2, .ref (a 55), .ref (a 56), .ref (a 57), .ref (a 58)])), (a 55, .inl (t 0, 9, .inl f55)), (a 56, .inl (t 0, 60, .inl f56)), (a 57, .inl (t 0, 60, .inl f57)), (a 58, .inl (t 0, 540, .inl f58))] sz) ((fun u : US => [(a 54, .inr (9, [.int (u.1 0), .int (u.1 1), .int (u.1 2), .ref (a 55), .ref (a 56), .ref (a 57), .ref (a 58)])), (a 55, .inl (t 0, 9, .inl (u.2.1 0))), (a 56, .inl (t 0, 60, .inl f56)), (a 57, .inl (t 0, 60, .inl f57)), (a 58, .inl (t 0, 540, .inl f58))]) u)) (va_A [(a 54, .inr (9, [.int v54_0, .int v54_1, .int v54_2, .ref (a 55), .ref (a 56), .ref (a 57), .ref (a 58)])), (a 55, .inl (t 0, 9, .inl f55)), (a 56, .inl (t 0, 60, .inl f56)), (a 57, .inl (t 0, 60, .inl f57)), (a 58, .inl (t 0, 540, .inl f58))] sz)) 0 0 (va_A [(a 54, .inr (9, [.int v54_0, .int v54_1, .int v54_2, .ref (a 55), .ref (a 56), .ref (a 57), .ref (a 58)])), (a 55, .inl (t 0, 9, .inl f55)), (a 56, .inl (t 0, 60, .inl f56)), (a 57, .inl (t 0, 60, .inl f57)), (a 58, .inl (t 0, 540, .inl f58))] sz) := by
  refine Met.ofW (cc := cX9_takeBack) (maxL := 1) (ret := none) (by decide) rfl ?_
  intro p e s m args below meth c s₁ B hml hv
  obtain ⟨rfl, hsz, hP, hK, hD0, hN⟩ := hv
  have hx := B.exec
  have hb := B.bytes
  have hr := B.returns
  have hts : ∀ w ∈ TB, w.before _ s = true := fun w h => atoms_spec (ws := wd yX9_takeBack cX9_takeBack 1 none) B.pre w (List.mem_cons_of_mem _ h)
  have hown : s.vm.findClass RX9 = some m.cls := findClass_of_methodNamed B.named
  have hlocks := B.notSynchronized
  have hF : CallFix p m c cX9_takeBack 1 s _ TB RX9 := ⟨hx, hb, hml, hown, hts⟩
  have hl := lv_entry ([.ref (a 54)]) (n := 1) (Nat.le_of_ble_eq_true rfl)
  rw [lg_entry_eq]
  generalize (lg_sl ([.ref (a 54)]) ++ List.replicate (1 - (lg_sl ([.ref (a 54)])).length) Slot.unset).toArray = ls at hl ⊢
  have hl : lv_has ls 1 [(0, .ref (a 54))] := hl
  subst hsz
  have hD := hD0.self (sz := s.heap.size)
  generalize hAe : va_A [(a 54, .inr (9, [.int v54_0, .int v54_1, .int v54_2, .ref (a 55), .ref (a 56), .ref (a 57), .ref (a 58)])), (a 55, .inl (t 0, 9, .inl f55)), (a 56, .inl (t 0, 60, .inl f56)), (a 57, .inl (t 0, 60, .inl f57)), (a 58, .inl (t 0, 540, .inl f58))] s.heap.size = A at hD ⊢
  have hA : ∀ q : Nat, s.heap.size ≤ q → A q := fun q h => by rw [← hAe]; exact Or.inr h
  have hS : va_S A s.heap s.heap [] := va_S.rf
  have hP : va_P D classes [(a 54, .inr (9, [.int v54_0, .int v54_1, .int v54_2, .ref (a 55), .ref (a 56), .ref (a 57), .ref (a 58)])), (a 55, .inl (t 0, 9, .inl f55)), (a 56, .inl (t 0, 60, .inl f56)), (a 57, .inl (t 0, 60, .inl f57)), (a 58, .inl (t 0, 540, .inl f58))] s.heap := hP
  refine lv_aload_n hx hb dX9_takeBack_0 rfl (lv_at hl 0 rfl) ?_
  refine va_get (D := D) (ci := 9) (v := .int v54_0) (C := RX9) (T := TX9) (N := 7) hx hb hts iX9 hown hK hP 0 rfl rfl 0 (by decide) (hts _ m_85) (fun _ h9 => h9) rfl dX9_takeBack_1 ?_
  refine lv_if_ne (tgt := 8) hx hb dX9_takeBack_4 (by decide) (fun c_1 => ?_) (fun c_1 => ?_)
  · skip
    have h_2 : rg 1 60 v54_0 := rg_w (rg_neL r54_0 c_1 (by decide)) (by decide) (by decide)
    refine lv_aload_n hx hb dX9_takeBack_8 rfl (lv_at hl 0 rfl) ?_
    refine lv_dup hx hb dX9_takeBack_9 rfl ?_
    refine va_get (D := D) (ci := 9) (v := .int v54_0) (C := RX9) (T := TX9) (N := 7) hx hb hts iX9 hown hK hP 0 rfl rfl 0 (by decide) (hts _ m_85) (fun _ h9 => h9) rfl dX9_takeBack_10 ?_
    refine lv_iconst (v := 1) hx hb dX9_takeBack_13 (by decide) ?_
    refine lv_isub hx hb dX9_takeBack_14 ?_
    refine lv_topi (fun x_3 ex_3 => ?_)
    have hx_3 : rg 0 59 x_3 := by rw [ex_3]; exact rg_sub h_2 (rg_c (x := 1) (k := 1) (by decide)) (by decide) (by decide) (by decide) (by decide)
    refine va_put (D := D) (ci := 9) (v := .int x_3) (ty := .int) (C := RX9) (T := TX9) (N := 7) hx hb hts iX9 tyX9 tyX9_ok nmX9 hown hK hP hD hS 0 rfl rfl 0 (by decide) (hts _ m_85) (fun _ h9 => h9) rfl (tyX9_ok 0 (by decide)) rfl rfl (Nat.le_of_ble_eq_true rfl) dX9_takeBack_15 (fun H locs hP hD hS => ?_)
    have hP : va_P D classes [(a 54, .inr (9, [.int x_3, .int v54_1, .int v54_2, .ref (a 55), .ref (a 56), .ref (a 57), .ref (a 58)])), (a 55, .inl (t 0, 9, .inl f55)), (a 56, .inl (t 0, 60, .inl f56)), (a 57, .inl (t 0, 60, .inl f57)), (a 58, .inl (t 0, 540, .inl f58))] H := hP
    have hD : va_D A [(a 54, .inr (9, [.int x_3, .int v54_1, .int v54_2, .ref (a 55), .ref (a 56), .ref (a 57), .ref (a 58)])), (a 55, .inl (t 0, 9, .inl f55)), (a 56, .inl (t 0, 60, .inl f56)), (a 57, .inl (t 0, 60, .inl f57)), (a 58, .inl (t 0, 540, .inl f58))] := hD
    refine lv_aload_n hx hb dX9_takeBack_18 rfl (lv_at hl 0 rfl) ?_
    refine lv_aload_n hx hb dX9_takeBack_19 rfl (lv_at hl 0 rfl) ?_
    refine va_get (D := D) (ci := 9) (v := .int x_3) (C := RX9) (T := TX9) (N := 7) hx hb hts iX9 hown hK hP 0 rfl rfl 0 (by decide) (hts _ m_85) (fun _ h9 => h9) rfl dX9_takeBack_20 ?_
    refine lv_if_ne (tgt := 30) hx hb dX9_takeBack_23 (by decide) (fun c_4 => ?_) (fun c_4 => ?_)
    · skip
      have h_5 : rg 1 59 x_3 := rg_w (rg_neL hx_3 c_4 (by decide)) (by decide) (by decide)
      refine lv_aload_n hx hb dX9_takeBack_30 rfl (lv_at hl 0 rfl) ?_
      refine va_get (D := D) (ci := 9) (v := .ref (a 56)) (C := RX9) (T := TX9) (N := 7) hx hb hts iX9 hown hK hP 0 rfl rfl 4 (by decide) (hts _ m_98) (fun _ h9 => h9) rfl dX9_takeBack_31 ?_
      refine lv_aload_n hx hb dX9_takeBack_34 rfl (lv_at hl 0 rfl) ?_
      refine va_get (D := D) (ci := 9) (v := .int x_3) (C := RX9) (T := TX9) (N := 7) hx hb hts iX9 hown hK hP 0 rfl rfl 0 (by decide) (hts _ m_85) (fun _ h9 => h9) rfl dX9_takeBack_35 ?_
      refine lv_iconst (v := 1) hx hb dX9_takeBack_38 (by decide) ?_
      refine lv_isub hx hb dX9_takeBack_39 ?_
      refine lv_topi (fun x_6 ex_6 => ?_)
      have hx_6 : rg 0 58 x_6 := by rw [ex_6]; exact rg_sub h_5 (rg_c (x := 1) (k := 1) (by decide)) (by decide) (by decide) (by decide) (by decide)
      refine va_iald hx hb hK hP 2 0 rfl rfl (in_rg hx_6 (by decide) (by decide)) dX9_takeBack_40 ?_
      refine lv_topi (fun x_7 ex_7 => ?_)
      refine va_put (D := D) (ci := 9) (v := .int x_7) (ty := .int) (C := RX9) (T := TX9) (N := 7) hx hb hts iX9 tyX9 tyX9_ok nmX9 hown hK hP hD hS 0 rfl rfl 1 (by decide) (hts _ m_87) (fun _ h9 => h9) rfl (tyX9_ok 1 (by decide)) rfl rfl (Nat.le_of_ble_eq_true rfl) dX9_takeBack_41 (fun H locs hP hD hS => ?_)
      have hP : va_P D classes [(a 54, .inr (9, [.int x_3, .int x_7, .int v54_2, .ref (a 55), .ref (a 56), .ref (a 57), .ref (a 58)])), (a 55, .inl (t 0, 9, .inl f55)), (a 56, .inl (t 0, 60, .inl f56)), (a 57, .inl (t 0, 60, .inl f57)), (a 58, .inl (t 0, 540, .inl f58))] H := hP
      have hD : va_D A [(a 54, .inr (9, [.int x_3, .int x_7, .int v54_2, .ref (a 55), .ref (a 56), .ref (a 57), .ref (a 58)])), (a 55, .inl (t 0, 9, .inl f55)), (a 56, .inl (t 0, 60, .inl f56)), (a 57, .inl (t 0, 60, .inl f57)), (a 58, .inl (t 0, 540, .inl f58))] := hD
      refine lv_aload_n hx hb dX9_takeBack_44 rfl (lv_at hl 0 rfl) ?_
      refine lv_aload_n hx hb dX9_takeBack_45 rfl (lv_at hl 0 rfl) ?_
      refine va_get (D := D) (ci := 9) (v := .ref (a 57)) (C := RX9) (T := TX9) (N := 7) hx hb hts iX9 hown hK hP 0 rfl rfl 5 (by decide) (hts _ m_100) (fun _ h9 => h9) rfl dX9_takeBack_46 ?_
      refine lv_aload_n hx hb dX9_takeBack_49 rfl (lv_at hl 0 rfl) ?_
      refine va_get (D := D) (ci := 9) (v := .int x_3) (C := RX9) (T := TX9) (N := 7) hx hb hts iX9 hown hK hP 0 rfl rfl 0 (by decide) (hts _ m_85) (fun _ h9 => h9) rfl dX9_takeBack_50 ?_
      refine va_iald hx hb hK hP 3 0 rfl rfl (in_rg h_5 (by decide) (by decide)) dX9_takeBack_53 ?_
      refine lv_topi (fun x_8 ex_8 => ?_)
      refine va_put (D := D) (ci := 9) (v := .int x_8) (ty := .int) (C := RX9) (T := TX9) (N := 7) hx hb hts iX9 tyX9 tyX9_ok nmX9 hown hK hP hD hS 0 rfl rfl 2 (by decide) (hts _ m_91) (fun _ h9 => h9) rfl (tyX9_ok 2 (by decide)) rfl rfl (Nat.le_of_ble_eq_true rfl) dX9_takeBack_54 (fun H locs hP hD hS => ?_)
      have hP : va_P D classes [(a 54, .inr (9, [.int x_3, .int x_7, .int x_8, .ref (a 55), .ref (a 56), .ref (a 57), .ref (a 58)])), (a 55, .inl (t 0, 9, .inl f55)), (a 56, .inl (t 0, 60, .inl f56)), (a 57, .inl (t 0, 60, .inl f57)), (a 58, .inl (t 0, 540, .inl f58))] H := hP
      have hD : va_D A [(a 54, .inr (9, [.int x_3, .int x_7, .int x_8, .ref (a 55), .ref (a 56), .ref (a 57), .ref (a 58)])), (a 55, .inl (t 0, 9, .inl f55)), (a 56, .inl (t 0, 60, .inl f56)), (a 57, .inl (t 0, 60, .inl f57)), (a 58, .inl (t 0, 540, .inl f58))] := hD
      refine lv_aload_n hx hb dX9_takeBack_57 rfl (lv_at hl 0 rfl) ?_
      refine va_get (D := D) (ci := 9) (v := .ref (a 58)) (C := RX9) (T := TX9) (N := 7) hx hb hts iX9 hown hK hP 0 rfl rfl 6 (by decide) (hts _ m_101) (fun _ h9 => h9) rfl dX9_takeBack_58 ?_
      refine lv_aload_n hx hb dX9_takeBack_61 rfl (lv_at hl 0 rfl) ?_
      refine va_get (D := D) (ci := 9) (v := .int x_3) (C := RX9) (T := TX9) (N := 7) hx hb hts iX9 hown hK hP 0 rfl rfl 0 (by decide) (hts _ m_85) (fun _ h9 => h9) rfl dX9_takeBack_62 ?_
      refine lv_bipush (v := 9) hx hb dX9_takeBack_65 (by decide) ?_
      refine lv_imul hx hb dX9_takeBack_67 ?_
      refine lv_topi (fun x_9 ex_9 => ?_)
      have hx_9 : rg 0 531 x_9 := by rw [ex_9]; exact rg_mul (rg_w (c := 0) (d := 59) h_5 (by decide) (by decide)) (rg_w (c := 0) (d := 9) (rg_c (x := 9) (k := 9) (by decide)) (by decide) (by decide)) (by decide) (by decide)
      refine lv_aload_n hx hb dX9_takeBack_68 rfl (lv_at hl 0 rfl) ?_
      refine va_get (D := D) (ci := 9) (v := .ref (a 55)) (C := RX9) (T := TX9) (N := 7) hx hb hts iX9 hown hK hP 0 rfl rfl 3 (by decide) (hts _ m_96) (fun _ h9 => h9) rfl dX9_takeBack_69 ?_
      refine lv_iconst (v := 0) hx hb dX9_takeBack_72 (by decide) ?_
      refine lv_bipush (v := 9) hx hb dX9_takeBack_73 (by decide) ?_
      refine y_copyi hx hb (by rw [hml]; exact hl.1.symm) hown (hts _ m_693) (hts _ m_683) (hts _ m_682) (hts _ m_20) hK hP hD hS 4 1 0 0 rfl rfl rfl rfl hx_9 (rg_c (x := 0) (k := 0) (by decide)) (rg_c (x := 9) (k := 9) (by decide)) (by decide) (by decide) (by decide) (by decide) (by decide) (q_any f58 540) (q_any f55 9) (Nat.le_of_ble_eq_true rfl) (by decide) dX9_takeBack_75 (fun g_10 H locs hg_10 hP hD hS => ?_)
      have hP : va_P D classes [(a 54, .inr (9, [.int x_3, .int x_7, .int x_8, .ref (a 55), .ref (a 56), .ref (a 57), .ref (a 58)])), (a 55, .inl (t 0, 9, .inl g_10)), (a 56, .inl (t 0, 60, .inl f56)), (a 57, .inl (t 0, 60, .inl f57)), (a 58, .inl (t 0, 540, .inl f58))] H := hP
      have hD : va_D A [(a 54, .inr (9, [.int x_3, .int x_7, .int x_8, .ref (a 55), .ref (a 56), .ref (a 57), .ref (a 58)])), (a 55, .inl (t 0, 9, .inl g_10)), (a 56, .inl (t 0, 60, .inl f56)), (a 57, .inl (t 0, 60, .inl f57)), (a 58, .inl (t 0, 540, .inl f58))] := hD
      have hP9 := hP.sub (ws' := [(a 54, .inr (9, [.int x_3, .int x_7, .int x_8, .ref (a 55), .ref (a 56), .ref (a 57), .ref (a 58)])), (a 55, .inl (t 0, 9, .inl g_10)), (a 56, .inl (t 0, 60, .inl f56)), (a 57, .inl (t 0, 60, .inl f57)), (a 58, .inl (t 0, 540, .inl f58))]) [0, 1, 2, 3, 4] rfl
      have hD9 := hD.sub (ws' := [(a 54, .inr (9, [.int x_3, .int x_7, .int x_8, .ref (a 55), .ref (a 56), .ref (a 57), .ref (a 58)])), (a 55, .inl (t 0, 9, .inl g_10)), (a 56, .inl (t 0, 60, .inl f56)), (a 57, .inl (t 0, 60, .inl f57)), (a 58, .inl (t 0, 540, .inl f58))]) [0, 1, 2, 3, 4] (by decide) rfl
      exact W.vret hx hb hr (fun t9 ht hW => ⟨⟨(fun k => [x_3, x_7, x_8].getD k 0, fun k => [g_10].getD k (fun _ => 0), fun k => [].getD k (fun _ => 0), fun _ => 0), rfl, (rg_w (c := 0) (d := 60) h_5 (by decide) (by decide)), by rw [ht]; exact hP9, hD9⟩, hS.F ht⟩) hS.2.2 dX9_takeBack_78
    · skip
      have h_11 : rg 0 0 x_3 := rg_eq c_4 (rg_c (x := 0) (k := 0) (by decide))
      refine lv_iconst (v := 0) hx hb dX9_takeBack_26 (by decide) ?_
      refine lv_goto (tgt := 41) hx hb dX9_takeBack_27 (by decide) ?_
      refine va_put (D := D) (ci := 9) (v := .int 0) (ty := .int) (C := RX9) (T := TX9) (N := 7) hx hb hts iX9 tyX9 tyX9_ok nmX9 hown hK hP hD hS 0 rfl rfl 1 (by decide) (hts _ m_87) (fun _ h9 => h9) rfl (tyX9_ok 1 (by decide)) rfl rfl (Nat.le_of_ble_eq_true rfl) dX9_takeBack_41 (fun H locs hP hD hS => ?_)
      have hP : va_P D classes [(a 54, .inr (9, [.int x_3, .int 0, .int v54_2, .ref (a 55), .ref (a 56), .ref (a 57), .ref (a 58)])), (a 55, .inl (t 0, 9, .inl f55)), (a 56, .inl (t 0, 60, .inl f56)), (a 57, .inl (t 0, 60, .inl f57)), (a 58, .inl (t 0, 540, .inl f58))] H := hP
      have hD : va_D A [(a 54, .inr (9, [.int x_3, .int 0, .int v54_2, .ref (a 55), .ref (a 56), .ref (a 57), .ref (a 58)])), (a 55, .inl (t 0, 9, .inl f55)), (a 56, .inl (t 0, 60, .inl f56)), (a 57, .inl (t 0, 60, .inl f57)), (a 58, .inl (t 0, 540, .inl f58))] := hD
      refine lv_aload_n hx hb dX9_takeBack_44 rfl (lv_at hl 0 rfl) ?_
      refine lv_aload_n hx hb dX9_takeBack_45 rfl (lv_at hl 0 rfl) ?_
      refine va_get (D := D) (ci := 9) (v := .ref (a 57)) (C := RX9) (T := TX9) (N := 7) hx hb hts iX9 hown hK hP 0 rfl rfl 5 (by decide) (hts _ m_100) (fun _ h9 => h9) rfl dX9_takeBack_46 ?_
      refine lv_aload_n hx hb dX9_takeBack_49 rfl (lv_at hl 0 rfl) ?_
      refine va_get (D := D) (ci := 9) (v := .int x_3) (C := RX9) (T := TX9) (N := 7) hx hb hts iX9 hown hK hP 0 rfl rfl 0 (by decide) (hts _ m_85) (fun _ h9 => h9) rfl dX9_takeBack_50 ?_
      refine va_iald hx hb hK hP 3 0 rfl rfl (in_rg h_11 (by decide) (by decide)) dX9_takeBack_53 ?_
      refine lv_topi (fun x_12 ex_12 => ?_)
      refine va_put (D := D) (ci := 9) (v := .int x_12) (ty := .int) (C := RX9) (T := TX9) (N := 7) hx hb hts iX9 tyX9 tyX9_ok nmX9 hown hK hP hD hS 0 rfl rfl 2 (by decide) (hts _ m_91) (fun _ h9 => h9) rfl (tyX9_ok 2 (by decide)) rfl rfl (Nat.le_of_ble_eq_true rfl) dX9_takeBack_54 (fun H locs hP hD hS => ?_)
      have hP : va_P D classes [(a 54, .inr (9, [.int x_3, .int 0, .int x_12, .ref (a 55), .ref (a 56), .ref (a 57), .ref (a 58)])), (a 55, .inl (t 0, 9, .inl f55)), (a 56, .inl (t 0, 60, .inl f56)), (a 57, .inl (t 0, 60, .inl f57)), (a 58, .inl (t 0, 540, .inl f58))] H := hP
      have hD : va_D A [(a 54, .inr (9, [.int x_3, .int 0, .int x_12, .ref (a 55), .ref (a 56), .ref (a 57), .ref (a 58)])), (a 55, .inl (t 0, 9, .inl f55)), (a 56, .inl (t 0, 60, .inl f56)), (a 57, .inl (t 0, 60, .inl f57)), (a 58, .inl (t 0, 540, .inl f58))] := hD
      refine lv_aload_n hx hb dX9_takeBack_57 rfl (lv_at hl 0 rfl) ?_
      refine va_get (D := D) (ci := 9) (v := .ref (a 58)) (C := RX9) (T := TX9) (N := 7) hx hb hts iX9 hown hK hP 0 rfl rfl 6 (by decide) (hts _ m_101) (fun _ h9 => h9) rfl dX9_takeBack_58 ?_
      refine lv_aload_n hx hb dX9_takeBack_61 rfl (lv_at hl 0 rfl) ?_
      refine va_get (D := D) (ci := 9) (v := .int x_3) (C := RX9) (T := TX9) (N := 7) hx hb hts iX9 hown hK hP 0 rfl rfl 0 (by decide) (hts _ m_85) (fun _ h9 => h9) rfl dX9_takeBack_62 ?_
      refine lv_bipush (v := 9) hx hb dX9_takeBack_65 (by decide) ?_
      refine lv_imul hx hb dX9_takeBack_67 ?_
      refine lv_topi (fun x_13 ex_13 => ?_)
      have hx_13 : rg 0 0 x_13 := by rw [ex_13]; exact rg_mul h_11 (rg_w (c := 0) (d := 9) (rg_c (x := 9) (k := 9) (by decide)) (by decide) (by decide)) (by decide) (by decide)
      refine lv_aload_n hx hb dX9_takeBack_68 rfl (lv_at hl 0 rfl) ?_
      refine va_get (D := D) (ci := 9) (v := .ref (a 55)) (C := RX9) (T := TX9) (N := 7) hx hb hts iX9 hown hK hP 0 rfl rfl 3 (by decide) (hts _ m_96) (fun _ h9 => h9) rfl dX9_takeBack_69 ?_
      refine lv_iconst (v := 0) hx hb dX9_takeBack_72 (by decide) ?_
      refine lv_bipush (v := 9) hx hb dX9_takeBack_73 (by decide) ?_
      refine y_copyi hx hb (by rw [hml]; exact hl.1.symm) hown (hts _ m_693) (hts _ m_683) (hts _ m_682) (hts _ m_20) hK hP hD hS 4 1 0 0 rfl rfl rfl rfl hx_13 (rg_c (x := 0) (k := 0) (by decide)) (rg_c (x := 9) (k := 9) (by decide)) (by decide) (by decide) (by decide) (by decide) (by decide) (q_any f58 540) (q_any f55 9) (Nat.le_of_ble_eq_true rfl) (by decide) dX9_takeBack_75 (fun g_14 H locs hg_14 hP hD hS => ?_)
      have hP : va_P D classes [(a 54, .inr (9, [.int x_3, .int 0, .int x_12, .ref (a 55), .ref (a 56), .ref (a 57), .ref (a 58)])), (a 55, .inl (t 0, 9, .inl g_14)), (a 56, .inl (t 0, 60, .inl f56)), (a 57, .inl (t 0, 60, .inl f57)), (a 58, .inl (t 0, 540, .inl f58))] H := hP
      have hD : va_D A [(a 54, .inr (9, [.int x_3, .int 0, .int x_12, .ref (a 55), .ref (a 56), .ref (a 57), .ref (a 58)])), (a 55, .inl (t 0, 9, .inl g_14)), (a 56, .inl (t 0, 60, .inl f56)), (a 57, .inl (t 0, 60, .inl f57)), (a 58, .inl (t 0, 540, .inl f58))] := hD
      have hP9 := hP.sub (ws' := [(a 54, .inr (9, [.int x_3, .int 0, .int x_12, .ref (a 55), .ref (a 56), .ref (a 57), .ref (a 58)])), (a 55, .inl (t 0, 9, .inl g_14)), (a 56, .inl (t 0, 60, .inl f56)), (a 57, .inl (t 0, 60, .inl f57)), (a 58, .inl (t 0, 540, .inl f58))]) [0, 1, 2, 3, 4] rfl
      have hD9 := hD.sub (ws' := [(a 54, .inr (9, [.int x_3, .int 0, .int x_12, .ref (a 55), .ref (a 56), .ref (a 57), .ref (a 58)])), (a 55, .inl (t 0, 9, .inl g_14)), (a 56, .inl (t 0, 60, .inl f56)), (a 57, .inl (t 0, 60, .inl f57)), (a 58, .inl (t 0, 540, .inl f58))]) [0, 1, 2, 3, 4] (by decide) rfl
      exact W.vret hx hb hr (fun t9 ht hW => ⟨⟨(fun k => [x_3, 0, x_12].getD k 0, fun k => [g_14].getD k (fun _ => 0), fun k => [].getD k (fun _ => 0), fun _ => 0), rfl, (rg_w (c := 0) (d := 60) h_11 (by decide) (by decide)), by rw [ht]; exact hP9, hD9⟩, hS.F ht⟩) hS.2.2 dX9_takeBack_78
  · skip
    have h_15 : rg 0 0 v54_0 := rg_eq c_1 (rg_c (x := 0) (k := 0) (by decide))
    have hP9 := hP.sub (ws' := [(a 54, .inr (9, [.int v54_0, .int v54_1, .int v54_2, .ref (a 55), .ref (a 56), .ref (a 57), .ref (a 58)])), (a 55, .inl (t 0, 9, .inl f55)), (a 56, .inl (t 0, 60, .inl f56)), (a 57, .inl (t 0, 60, .inl f57)), (a 58, .inl (t 0, 540, .inl f58))]) [0, 1, 2, 3, 4] rfl
    have hD9 := hD.sub (ws' := [(a 54, .inr (9, [.int v54_0, .int v54_1, .int v54_2, .ref (a 55), .ref (a 56), .ref (a 57), .ref (a 58)])), (a 55, .inl (t 0, 9, .inl f55)), (a 56, .inl (t 0, 60, .inl f56)), (a 57, .inl (t 0, 60, .inl f57)), (a 58, .inl (t 0, 540, .inl f58))]) [0, 1, 2, 3, 4] (by decide) rfl
    exact W.vret hx hb hr (fun t9 ht hW => ⟨⟨(fun k => [v54_0, v54_1, v54_2].getD k 0, fun k => [f55].getD k (fun _ => 0), fun k => [].getD k (fun _ => 0), fun _ => 0), rfl, (rg_w (c := 0) (d := 60) h_15 (by decide) (by decide)), by rw [ht]; exact hP9, hD9⟩, hS.F ht⟩) hS.2.2 dX9_takeBack_7

set_option maxHeartbeats 4000000 in
set_option maxRecDepth 100000 in
theorem s_X9_firstDeath_54 (l : Launch) (D : va_G) (t : Nat → ClassId) (a : Nat → Nat) (v54_0 : Int32) (v54_1 : Int32) (v54_2 : Int32) (f55 : Nat → Int32) (p0 : Int32) (p1 : Int32) (p2 : Int32) (r54_0 : rg 0 60 v54_0) (rp1 : rg 0 9 p1) : Met l yX9_firstDeath (wd yX9_firstDeath cX9_firstDeath 7 (some .int)) (RM 1 0 0) (PreP D (TY t) [.ref (a 54), .int p0, .int p1, .int p2] [(a 54, .inr (9, [.int v54_0, .int v54_1, .int v54_2, .ref (a 55), .ref (a 56), .ref (a 57), .ref (a 58)])), (a 55, .inl (t 0, 9, .inl f55))]) (QP (fun r => rg (-1) 2147483647 r)) 0 0 NoF := by
  refine Met.ofW (cc := cX9_firstDeath) (maxL := 7) (ret := (some .int)) (by decide) rfl ?_
  intro p e s m args below meth c s₁ B hml hv
  obtain ⟨rfl, hP, hK, hN⟩ := hv
  have hx := B.exec
  have hb := B.bytes
  have hr := B.returns
  have hts : ∀ w ∈ TB, w.before _ s = true := fun w h => atoms_spec (ws := wd yX9_firstDeath cX9_firstDeath 7 (some .int)) B.pre w (List.mem_cons_of_mem _ h)
  have hown : s.vm.findClass RX9 = some m.cls := findClass_of_methodNamed B.named
  have hlocks := B.notSynchronized
  have hF : CallFix p m c cX9_firstDeath 7 s _ TB RX9 := ⟨hx, hb, hml, hown, hts⟩
  have hl := lv_entry ([.ref (a 54), .int p0, .int p1, .int p2]) (n := 7) (Nat.le_of_ble_eq_true rfl)
  rw [lg_entry_eq]
  generalize (lg_sl ([.ref (a 54), .int p0, .int p1, .int p2]) ++ List.replicate (7 - (lg_sl ([.ref (a 54), .int p0, .int p1, .int p2])).length) Slot.unset).toArray = ls at hl ⊢
  have hl : lv_has ls 7 [(0, .ref (a 54)), (1, .int p0), (2, .int p1), (3, .int p2)] := hl
  have hS : va_S NoF s.heap s.heap [] := va_S.rf
  have hP : va_P D classes [(a 54, .inr (9, [.int v54_0, .int v54_1, .int v54_2, .ref (a 55), .ref (a 56), .ref (a 57), .ref (a 58)])), (a 55, .inl (t 0, 9, .inl f55))] s.heap := hP
  refine lv_iconst (v := (-1)) hx hb dX9_firstDeath_0 (by decide) ?_
  refine lv_istore (lv' := [(4, .int (-1)), (0, .ref (a 54)), (1, .int p0), (2, .int p1), (3, .int p2)]) hx hb dX9_firstDeath_1 hl (by decide) rfl (fun ls hl => ?_)
  refine lv_iconst (v := 0) hx hb dX9_firstDeath_3 (by decide) ?_
  refine lv_istore (lv' := [(5, .int 0), (4, .int (-1)), (0, .ref (a 54)), (1, .int p0), (2, .int p1), (3, .int p2)]) hx hb dX9_firstDeath_4 hl (by decide) rfl (fun ls hl => ?_)
  refine loopW (α := US) (fun n y_1 H locs ls => 9 < (y_1.1 0).toInt + (n : Int) ∧ rg 0 9 (y_1.1 0) ∧ rg (-1) 2147483647 (y_1.1 1) ∧ va_P D classes [(a 54, .inr (9, [.int v54_0, .int v54_1, .int v54_2, .ref (a 55), .ref (a 56), .ref (a 57), .ref (a 58)])), (a 55, .inl (t 0, 9, .inl f55))] H ∧ va_S NoF s.heap H locs ∧ lv_has ls 7 [(5, .int (y_1.1 0)), (4, .int (y_1.1 1)), (0, .ref (a 54)), (1, .int p0), (2, .int p1), (3, .int p2)]) 6 (fun y_1 => []) (fun _ _ _ _ h9 => m_0 h9.1 h9.2.1) (fun n ih_4 y_1 H locs ls hI => ?_) 10 (fun k => [0, (-1)].getD k 0, fun k => [].getD k (fun _ => 0), fun k => [].getD k (fun _ => 0), fun k => [].getD k 0) ⟨(m_i (rg_c (x := 0) (k := 0) (by decide)) (by decide)), (rg_w (c := 0) (d := 9) (rg_c (x := 0) (k := 0) (by decide)) (by decide) (by decide)), (rg_w (c := (-1)) (d := 2147483647) (rg_c (x := (-1)) (k := (-1)) (by decide)) (by decide) (by decide)), hP, hS, (lv_sub hl [0, 1, 2, 3, 4, 5] rfl)⟩
  obtain ⟨me_5, h_2, h_3, hP, hS, hl⟩ := hI
  refine lv_iload hx hb dX9_firstDeath_6 (lv_at hl 0 rfl) ?_
  refine lv_iload_n hx hb dX9_firstDeath_8 rfl (lv_at hl 4 rfl) ?_
  refine lv_icmp_ge (tgt := 67) hx hb dX9_firstDeath_9 (by decide) (fun c_6 => ?_) (fun c_6 => ?_)
  · skip
    refine lv_iload hx hb dX9_firstDeath_67 (lv_at hl 1 rfl) ?_
    exact W.iret (v := (y_1.1 1)) hx hb hr (fun t9 ht hW => ⟨⟨(y_1.1 1), (), rfl, h_3, trivial⟩, hS.F ht⟩) hS.2.2 dX9_firstDeath_69
  · skip
    have h_7 : rg 0 8 (y_1.1 0) := ⟨(h_2).1, Int.le_trans (c_nleR c_6 rp1) (by decide)⟩
    have h_8 : rg 1 9 p1 := ⟨Int.le_trans (by decide) (c_nle c_6 h_2), (rp1).2⟩
    refine lv_iload_n hx hb dX9_firstDeath_12 rfl (lv_at hl 3 rfl) ?_
    refine lv_aload_n hx hb dX9_firstDeath_13 rfl (lv_at hl 2 rfl) ?_
    refine va_get (D := D) (ci := 9) (v := .int v54_2) (C := RX9) (T := TX9) (N := 7) hx hb hts iX9 hown hK hP 0 rfl rfl 2 (by decide) (hts _ m_91) (fun _ h9 => h9) rfl dX9_firstDeath_14 ?_
    refine lv_ior hx hb dX9_firstDeath_17 ?_
    refine lv_topi (fun x_9 ex_9 => ?_)
    refine lv_iload hx hb dX9_firstDeath_18 (lv_at hl 0 rfl) ?_
    refine y_pSN hF (s_X11_holds l D t a x_9 (y_1.1 0)) n_938 m_707 m_1 m_708 hd_X11_holds ⟨Nat.le_of_ble_eq_true rfl, Nat.le_of_ble_eq_true rfl⟩ hK hN hP hS [] rfl hl.1 rfl (Nat.le_of_ble_eq_true rfl) dX9_firstDeath_20 ⟨Nat.zero_le _, Nat.zero_le _⟩ (fun r_10 H locs hr_10 hP hS => ?_)
    refine lv_if_ne (tgt := 61) hx hb dX9_firstDeath_23 (by decide) (fun c_11 => ?_) (fun c_11 => ?_)
    · skip
      have h_12 : rg 1 1 r_10 := rg_w (rg_neL hr_10 c_11 (by decide)) (by decide) (by decide)
      obtain ⟨x_13, ex_13⟩ : ∃ y9 : Int32, y9 = (y_1.1 0) + 1 := ⟨_, rfl⟩
      have hx_13 : rg 1 9 x_13 := by rw [ex_13]; exact rg_add h_7 (rg_c (x := 1) (k := 1) (by decide)) (by decide) (by decide) (by decide) (by decide)
      have tx_13 : x_13.toInt = (y_1.1 0).toInt + 1 := by rw [ex_13]; exact inc_tk h_7 (by decide) (by decide) (by decide)
      refine lv_iinc (v := x_13) (lv' := [(5, .int x_13), (4, .int (y_1.1 1)), (0, .ref (a 54)), (1, .int p0), (2, .int p1), (3, .int p2)]) hx hb dX9_firstDeath_61 hl (k := 0) rfl (by rw [ex_13]; rfl) (by decide) rfl (fun ls hl => ?_)
      refine lv_goto (tgt := 6) hx hb dX9_firstDeath_64 (by decide) ?_
      exact ih_4 (fun k => [x_13, (y_1.1 1)].getD k 0, fun k => [].getD k (fun _ => 0), fun k => [].getD k (fun _ => 0), fun k => [].getD k 0) _ _ ls ⟨(m_upk me_5 tx_13 (by decide)), (rg_w (c := 0) (d := 9) hx_13 (by decide) (by decide)), h_3, hP, hS, (lv_sub hl [0, 1, 2, 3, 4, 5] rfl)⟩
    · skip
      have h_14 : rg 0 0 r_10 := rg_eq c_11 (rg_c (x := 0) (k := 0) (by decide))
      refine lv_iconst (v := 1) hx hb dX9_firstDeath_26 (by decide) ?_
      refine lv_iload_n hx hb dX9_firstDeath_27 rfl (lv_at hl 5 rfl) ?_
      refine lv_aload_n hx hb dX9_firstDeath_28 rfl (lv_at hl 2 rfl) ?_
      refine va_get (D := D) (ci := 9) (v := .ref (a 55)) (C := RX9) (T := TX9) (N := 7) hx hb hts iX9 hown hK hP 0 rfl rfl 3 (by decide) (hts _ m_96) (fun _ h9 => h9) rfl dX9_firstDeath_29 ?_
      refine lv_iload hx hb dX9_firstDeath_32 (lv_at hl 0 rfl) ?_
      refine va_iald hx hb hK hP 1 0 rfl rfl (in_rg h_7 (by decide) (by decide)) dX9_firstDeath_34 ?_
      refine lv_topi (fun x_15 ex_15 => ?_)
      refine lv_isub hx hb dX9_firstDeath_35 ?_
      refine lv_topi (fun x_16 ex_16 => ?_)
      refine va_mmax hx hb (by rw [hml]; exact hl.1.symm) hown (hts _ m_960) (hts _ m_961) (hts _ m_15) (hts _ m_962) (Nat.le_of_ble_eq_true rfl) (Nat.le_of_ble_eq_true rfl) (Nat.zero_le _) (Nat.zero_le _) dX9_firstDeath_36 ?_
      refine lv_topi (fun x_17 ex_17 => ?_)
      have hx_17 : rg 1 2147483647 x_17 := by rw [ex_17]; exact rg_max (rg_c (x := 1) (k := 1) (by decide)) (rg_any x_16) (by decide) (by decide) (by decide)
      refine lv_istore (lv' := [(6, .int x_17), (5, .int (y_1.1 0)), (4, .int (y_1.1 1)), (0, .ref (a 54)), (1, .int p0), (2, .int p1), (3, .int p2)]) hx hb dX9_firstDeath_39 hl (by decide) rfl (fun ls hl => ?_)
      refine lv_iload hx hb dX9_firstDeath_41 (lv_at hl 2 rfl) ?_
      refine lv_iconst (v := (-1)) hx hb dX9_firstDeath_43 (by decide) ?_
      refine lv_icmp_ne (tgt := 52) hx hb dX9_firstDeath_44 (by decide) (fun c_18 => ?_) (fun c_18 => ?_)
      · skip
        have h_19 : rg 0 2147483647 (y_1.1 1) := rg_w (rg_neL h_3 c_18 (by decide)) (by decide) (by decide)
        refine lv_iload hx hb dX9_firstDeath_52 (lv_at hl 2 rfl) ?_
        refine lv_iload hx hb dX9_firstDeath_54 (lv_at hl 0 rfl) ?_
        refine va_mmin hx hb (by rw [hml]; exact hl.1.symm) hown (hts _ m_963) (hts _ m_527) (hts _ m_15) (hts _ m_528) (Nat.le_of_ble_eq_true rfl) (Nat.le_of_ble_eq_true rfl) (Nat.zero_le _) (Nat.zero_le _) dX9_firstDeath_56 ?_
        refine lv_topi (fun x_20 ex_20 => ?_)
        have hx_20 : rg 0 2147483647 x_20 := by rw [ex_20]; exact rg_min h_19 hx_17 (by decide) (by decide) (by decide)
        refine lv_istore (lv' := [(4, .int x_20), (6, .int x_17), (5, .int (y_1.1 0)), (0, .ref (a 54)), (1, .int p0), (2, .int p1), (3, .int p2)]) hx hb dX9_firstDeath_59 hl (by decide) rfl (fun ls hl => ?_)
        obtain ⟨x_21, ex_21⟩ : ∃ y9 : Int32, y9 = (y_1.1 0) + 1 := ⟨_, rfl⟩
        have hx_21 : rg 1 9 x_21 := by rw [ex_21]; exact rg_add h_7 (rg_c (x := 1) (k := 1) (by decide)) (by decide) (by decide) (by decide) (by decide)
        have tx_21 : x_21.toInt = (y_1.1 0).toInt + 1 := by rw [ex_21]; exact inc_tk h_7 (by decide) (by decide) (by decide)
        refine lv_iinc (v := x_21) (lv' := [(5, .int x_21), (4, .int x_20), (6, .int x_17), (0, .ref (a 54)), (1, .int p0), (2, .int p1), (3, .int p2)]) hx hb dX9_firstDeath_61 hl (k := 2) rfl (by rw [ex_21]; rfl) (by decide) rfl (fun ls hl => ?_)
        refine lv_goto (tgt := 6) hx hb dX9_firstDeath_64 (by decide) ?_
        exact ih_4 (fun k => [x_21, x_20].getD k 0, fun k => [].getD k (fun _ => 0), fun k => [].getD k (fun _ => 0), fun k => [].getD k 0) _ _ ls ⟨(m_upk me_5 tx_21 (by decide)), (rg_w (c := 0) (d := 9) hx_21 (by decide) (by decide)), (rg_w (c := (-1)) (d := 2147483647) hx_20 (by decide) (by decide)), hP, hS, (lv_sub hl [0, 1, 3, 4, 5, 6] rfl)⟩
      · skip
        have h_22 : rg (-1) (-1) (y_1.1 1) := rg_eq c_18 (rg_c (x := (-1)) (k := (-1)) (by decide))
        refine lv_iload hx hb dX9_firstDeath_47 (lv_at hl 0 rfl) ?_
        refine lv_goto (tgt := 59) hx hb dX9_firstDeath_49 (by decide) ?_
        refine lv_istore (lv' := [(4, .int x_17), (6, .int x_17), (5, .int (y_1.1 0)), (0, .ref (a 54)), (1, .int p0), (2, .int p1), (3, .int p2)]) hx hb dX9_firstDeath_59 hl (by decide) rfl (fun ls hl => ?_)
        obtain ⟨x_23, ex_23⟩ : ∃ y9 : Int32, y9 = (y_1.1 0) + 1 := ⟨_, rfl⟩
        have hx_23 : rg 1 9 x_23 := by rw [ex_23]; exact rg_add h_7 (rg_c (x := 1) (k := 1) (by decide)) (by decide) (by decide) (by decide) (by decide)
        have tx_23 : x_23.toInt = (y_1.1 0).toInt + 1 := by rw [ex_23]; exact inc_tk h_7 (by decide) (by decide) (by decide)
        refine lv_iinc (v := x_23) (lv' := [(5, .int x_23), (4, .int x_17), (6, .int x_17), (0, .ref (a 54)), (1, .int p0), (2, .int p1), (3, .int p2)]) hx hb dX9_firstDeath_61 hl (k := 2) rfl (by rw [ex_23]; rfl) (by decide) rfl (fun ls hl => ?_)
        refine lv_goto (tgt := 6) hx hb dX9_firstDeath_64 (by decide) ?_
        exact ih_4 (fun k => [x_23, x_17].getD k 0, fun k => [].getD k (fun _ => 0), fun k => [].getD k (fun _ => 0), fun k => [].getD k 0) _ _ ls ⟨(m_upk me_5 tx_23 (by decide)), (rg_w (c := 0) (d := 9) hx_23 (by decide) (by decide)), (rg_w (c := (-1)) (d := 2147483647) hx_17 (by decide) (by decide)), hP, hS, (lv_sub hl [0, 1, 3, 4, 5, 6] rfl)⟩

set_option maxHeartbeats 4000000 in
set_option maxRecDepth 100000 in
theorem s_X8_hasRoom (l : Launch) (D : va_G) (t : Nat → ClassId) (a : Nat → Nat) (v1_1 : Int32) (r1_1 : rg 0 1600 v1_1) : Met l yX8_hasRoom (wd yX8_hasRoom cX8_hasRoom 1 (some .boolean)) (RM 0 0 0) (PreP D (TY t) [.ref (a 1)] [(a 1, .inr (8, [.ref (a 2), .int v1_1]))]) (QP (fun r => rg 0 1 r)) 0 0 NoF := by
  refine Met.ofW (cc := cX8_hasRoom) (maxL := 1) (ret := (some .boolean)) (by decide) rfl ?_
  intro p e s m args below meth c s₁ B hml hv
  obtain ⟨rfl, hP, hK, hN⟩ := hv
  have hx := B.exec
  have hb := B.bytes
  have hr := B.returns
  have hts : ∀ w ∈ TB, w.before _ s = true := fun w h => atoms_spec (ws := wd yX8_hasRoom cX8_hasRoom 1 (some .boolean)) B.pre w (List.mem_cons_of_mem _ h)
  have hown : s.vm.findClass RX8 = some m.cls := findClass_of_methodNamed B.named
  have hlocks := B.notSynchronized
  have hF : CallFix p m c cX8_hasRoom 1 s _ TB RX8 := ⟨hx, hb, hml, hown, hts⟩
  have hl := lv_entry ([.ref (a 1)]) (n := 1) (Nat.le_of_ble_eq_true rfl)
  rw [lg_entry_eq]
  generalize (lg_sl ([.ref (a 1)]) ++ List.replicate (1 - (lg_sl ([.ref (a 1)])).length) Slot.unset).toArray = ls at hl ⊢
  have hl : lv_has ls 1 [(0, .ref (a 1))] := hl
  have hS : va_S NoF s.heap s.heap [] := va_S.rf
  have hP : va_P D classes [(a 1, .inr (8, [.ref (a 2), .int v1_1]))] s.heap := hP
  refine lv_aload_n hx hb dX8_hasRoom_0 rfl (lv_at hl 0 rfl) ?_
  refine va_get (D := D) (ci := 8) (v := .int v1_1) (C := RX8) (T := TX8) (N := 2) hx hb hts iX8 hown hK hP 0 rfl rfl 1 (by decide) (hts _ m_37) (fun _ h9 => h9) rfl dX8_hasRoom_1 ?_
  refine lv_bipush (v := 20) hx hb dX8_hasRoom_4 (by decide) ?_
  refine lv_iadd hx hb dX8_hasRoom_6 ?_
  refine lv_topi (fun x_1 ex_1 => ?_)
  have hx_1 : rg 20 1620 x_1 := by rw [ex_1]; exact rg_add r1_1 (rg_c (x := 20) (k := 20) (by decide)) (by decide) (by decide) (by decide) (by decide)
  refine lv_sipush (v := 1600) hx hb dX8_hasRoom_7 (by decide) ?_
  refine lv_icmp_gt (tgt := 17) hx hb dX8_hasRoom_10 (by decide) (fun c_2 => ?_) (fun c_2 => ?_)
  · skip
    have h_3 : rg 1601 1620 x_1 := ⟨Int.le_trans (by decide) (c_ltR c_2 (rg_c (x := 1600) (k := 1600) (by decide))), (hx_1).2⟩
    refine lv_iconst (v := 0) hx hb dX8_hasRoom_17 (by decide) ?_
    exact W.zret (v := 0) hx hb hr rfl (fun t9 ht hW => ⟨⟨0, (), rfl, (rg_w (c := 0) (d := 1) (rg_c (x := 0) (k := 0) (by decide)) (by decide) (by decide)), trivial⟩, hS.F ht⟩) hS.2.2 dX8_hasRoom_18
  · skip
    have h_4 : rg 20 1600 x_1 := ⟨(hx_1).1, Int.le_trans (c_nltR c_2 (rg_c (x := 1600) (k := 1600) (by decide))) (by decide)⟩
    refine lv_iconst (v := 1) hx hb dX8_hasRoom_13 (by decide) ?_
    refine lv_goto (tgt := 18) hx hb dX8_hasRoom_14 (by decide) ?_
    exact W.zret (v := 1) hx hb hr rfl (fun t9 ht hW => ⟨⟨1, (), rfl, (rg_w (c := 0) (d := 1) (rg_c (x := 1) (k := 1) (by decide)) (by decide) (by decide)), trivial⟩, hS.F ht⟩) hS.2.2 dX8_hasRoom_18

set_option maxHeartbeats 4000000 in
set_option maxRecDepth 100000 in
theorem s_X8_add (l : Launch) (D : va_G) (t : Nat → ClassId) (a : Nat → Nat) (v1_1 : Int32) (f2 : Nat → Int32) (p0 : Int32) (r1_1 : rg 0 1600 v1_1) (sz : Nat) : Met l yX8_add (wd yX8_add cX8_add 3 none) (RM 0 0 0) (PreW D (TY t) [.ref (a 1), .int p0] [(a 1, .inr (8, [.ref (a 2), .int v1_1])), (a 2, .inl (t 1, 1600, .inl f2))] sz) (va_Qv (fun (u : US) => rg 0 1600 (u.1 0)) (fun (u : US) t9 => va_P D classes ((fun u : US => [(a 1, .inr (8, [.ref (a 2), .int (u.1 0)])), (a 2, .inl (t 1, 1600, .inl (u.2.1 0)))]) u) t9.heap ∧ va_D (va_A [(a 1, .inr (8, [.ref (a 2), .int v1_1])), (a 2, .inl (t 1, 1600, .inl f2))] sz) ((fun u : US => [(a 1, .inr (8, [.ref (a 2), .int (u.1 0)])), (a 2, .inl (t 1, 1600, .inl (u.2.1 0)))]) u)) (va_A [(a 1, .inr (8, [.ref (a 2), .int v1_1])), (a 2, .inl (t 1, 1600, .inl f2))] sz)) 0 0 (va_A [(a 1, .inr (8, [.ref (a 2), .int v1_1])), (a 2, .inl (t 1, 1600, .inl f2))] sz) := by
  refine Met.ofW (cc := cX8_add) (maxL := 3) (ret := none) (by decide) rfl ?_
  intro p e s m args below meth c s₁ B hml hv
  obtain ⟨rfl, hsz, hP, hK, hD0, hN⟩ := hv
  have hx := B.exec
  have hb := B.bytes
  have hr := B.returns
  have hts : ∀ w ∈ TB, w.before _ s = true := fun w h => atoms_spec (ws := wd yX8_add cX8_add 3 none) B.pre w (List.mem_cons_of_mem _ h)
  have hown : s.vm.findClass RX8 = some m.cls := findClass_of_methodNamed B.named
  have hlocks := B.notSynchronized
  have hF : CallFix p m c cX8_add 3 s _ TB RX8 := ⟨hx, hb, hml, hown, hts⟩
  have hl := lv_entry ([.ref (a 1), .int p0]) (n := 3) (Nat.le_of_ble_eq_true rfl)
  rw [lg_entry_eq]
  generalize (lg_sl ([.ref (a 1), .int p0]) ++ List.replicate (3 - (lg_sl ([.ref (a 1), .int p0])).length) Slot.unset).toArray = ls at hl ⊢
  have hl : lv_has ls 3 [(0, .ref (a 1)), (1, .int p0)] := hl
  subst hsz
  have hD := hD0.self (sz := s.heap.size)
  generalize hAe : va_A [(a 1, .inr (8, [.ref (a 2), .int v1_1])), (a 2, .inl (t 1, 1600, .inl f2))] s.heap.size = A at hD ⊢
  have hA : ∀ q : Nat, s.heap.size ≤ q → A q := fun q h => by rw [← hAe]; exact Or.inr h
  have hS : va_S A s.heap s.heap [] := va_S.rf
  have hP : va_P D classes [(a 1, .inr (8, [.ref (a 2), .int v1_1])), (a 2, .inl (t 1, 1600, .inl f2))] s.heap := hP
  refine lv_bipush (v := 24) hx hb dX8_add_0 (by decide) ?_
  refine lv_istore_n (lv' := [(2, .int 24), (0, .ref (a 1)), (1, .int p0)]) hx hb dX8_add_2 rfl hl (by decide) rfl (fun ls hl => ?_)
  refine loopW (α := US) (fun n y_1 H locs ls => (y_1.1 0).toInt < (-8) + (n : Int) ∧ rg (-8) 24 (y_1.1 0) ∧ rg 0 1600 (y_1.1 1) ∧ va_P D classes [(a 1, .inr (8, [.ref (a 2), .int (y_1.1 1)])), (a 2, .inl (t 1, 1600, .inl (y_1.2.1 0)))] H ∧ va_D A [(a 1, .inr (8, [.ref (a 2), .int (y_1.1 1)])), (a 2, .inl (t 1, 1600, .inl (y_1.2.1 0)))] ∧ va_S A s.heap H locs ∧ lv_has ls 3 [(2, .int (y_1.1 0)), (0, .ref (a 1)), (1, .int p0)]) 3 (fun y_1 => []) (fun _ _ _ _ h9 => m_0d h9.1 h9.2.1) (fun n ih_4 y_1 H locs ls hI => ?_) 33 (fun k => [24, v1_1].getD k 0, fun k => [f2].getD k (fun _ => 0), fun k => [].getD k (fun _ => 0), fun k => [].getD k 0) ⟨(m_id (rg_c (x := 24) (k := 24) (by decide)) (by decide)), (rg_w (c := (-8)) (d := 24) (rg_c (x := 24) (k := 24) (by decide)) (by decide) (by decide)), r1_1, hP, hD, hS, (lv_sub hl [0, 1, 2] rfl)⟩
  obtain ⟨me_5, h_2, h_3, hP, hD, hS, hl⟩ := hI
  refine lv_iload_n hx hb dX8_add_3 rfl (lv_at hl 0 rfl) ?_
  refine lv_if_lt (tgt := 46) hx hb dX8_add_4 (by decide) (fun c_6 => ?_) (fun c_6 => ?_)
  · skip
    have h_7 : rg (-8) (-1) (y_1.1 0) := ⟨(h_2).1, Int.le_trans (c_lt c_6 (rg_c (x := 0) (k := 0) (by decide))) (by decide)⟩
    have hP9 := hP.sub (ws' := [(a 1, .inr (8, [.ref (a 2), .int (y_1.1 1)])), (a 2, .inl (t 1, 1600, .inl (y_1.2.1 0)))]) [0, 1] rfl
    have hD9 := hD.sub (ws' := [(a 1, .inr (8, [.ref (a 2), .int (y_1.1 1)])), (a 2, .inl (t 1, 1600, .inl (y_1.2.1 0)))]) [0, 1] (by decide) rfl
    exact W.vret hx hb hr (fun t9 ht hW => ⟨⟨(fun k => [(y_1.1 1)].getD k 0, fun k => [(y_1.2.1 0)].getD k (fun _ => 0), fun k => [].getD k (fun _ => 0), fun _ => 0), rfl, h_3, by rw [ht]; exact hP9, hD9⟩, hS.F ht⟩) hS.2.2 dX8_add_46
  · skip
    have h_8 : rg 0 24 (y_1.1 0) := ⟨Int.le_trans (by decide) (c_nlt c_6 (rg_c (x := 0) (k := 0) (by decide))), (h_2).2⟩
    refine lv_aload_n hx hb dX8_add_7 rfl (lv_at hl 1 rfl) ?_
    refine va_get (D := D) (ci := 8) (v := .int (y_1.1 1)) (C := RX8) (T := TX8) (N := 2) hx hb hts iX8 hown hK hP 0 rfl rfl 1 (by decide) (hts _ m_37) (fun _ h9 => h9) rfl dX8_add_8 ?_
    refine lv_sipush (v := 1600) hx hb dX8_add_11 (by decide) ?_
    refine lv_icmp_ge (tgt := 46) hx hb dX8_add_14 (by decide) (fun c_9 => ?_) (fun c_9 => ?_)
    · skip
      have h_10 : rg 1600 1600 (y_1.1 1) := ⟨Int.le_trans (by decide) (c_leR c_9 (rg_c (x := 1600) (k := 1600) (by decide))), (h_3).2⟩
      have hP9 := hP.sub (ws' := [(a 1, .inr (8, [.ref (a 2), .int (y_1.1 1)])), (a 2, .inl (t 1, 1600, .inl (y_1.2.1 0)))]) [0, 1] rfl
      have hD9 := hD.sub (ws' := [(a 1, .inr (8, [.ref (a 2), .int (y_1.1 1)])), (a 2, .inl (t 1, 1600, .inl (y_1.2.1 0)))]) [0, 1] (by decide) rfl
      exact W.vret hx hb hr (fun t9 ht hW => ⟨⟨(fun k => [(y_1.1 1)].getD k 0, fun k => [(y_1.2.1 0)].getD k (fun _ => 0), fun k => [].getD k (fun _ => 0), fun _ => 0), rfl, (rg_w (c := 0) (d := 1600) h_10 (by decide) (by decide)), by rw [ht]; exact hP9, hD9⟩, hS.F ht⟩) hS.2.2 dX8_add_46
    · skip
      have h_11 : rg 0 1599 (y_1.1 1) := ⟨(h_3).1, Int.le_trans (c_nleR c_9 (rg_c (x := 1600) (k := 1600) (by decide))) (by decide)⟩
      refine lv_aload_n hx hb dX8_add_17 rfl (lv_at hl 1 rfl) ?_
      refine va_get (D := D) (ci := 8) (v := .ref (a 2)) (C := RX8) (T := TX8) (N := 2) hx hb hts iX8 hown hK hP 0 rfl rfl 0 (by decide) (hts _ m_36) (fun _ h9 => h9) rfl dX8_add_18 ?_
      refine lv_aload_n hx hb dX8_add_21 rfl (lv_at hl 1 rfl) ?_
      refine va_get (D := D) (ci := 8) (v := .int (y_1.1 1)) (C := RX8) (T := TX8) (N := 2) hx hb hts iX8 hown hK hP 0 rfl rfl 1 (by decide) (hts _ m_37) (fun _ h9 => h9) rfl dX8_add_22 ?_
      refine lv_iload_n hx hb dX8_add_25 rfl (lv_at hl 2 rfl) ?_
      refine lv_iload_n hx hb dX8_add_26 rfl (lv_at hl 0 rfl) ?_
      refine lv_ishr hx hb dX8_add_27 ?_
      refine lv_topi (fun x_12 ex_12 => ?_)
      refine lv_i2b hx hb dX8_add_28 rfl ?_
      refine lv_topi (fun x_13 ex_13 => ?_)
      refine x_bast hx hb hK hP hD hS 1 1 rfl rfl (in_rg h_11 (by decide) (by decide)) dX8_add_29 (fun g_14 H locs hP hD hS => ?_)
      have hP : va_P D classes [(a 1, .inr (8, [.ref (a 2), .int (y_1.1 1)])), (a 2, .inl (t 1, 1600, .inl g_14))] H := hP
      have hD : va_D A [(a 1, .inr (8, [.ref (a 2), .int (y_1.1 1)])), (a 2, .inl (t 1, 1600, .inl g_14))] := hD
      refine lv_aload_n hx hb dX8_add_30 rfl (lv_at hl 1 rfl) ?_
      refine lv_dup hx hb dX8_add_31 rfl ?_
      refine va_get (D := D) (ci := 8) (v := .int (y_1.1 1)) (C := RX8) (T := TX8) (N := 2) hx hb hts iX8 hown hK hP 0 rfl rfl 1 (by decide) (hts _ m_37) (fun _ h9 => h9) rfl dX8_add_32 ?_
      refine lv_iconst (v := 1) hx hb dX8_add_35 (by decide) ?_
      refine lv_iadd hx hb dX8_add_36 ?_
      refine lv_topi (fun x_15 ex_15 => ?_)
      have hx_15 : rg 1 1600 x_15 := by rw [ex_15]; exact rg_add h_11 (rg_c (x := 1) (k := 1) (by decide)) (by decide) (by decide) (by decide) (by decide)
      refine va_put (D := D) (ci := 8) (v := .int x_15) (ty := .int) (C := RX8) (T := TX8) (N := 2) hx hb hts iX8 tyX8 tyX8_ok nmX8 hown hK hP hD hS 0 rfl rfl 1 (by decide) (hts _ m_37) (fun _ h9 => h9) rfl (tyX8_ok 1 (by decide)) rfl rfl (Nat.le_of_ble_eq_true rfl) dX8_add_37 (fun H locs hP hD hS => ?_)
      have hP : va_P D classes [(a 1, .inr (8, [.ref (a 2), .int x_15])), (a 2, .inl (t 1, 1600, .inl g_14))] H := hP
      have hD : va_D A [(a 1, .inr (8, [.ref (a 2), .int x_15])), (a 2, .inl (t 1, 1600, .inl g_14))] := hD
      obtain ⟨x_16, ex_16⟩ : ∃ y9 : Int32, y9 = (y_1.1 0) + (-8) := ⟨_, rfl⟩
      have hx_16 : rg (-8) 16 x_16 := by rw [ex_16]; exact rg_add h_8 (rg_c (x := (-8)) (k := (-8)) (by decide)) (by decide) (by decide) (by decide) (by decide)
      have tx_16 : x_16.toInt = (y_1.1 0).toInt + (-8) := by rw [ex_16]; exact inc_tk h_8 (by decide) (by decide) (by decide)
      refine lv_iinc (v := x_16) (lv' := [(2, .int x_16), (0, .ref (a 1)), (1, .int p0)]) hx hb dX8_add_40 hl (k := 0) rfl (by rw [ex_16]; rfl) (by decide) rfl (fun ls hl => ?_)
      refine lv_goto (tgt := 3) hx hb dX8_add_43 (by decide) ?_
      exact ih_4 (fun k => [x_16, x_15].getD k 0, fun k => [g_14].getD k (fun _ => 0), fun k => [].getD k (fun _ => 0), fun k => [].getD k 0) _ _ ls ⟨(m_dnk me_5 tx_16 (by decide)), (rg_w (c := (-8)) (d := 24) hx_16 (by decide) (by decide)), (rg_w (c := 0) (d := 1600) hx_15 (by decide) (by decide)), hP, hD, hS, (lv_sub hl [0, 1, 2] rfl)⟩

set_option maxHeartbeats 4000000 in
set_option maxRecDepth 100000 in
theorem s_X8_at (l : Launch) (D : va_G) (t : Nat → ClassId) (a : Nat → Nat) (v1_1 : Int32) (f2 : Nat → Int32) (p0 : Int32) (r1_1 : rg 0 1600 v1_1) : Met l yX8_at (wd yX8_at cX8_at 2 (some .int)) (RM 0 0 0) (PreP D (TY t) [.ref (a 1), .int p0] [(a 1, .inr (8, [.ref (a 2), .int v1_1])), (a 2, .inl (t 1, 1600, .inl f2))]) (QP (fun r => rg 0 255 r)) 0 0 NoF := by
  refine Met.ofW (cc := cX8_at) (maxL := 2) (ret := (some .int)) (by decide) rfl ?_
  intro p e s m args below meth c s₁ B hml hv
  obtain ⟨rfl, hP, hK, hN⟩ := hv
  have hx := B.exec
  have hb := B.bytes
  have hr := B.returns
  have hts : ∀ w ∈ TB, w.before _ s = true := fun w h => atoms_spec (ws := wd yX8_at cX8_at 2 (some .int)) B.pre w (List.mem_cons_of_mem _ h)
  have hown : s.vm.findClass RX8 = some m.cls := findClass_of_methodNamed B.named
  have hlocks := B.notSynchronized
  have hF : CallFix p m c cX8_at 2 s _ TB RX8 := ⟨hx, hb, hml, hown, hts⟩
  have hl := lv_entry ([.ref (a 1), .int p0]) (n := 2) (Nat.le_of_ble_eq_true rfl)
  rw [lg_entry_eq]
  generalize (lg_sl ([.ref (a 1), .int p0]) ++ List.replicate (2 - (lg_sl ([.ref (a 1), .int p0])).length) Slot.unset).toArray = ls at hl ⊢
  have hl : lv_has ls 2 [(0, .ref (a 1)), (1, .int p0)] := hl
  have hS : va_S NoF s.heap s.heap [] := va_S.rf
  have hP : va_P D classes [(a 1, .inr (8, [.ref (a 2), .int v1_1])), (a 2, .inl (t 1, 1600, .inl f2))] s.heap := hP
  refine lv_iload_n hx hb dX8_at_0 rfl (lv_at hl 1 rfl) ?_
  refine lv_if_lt (tgt := 25) hx hb dX8_at_1 (by decide) (fun c_1 => ?_) (fun c_1 => ?_)
  · skip
    have h_2 : rg (-2147483648) (-1) p0 := ⟨((rg_any p0)).1, Int.le_trans (c_lt c_1 (rg_c (x := 0) (k := 0) (by decide))) (by decide)⟩
    refine lv_iconst (v := 0) hx hb dX8_at_25 (by decide) ?_
    exact W.iret (v := 0) hx hb hr (fun t9 ht hW => ⟨⟨0, (), rfl, (rg_w (c := 0) (d := 255) (rg_c (x := 0) (k := 0) (by decide)) (by decide) (by decide)), trivial⟩, hS.F ht⟩) hS.2.2 dX8_at_26
  · skip
    have h_3 : rg 0 2147483647 p0 := ⟨Int.le_trans (by decide) (c_nlt c_1 (rg_c (x := 0) (k := 0) (by decide))), ((rg_any p0)).2⟩
    refine lv_iload_n hx hb dX8_at_4 rfl (lv_at hl 1 rfl) ?_
    refine lv_aload_n hx hb dX8_at_5 rfl (lv_at hl 0 rfl) ?_
    refine va_get (D := D) (ci := 8) (v := .int v1_1) (C := RX8) (T := TX8) (N := 2) hx hb hts iX8 hown hK hP 0 rfl rfl 1 (by decide) (hts _ m_37) (fun _ h9 => h9) rfl dX8_at_6 ?_
    refine lv_icmp_ge (tgt := 25) hx hb dX8_at_9 (by decide) (fun c_4 => ?_) (fun c_4 => ?_)
    · skip
      refine lv_iconst (v := 0) hx hb dX8_at_25 (by decide) ?_
      exact W.iret (v := 0) hx hb hr (fun t9 ht hW => ⟨⟨0, (), rfl, (rg_w (c := 0) (d := 255) (rg_c (x := 0) (k := 0) (by decide)) (by decide) (by decide)), trivial⟩, hS.F ht⟩) hS.2.2 dX8_at_26
    · skip
      have h_5 : rg 0 1599 p0 := ⟨(h_3).1, Int.le_trans (c_nleR c_4 r1_1) (by decide)⟩
      have h_6 : rg 1 1600 v1_1 := ⟨Int.le_trans (by decide) (c_nle c_4 h_3), (r1_1).2⟩
      refine lv_aload_n hx hb dX8_at_12 rfl (lv_at hl 0 rfl) ?_
      refine va_get (D := D) (ci := 8) (v := .ref (a 2)) (C := RX8) (T := TX8) (N := 2) hx hb hts iX8 hown hK hP 0 rfl rfl 0 (by decide) (hts _ m_36) (fun _ h9 => h9) rfl dX8_at_13 ?_
      refine lv_iload_n hx hb dX8_at_16 rfl (lv_at hl 1 rfl) ?_
      refine va_bald hx hb hK hP 1 1 rfl rfl (in_rg h_5 (by decide) (by decide)) dX8_at_17 ?_
      refine lv_topi (fun x_7 ex_7 => ?_)
      refine lv_sipush (v := 255) hx hb dX8_at_18 (by decide) ?_
      refine lv_iand hx hb dX8_at_21 ?_
      refine lv_topi (fun x_8 ex_8 => ?_)
      have hx_8 : rg 0 255 x_8 := by rw [ex_8]; exact rg_and (rg_w (c := 0) (d := 255) (rg_c (x := 255) (k := 255) (by decide)) (by decide) (by decide))
      refine lv_goto (tgt := 26) hx hb dX8_at_22 (by decide) ?_
      exact W.iret (v := x_8) hx hb hr (fun t9 ht hW => ⟨⟨x_8, (), rfl, hx_8, trivial⟩, hS.F ht⟩) hS.2.2 dX8_at_26

set_option maxHeartbeats 4000000 in
set_option maxRecDepth 100000 in
theorem s_X2_enrol (l : Launch) (D : va_G) (t : Nat → ClassId) (a : Nat → Nat) (v14_1 : Int32) (v14_2 : Int32) (v14_3 : Int32) (v14_6 : Int32) (v14_8 : Int32) (v14_9 : Int32) (v14_10 : Int32) (v14_11 : Int32) (v14_12 : Int32) (v40_0 : Int32) (v40_1 : Int32) (v40_2 : Int32) (v40_3 : Int32) (v40_4 : Int32) (v40_5 : Int32) (v40_6 : Int32) (v40_7 : Int32) (f47 : Nat → Int32) (p0 : Int32) (r14_8 : rg 0 9 v14_8) (r14_9 : rg (-1) 8 v14_9) (r40_1 : rg 0 8 v40_1) (r40_5 : rg 0 4 v40_5) (r40_6 : rg 0 9 v40_6) (r40_7 : rg 0 9 v40_7) (sz : Nat) : Met l yX2_enrol (wd yX2_enrol cX2_enrol 2 none) (RM 2 0 0) (PreW D (TY t) [.ref (a 14), .int p0] [(a 14, .inr (2, [.ref (a 40), .int v14_1, .int v14_2, .int v14_3, .ref (a 120), .ref (a 121), .int v14_6, .ref (a 122), .int v14_8, .int v14_9, .int v14_10, .int v14_11, .int v14_12])), (a 40, .inr (0, [.int v40_0, .int v40_1, .int v40_2, .int v40_3, .int v40_4, .int v40_5, .int v40_6, .int v40_7, .ref (a 41), .ref (a 42), .ref (a 43), .ref (a 44), .ref (a 45), .ref (a 46), .ref (a 47), .ref (a 48), .ref (a 49), .ref (a 50), .ref (a 54)])), (a 47, .inl (t 0, 9, .inl f47))] sz) (va_Qv (fun (_ : US) => True) (fun (u : US) t9 => va_P D classes ((fun u : US => [(a 14, .inr (2, [.ref (a 40), .int v14_1, .int (u.1 0), .int (u.1 1), .ref (a 120), .ref (a 121), .int v14_6, .ref (a 122), .int v14_8, .int v14_9, .int v14_10, .int v14_11, .int v14_12])), (a 40, .inr (0, [.int v40_0, .int v40_1, .int v40_2, .int v40_3, .int v40_4, .int v40_5, .int v40_6, .int v40_7, .ref (a 41), .ref (a 42), .ref (a 43), .ref (a 44), .ref (a 45), .ref (a 46), .ref (a 47), .ref (a 48), .ref (a 49), .ref (a 50), .ref (a 54)])), (a 47, .inl (t 0, 9, .inl f47))]) u) t9.heap ∧ va_D (va_A [(a 14, .inr (2, [.ref (a 40), .int v14_1, .int v14_2, .int v14_3, .ref (a 120), .ref (a 121), .int v14_6, .ref (a 122), .int v14_8, .int v14_9, .int v14_10, .int v14_11, .int v14_12])), (a 40, .inr (0, [.int v40_0, .int v40_1, .int v40_2, .int v40_3, .int v40_4, .int v40_5, .int v40_6, .int v40_7, .ref (a 41), .ref (a 42), .ref (a 43), .ref (a 44), .ref (a 45), .ref (a 46), .ref (a 47), .ref (a 48), .ref (a 49), .ref (a 50), .ref (a 54)])), (a 47, .inl (t 0, 9, .inl f47))] sz) ((fun u : US => [(a 14, .inr (2, [.ref (a 40), .int v14_1, .int (u.1 0), .int (u.1 1), .ref (a 120), .ref (a 121), .int v14_6, .ref (a 122), .int v14_8, .int v14_9, .int v14_10, .int v14_11, .int v14_12])), (a 40, .inr (0, [.int v40_0, .int v40_1, .int v40_2, .int v40_3, .int v40_4, .int v40_5, .int v40_6, .int v40_7, .ref (a 41), .ref (a 42), .ref (a 43), .ref (a 44), .ref (a 45), .ref (a 46), .ref (a 47), .ref (a 48), .ref (a 49), .ref (a 50), .ref (a 54)])), (a 47, .inl (t 0, 9, .inl f47))]) u)) (va_A [(a 14, .inr (2, [.ref (a 40), .int v14_1, .int v14_2, .int v14_3, .ref (a 120), .ref (a 121), .int v14_6, .ref (a 122), .int v14_8, .int v14_9, .int v14_10, .int v14_11, .int v14_12])), (a 40, .inr (0, [.int v40_0, .int v40_1, .int v40_2, .int v40_3, .int v40_4, .int v40_5, .int v40_6, .int v40_7, .ref (a 41), .ref (a 42), .ref (a 43), .ref (a 44), .ref (a 45), .ref (a 46), .ref (a 47), .ref (a 48), .ref (a 49), .ref (a 50), .ref (a 54)])), (a 47, .inl (t 0, 9, .inl f47))] sz)) 0 0 (va_A [(a 14, .inr (2, [.ref (a 40), .int v14_1, .int v14_2, .int v14_3, .ref (a 120), .ref (a 121), .int v14_6, .ref (a 122), .int v14_8, .int v14_9, .int v14_10, .int v14_11, .int v14_12])), (a 40, .inr (0, [.int v40_0, .int v40_1, .int v40_2, .int v40_3, .int v40_4, .int v40_5, .int v40_6, .int v40_7, .ref (a 41), .ref (a 42), .ref (a 43), .ref (a 44), .ref (a 45), .ref (a 46), .ref (a 47), .ref (a 48), .ref (a 49), .ref (a 50), .ref (a 54)])), (a 47, .inl (t 0, 9, .inl f47))] sz) := by
  refine Met.ofW (cc := cX2_enrol) (maxL := 2) (ret := none) (by decide) rfl ?_
  intro p e s m args below meth c s₁ B hml hv
  obtain ⟨rfl, hsz, hP, hK, hD0, hN⟩ := hv
  have hx := B.exec
  have hb := B.bytes
  have hr := B.returns
  have hts : ∀ w ∈ TB, w.before _ s = true := fun w h => atoms_spec (ws := wd yX2_enrol cX2_enrol 2 none) B.pre w (List.mem_cons_of_mem _ h)
  have hown : s.vm.findClass RX2 = some m.cls := findClass_of_methodNamed B.named
  have hlocks := B.notSynchronized
  have hF : CallFix p m c cX2_enrol 2 s _ TB RX2 := ⟨hx, hb, hml, hown, hts⟩
  have hl := lv_entry ([.ref (a 14), .int p0]) (n := 2) (Nat.le_of_ble_eq_true rfl)
  rw [lg_entry_eq]
  generalize (lg_sl ([.ref (a 14), .int p0]) ++ List.replicate (2 - (lg_sl ([.ref (a 14), .int p0])).length) Slot.unset).toArray = ls at hl ⊢
  have hl : lv_has ls 2 [(0, .ref (a 14)), (1, .int p0)] := hl
  subst hsz
  have hD := hD0.self (sz := s.heap.size)
  generalize hAe : va_A [(a 14, .inr (2, [.ref (a 40), .int v14_1, .int v14_2, .int v14_3, .ref (a 120), .ref (a 121), .int v14_6, .ref (a 122), .int v14_8, .int v14_9, .int v14_10, .int v14_11, .int v14_12])), (a 40, .inr (0, [.int v40_0, .int v40_1, .int v40_2, .int v40_3, .int v40_4, .int v40_5, .int v40_6, .int v40_7, .ref (a 41), .ref (a 42), .ref (a 43), .ref (a 44), .ref (a 45), .ref (a 46), .ref (a 47), .ref (a 48), .ref (a 49), .ref (a 50), .ref (a 54)])), (a 47, .inl (t 0, 9, .inl f47))] s.heap.size = A at hD ⊢
  have hA : ∀ q : Nat, s.heap.size ≤ q → A q := fun q h => by rw [← hAe]; exact Or.inr h
  have hS : va_S A s.heap s.heap [] := va_S.rf
  have hP : va_P D classes [(a 14, .inr (2, [.ref (a 40), .int v14_1, .int v14_2, .int v14_3, .ref (a 120), .ref (a 121), .int v14_6, .ref (a 122), .int v14_8, .int v14_9, .int v14_10, .int v14_11, .int v14_12])), (a 40, .inr (0, [.int v40_0, .int v40_1, .int v40_2, .int v40_3, .int v40_4, .int v40_5, .int v40_6, .int v40_7, .ref (a 41), .ref (a 42), .ref (a 43), .ref (a 44), .ref (a 45), .ref (a 46), .ref (a 47), .ref (a 48), .ref (a 49), .ref (a 50), .ref (a 54)])), (a 47, .inl (t 0, 9, .inl f47))] s.heap := hP
  refine lv_aload_n hx hb dX2_enrol_0 rfl (lv_at hl 0 rfl) ?_
  refine lv_iload_n hx hb dX2_enrol_1 rfl (lv_at hl 1 rfl) ?_
  refine va_put (D := D) (ci := 2) (v := .int p0) (ty := .int) (C := RX2) (T := TX2) (N := 13) hx hb hts iX2 tyX2 tyX2_ok nmX2 hown hK hP hD hS 0 rfl rfl 2 (by decide) (hts _ m_279) (fun _ h9 => h9) rfl (tyX2_ok 2 (by decide)) rfl rfl (Nat.le_of_ble_eq_true rfl) dX2_enrol_2 (fun H locs hP hD hS => ?_)
  have hP : va_P D classes [(a 14, .inr (2, [.ref (a 40), .int v14_1, .int p0, .int v14_3, .ref (a 120), .ref (a 121), .int v14_6, .ref (a 122), .int v14_8, .int v14_9, .int v14_10, .int v14_11, .int v14_12])), (a 40, .inr (0, [.int v40_0, .int v40_1, .int v40_2, .int v40_3, .int v40_4, .int v40_5, .int v40_6, .int v40_7, .ref (a 41), .ref (a 42), .ref (a 43), .ref (a 44), .ref (a 45), .ref (a 46), .ref (a 47), .ref (a 48), .ref (a 49), .ref (a 50), .ref (a 54)])), (a 47, .inl (t 0, 9, .inl f47))] H := hP
  have hD : va_D A [(a 14, .inr (2, [.ref (a 40), .int v14_1, .int p0, .int v14_3, .ref (a 120), .ref (a 121), .int v14_6, .ref (a 122), .int v14_8, .int v14_9, .int v14_10, .int v14_11, .int v14_12])), (a 40, .inr (0, [.int v40_0, .int v40_1, .int v40_2, .int v40_3, .int v40_4, .int v40_5, .int v40_6, .int v40_7, .ref (a 41), .ref (a 42), .ref (a 43), .ref (a 44), .ref (a 45), .ref (a 46), .ref (a 47), .ref (a 48), .ref (a 49), .ref (a 50), .ref (a 54)])), (a 47, .inl (t 0, 9, .inl f47))] := hD
  refine lv_aload_n hx hb dX2_enrol_5 rfl (lv_at hl 0 rfl) ?_
  refine lv_aload_n hx hb dX2_enrol_6 rfl (lv_at hl 0 rfl) ?_
  refine va_get (D := D) (ci := 2) (v := .ref (a 40)) (C := RX2) (T := TX2) (N := 13) hx hb hts iX2 hown hK hP 0 rfl rfl 0 (by decide) (hts _ m_275) (fun _ h9 => h9) rfl dX2_enrol_7 ?_
  refine lv_iload_n hx hb dX2_enrol_10 rfl (lv_at hl 1 rfl) ?_
  refine y_pV hF (s_X0_weightOf_40 l D t a v40_0 v40_1 v40_2 v40_3 v40_4 v40_5 v40_6 v40_7 f47 p0 r40_1 r40_5 r40_6 r40_7) m_778 m_738 m_739 m_3 m_740 hd_X0_weightOf ⟨Nat.le_of_ble_eq_true rfl, Nat.le_of_ble_eq_true rfl⟩ hK hN hP hS [1, 2] rfl 0 (ci := 0) rfl rfl rfl hl.1 rfl (Nat.le_of_ble_eq_true rfl) dX2_enrol_11 ⟨Nat.zero_le _, Nat.zero_le _⟩ (fun r_1 H locs hr_1 hP hS => ?_)
  refine va_put (D := D) (ci := 2) (v := .int r_1) (ty := .int) (C := RX2) (T := TX2) (N := 13) hx hb hts iX2 tyX2 tyX2_ok nmX2 hown hK hP hD hS 0 rfl rfl 3 (by decide) (hts _ m_280) (fun _ h9 => h9) rfl (tyX2_ok 3 (by decide)) rfl rfl (Nat.le_of_ble_eq_true rfl) dX2_enrol_14 (fun H locs hP hD hS => ?_)
  have hP : va_P D classes [(a 14, .inr (2, [.ref (a 40), .int v14_1, .int p0, .int r_1, .ref (a 120), .ref (a 121), .int v14_6, .ref (a 122), .int v14_8, .int v14_9, .int v14_10, .int v14_11, .int v14_12])), (a 40, .inr (0, [.int v40_0, .int v40_1, .int v40_2, .int v40_3, .int v40_4, .int v40_5, .int v40_6, .int v40_7, .ref (a 41), .ref (a 42), .ref (a 43), .ref (a 44), .ref (a 45), .ref (a 46), .ref (a 47), .ref (a 48), .ref (a 49), .ref (a 50), .ref (a 54)])), (a 47, .inl (t 0, 9, .inl f47))] H := hP
  have hD : va_D A [(a 14, .inr (2, [.ref (a 40), .int v14_1, .int p0, .int r_1, .ref (a 120), .ref (a 121), .int v14_6, .ref (a 122), .int v14_8, .int v14_9, .int v14_10, .int v14_11, .int v14_12])), (a 40, .inr (0, [.int v40_0, .int v40_1, .int v40_2, .int v40_3, .int v40_4, .int v40_5, .int v40_6, .int v40_7, .ref (a 41), .ref (a 42), .ref (a 43), .ref (a 44), .ref (a 45), .ref (a 46), .ref (a 47), .ref (a 48), .ref (a 49), .ref (a 50), .ref (a 54)])), (a 47, .inl (t 0, 9, .inl f47))] := hD
  have hP9 := hP.sub (ws' := [(a 14, .inr (2, [.ref (a 40), .int v14_1, .int p0, .int r_1, .ref (a 120), .ref (a 121), .int v14_6, .ref (a 122), .int v14_8, .int v14_9, .int v14_10, .int v14_11, .int v14_12])), (a 40, .inr (0, [.int v40_0, .int v40_1, .int v40_2, .int v40_3, .int v40_4, .int v40_5, .int v40_6, .int v40_7, .ref (a 41), .ref (a 42), .ref (a 43), .ref (a 44), .ref (a 45), .ref (a 46), .ref (a 47), .ref (a 48), .ref (a 49), .ref (a 50), .ref (a 54)])), (a 47, .inl (t 0, 9, .inl f47))]) [0, 1, 2] rfl
  have hD9 := hD.sub (ws' := [(a 14, .inr (2, [.ref (a 40), .int v14_1, .int p0, .int r_1, .ref (a 120), .ref (a 121), .int v14_6, .ref (a 122), .int v14_8, .int v14_9, .int v14_10, .int v14_11, .int v14_12])), (a 40, .inr (0, [.int v40_0, .int v40_1, .int v40_2, .int v40_3, .int v40_4, .int v40_5, .int v40_6, .int v40_7, .ref (a 41), .ref (a 42), .ref (a 43), .ref (a 44), .ref (a 45), .ref (a 46), .ref (a 47), .ref (a 48), .ref (a 49), .ref (a 50), .ref (a 54)])), (a 47, .inl (t 0, 9, .inl f47))]) [0, 1, 2] (by decide) rfl
  exact W.vret hx hb hr (fun t9 ht hW => ⟨⟨(fun k => [p0, r_1].getD k 0, fun k => [].getD k (fun _ => 0), fun k => [].getD k (fun _ => 0), fun _ => 0), rfl, trivial, by rw [ht]; exact hP9, hD9⟩, hS.F ht⟩) hS.2.2 dX2_enrol_17

set_option maxHeartbeats 4000000 in
set_option maxRecDepth 100000 in
theorem s_X2_zealOf (l : Launch) (D : va_G) (t : Nat → ClassId) (a : Nat → Nat) (v14_1 : Int32) (v14_2 : Int32) (v14_3 : Int32) (v14_6 : Int32) (v14_8 : Int32) (v14_9 : Int32) (v14_10 : Int32) (v14_11 : Int32) (v14_12 : Int32) (f120 : Nat → Int32) (p0 : Int32) (p1 : Int32) (r14_8 : rg 0 9 v14_8) (r14_9 : rg (-1) 8 v14_9) (rp0 : rg 0 8 p0) (rp1 : rg 0 8 p1) : Met l yX2_zealOf (wd yX2_zealOf cX2_zealOf 3 (some .int)) (RM 0 0 0) (PreP D (TY t) [.ref (a 14), .int p0, .int p1] [(a 14, .inr (2, [.ref (a 40), .int v14_1, .int v14_2, .int v14_3, .ref (a 120), .ref (a 121), .int v14_6, .ref (a 122), .int v14_8, .int v14_9, .int v14_10, .int v14_11, .int v14_12])), (a 120, .inl (t 0, 81, .inl f120))]) (QP (fun _ => True)) 0 0 NoF := by
  refine Met.ofW (cc := cX2_zealOf) (maxL := 3) (ret := (some .int)) (by decide) rfl ?_
  intro p e s m args below meth c s₁ B hml hv
  obtain ⟨rfl, hP, hK, hN⟩ := hv
  have hx := B.exec
  have hb := B.bytes
  have hr := B.returns
  have hts : ∀ w ∈ TB, w.before _ s = true := fun w h => atoms_spec (ws := wd yX2_zealOf cX2_zealOf 3 (some .int)) B.pre w (List.mem_cons_of_mem _ h)
  have hown : s.vm.findClass RX2 = some m.cls := findClass_of_methodNamed B.named
  have hlocks := B.notSynchronized
  have hF : CallFix p m c cX2_zealOf 3 s _ TB RX2 := ⟨hx, hb, hml, hown, hts⟩
  have hl := lv_entry ([.ref (a 14), .int p0, .int p1]) (n := 3) (Nat.le_of_ble_eq_true rfl)
  rw [lg_entry_eq]
  generalize (lg_sl ([.ref (a 14), .int p0, .int p1]) ++ List.replicate (3 - (lg_sl ([.ref (a 14), .int p0, .int p1])).length) Slot.unset).toArray = ls at hl ⊢
  have hl : lv_has ls 3 [(0, .ref (a 14)), (1, .int p0), (2, .int p1)] := hl
  have hS : va_S NoF s.heap s.heap [] := va_S.rf
  have hP : va_P D classes [(a 14, .inr (2, [.ref (a 40), .int v14_1, .int v14_2, .int v14_3, .ref (a 120), .ref (a 121), .int v14_6, .ref (a 122), .int v14_8, .int v14_9, .int v14_10, .int v14_11, .int v14_12])), (a 120, .inl (t 0, 81, .inl f120))] s.heap := hP
  refine lv_aload_n hx hb dX2_zealOf_0 rfl (lv_at hl 0 rfl) ?_
  refine va_get (D := D) (ci := 2) (v := .ref (a 120)) (C := RX2) (T := TX2) (N := 13) hx hb hts iX2 hown hK hP 0 rfl rfl 4 (by decide) (hts _ m_282) (fun _ h9 => h9) rfl dX2_zealOf_1 ?_
  refine lv_iload_n hx hb dX2_zealOf_4 rfl (lv_at hl 1 rfl) ?_
  refine lv_bipush (v := 9) hx hb dX2_zealOf_5 (by decide) ?_
  refine lv_imul hx hb dX2_zealOf_7 ?_
  refine lv_topi (fun x_1 ex_1 => ?_)
  have hx_1 : rg 0 72 x_1 := by rw [ex_1]; exact rg_mul rp0 (rg_w (c := 0) (d := 9) (rg_c (x := 9) (k := 9) (by decide)) (by decide) (by decide)) (by decide) (by decide)
  refine lv_iload_n hx hb dX2_zealOf_8 rfl (lv_at hl 2 rfl) ?_
  refine lv_iadd hx hb dX2_zealOf_9 ?_
  refine lv_topi (fun x_2 ex_2 => ?_)
  have hx_2 : rg 0 80 x_2 := by rw [ex_2]; exact rg_add hx_1 rp1 (by decide) (by decide) (by decide) (by decide)
  refine va_iald hx hb hK hP 1 0 rfl rfl (in_rg hx_2 (by decide) (by decide)) dX2_zealOf_10 ?_
  refine lv_topi (fun x_3 ex_3 => ?_)
  exact W.iret (v := x_3) hx hb hr (fun t9 ht hW => ⟨⟨x_3, (), rfl, trivial, trivial⟩, hS.F ht⟩) hS.2.2 dX2_zealOf_11

set_option maxHeartbeats 4000000 in
set_option maxRecDepth 100000 in
theorem s_X2_fillZeal (l : Launch) (D : va_G) (t : Nat → ClassId) (a : Nat → Nat) (v14_1 : Int32) (v14_2 : Int32) (v14_3 : Int32) (v14_6 : Int32) (v14_8 : Int32) (v14_9 : Int32) (v14_10 : Int32) (v14_11 : Int32) (v14_12 : Int32) (v40_0 : Int32) (v40_1 : Int32) (v40_2 : Int32) (v40_3 : Int32) (v40_4 : Int32) (v40_5 : Int32) (v40_6 : Int32) (v40_7 : Int32) (f42 : Nat → Int32) (f45 : Nat → Int32) (f49 : Nat → Int32) (f120 : Nat → Int32) (p0 : Int32) (r14_8 : rg 0 9 v14_8) (r14_9 : rg (-1) 8 v14_9) (r40_1 : rg 0 8 v40_1) (r40_5 : rg 0 4 v40_5) (r40_6 : rg 0 9 v40_6) (r40_7 : rg 0 9 v40_7) (rp0 : rg 0 8 p0) (sz : Nat) : Met l yX2_fillZeal (wd yX2_fillZeal cX2_fillZeal 5 none) (RM 2 0 0) (PreW D (TY t) [.ref (a 14), .int p0] [(a 14, .inr (2, [.ref (a 40), .int v14_1, .int v14_2, .int v14_3, .ref (a 120), .ref (a 121), .int v14_6, .ref (a 122), .int v14_8, .int v14_9, .int v14_10, .int v14_11, .int v14_12])), (a 40, .inr (0, [.int v40_0, .int v40_1, .int v40_2, .int v40_3, .int v40_4, .int v40_5, .int v40_6, .int v40_7, .ref (a 41), .ref (a 42), .ref (a 43), .ref (a 44), .ref (a 45), .ref (a 46), .ref (a 47), .ref (a 48), .ref (a 49), .ref (a 50), .ref (a 54)])), (a 42, .inl (t 0, 9, .inl f42)), (a 45, .inl (t 0, 9, .inl f45)), (a 49, .inl (t 0, 9, .inl f49)), (a 120, .inl (t 0, 81, .inl f120))] sz) (va_Qv (fun (_ : US) => True) (fun (u : US) t9 => va_P D classes ((fun u : US => [(a 14, .inr (2, [.ref (a 40), .int v14_1, .int v14_2, .int v14_3, .ref (a 120), .ref (a 121), .int v14_6, .ref (a 122), .int v14_8, .int v14_9, .int v14_10, .int v14_11, .int v14_12])), (a 40, .inr (0, [.int v40_0, .int v40_1, .int v40_2, .int v40_3, .int v40_4, .int v40_5, .int v40_6, .int v40_7, .ref (a 41), .ref (a 42), .ref (a 43), .ref (a 44), .ref (a 45), .ref (a 46), .ref (a 47), .ref (a 48), .ref (a 49), .ref (a 50), .ref (a 54)])), (a 42, .inl (t 0, 9, .inl f42)), (a 45, .inl (t 0, 9, .inl f45)), (a 49, .inl (t 0, 9, .inl f49)), (a 120, .inl (t 0, 81, .inl (u.2.1 0)))]) u) t9.heap ∧ va_D (va_A [(a 14, .inr (2, [.ref (a 40), .int v14_1, .int v14_2, .int v14_3, .ref (a 120), .ref (a 121), .int v14_6, .ref (a 122), .int v14_8, .int v14_9, .int v14_10, .int v14_11, .int v14_12])), (a 40, .inr (0, [.int v40_0, .int v40_1, .int v40_2, .int v40_3, .int v40_4, .int v40_5, .int v40_6, .int v40_7, .ref (a 41), .ref (a 42), .ref (a 43), .ref (a 44), .ref (a 45), .ref (a 46), .ref (a 47), .ref (a 48), .ref (a 49), .ref (a 50), .ref (a 54)])), (a 42, .inl (t 0, 9, .inl f42)), (a 45, .inl (t 0, 9, .inl f45)), (a 49, .inl (t 0, 9, .inl f49)), (a 120, .inl (t 0, 81, .inl f120))] sz) ((fun u : US => [(a 14, .inr (2, [.ref (a 40), .int v14_1, .int v14_2, .int v14_3, .ref (a 120), .ref (a 121), .int v14_6, .ref (a 122), .int v14_8, .int v14_9, .int v14_10, .int v14_11, .int v14_12])), (a 40, .inr (0, [.int v40_0, .int v40_1, .int v40_2, .int v40_3, .int v40_4, .int v40_5, .int v40_6, .int v40_7, .ref (a 41), .ref (a 42), .ref (a 43), .ref (a 44), .ref (a 45), .ref (a 46), .ref (a 47), .ref (a 48), .ref (a 49), .ref (a 50), .ref (a 54)])), (a 42, .inl (t 0, 9, .inl f42)), (a 45, .inl (t 0, 9, .inl f45)), (a 49, .inl (t 0, 9, .inl f49)), (a 120, .inl (t 0, 81, .inl (u.2.1 0)))]) u)) (va_A [(a 14, .inr (2, [.ref (a 40), .int v14_1, .int v14_2, .int v14_3, .ref (a 120), .ref (a 121), .int v14_6, .ref (a 122), .int v14_8, .int v14_9, .int v14_10, .int v14_11, .int v14_12])), (a 40, .inr (0, [.int v40_0, .int v40_1, .int v40_2, .int v40_3, .int v40_4, .int v40_5, .int v40_6, .int v40_7, .ref (a 41), .ref (a 42), .ref (a 43), .ref (a 44), .ref (a 45), .ref (a 46), .ref (a 47), .ref (a 48), .ref (a 49), .ref (a 50), .ref (a 54)])), (a 42, .inl (t 0, 9, .inl f42)), (a 45, .inl (t 0, 9, .inl f45)), (a 49, .inl (t 0, 9, .inl f49)), (a 120, .inl (t 0, 81, .inl f120))] sz)) 0 0 (va_A [(a 14, .inr (2, [.ref (a 40), .int v14_1, .int v14_2, .int v14_3, .ref (a 120), .ref (a 121), .int v14_6, .ref (a 122), .int v14_8, .int v14_9, .int v14_10, .int v14_11, .int v14_12])), (a 40, .inr (0, [.int v40_0, .int v40_1, .int v40_2, .int v40_3, .int v40_4, .int v40_5, .int v40_6, .int v40_7, .ref (a 41), .ref (a 42), .ref (a 43), .ref (a 44), .ref (a 45), .ref (a 46), .ref (a 47), .ref (a 48), .ref (a 49), .ref (a 50), .ref (a 54)])), (a 42, .inl (t 0, 9, .inl f42)), (a 45, .inl (t 0, 9, .inl f45)), (a 49, .inl (t 0, 9, .inl f49)), (a 120, .inl (t 0, 81, .inl f120))] sz) := by
  refine Met.ofW (cc := cX2_fillZeal) (maxL := 5) (ret := none) (by decide) rfl ?_
  intro p e s m args below meth c s₁ B hml hv
  obtain ⟨rfl, hsz, hP, hK, hD0, hN⟩ := hv
  have hx := B.exec
  have hb := B.bytes
  have hr := B.returns
  have hts : ∀ w ∈ TB, w.before _ s = true := fun w h => atoms_spec (ws := wd yX2_fillZeal cX2_fillZeal 5 none) B.pre w (List.mem_cons_of_mem _ h)
  have hown : s.vm.findClass RX2 = some m.cls := findClass_of_methodNamed B.named
  have hlocks := B.notSynchronized
  have hF : CallFix p m c cX2_fillZeal 5 s _ TB RX2 := ⟨hx, hb, hml, hown, hts⟩
  have hl := lv_entry ([.ref (a 14), .int p0]) (n := 5) (Nat.le_of_ble_eq_true rfl)
  rw [lg_entry_eq]
  generalize (lg_sl ([.ref (a 14), .int p0]) ++ List.replicate (5 - (lg_sl ([.ref (a 14), .int p0])).length) Slot.unset).toArray = ls at hl ⊢
  have hl : lv_has ls 5 [(0, .ref (a 14)), (1, .int p0)] := hl
  subst hsz
  have hD := hD0.self (sz := s.heap.size)
  generalize hAe : va_A [(a 14, .inr (2, [.ref (a 40), .int v14_1, .int v14_2, .int v14_3, .ref (a 120), .ref (a 121), .int v14_6, .ref (a 122), .int v14_8, .int v14_9, .int v14_10, .int v14_11, .int v14_12])), (a 40, .inr (0, [.int v40_0, .int v40_1, .int v40_2, .int v40_3, .int v40_4, .int v40_5, .int v40_6, .int v40_7, .ref (a 41), .ref (a 42), .ref (a 43), .ref (a 44), .ref (a 45), .ref (a 46), .ref (a 47), .ref (a 48), .ref (a 49), .ref (a 50), .ref (a 54)])), (a 42, .inl (t 0, 9, .inl f42)), (a 45, .inl (t 0, 9, .inl f45)), (a 49, .inl (t 0, 9, .inl f49)), (a 120, .inl (t 0, 81, .inl f120))] s.heap.size = A at hD ⊢
  have hA : ∀ q : Nat, s.heap.size ≤ q → A q := fun q h => by rw [← hAe]; exact Or.inr h
  have hS : va_S A s.heap s.heap [] := va_S.rf
  have hP : va_P D classes [(a 14, .inr (2, [.ref (a 40), .int v14_1, .int v14_2, .int v14_3, .ref (a 120), .ref (a 121), .int v14_6, .ref (a 122), .int v14_8, .int v14_9, .int v14_10, .int v14_11, .int v14_12])), (a 40, .inr (0, [.int v40_0, .int v40_1, .int v40_2, .int v40_3, .int v40_4, .int v40_5, .int v40_6, .int v40_7, .ref (a 41), .ref (a 42), .ref (a 43), .ref (a 44), .ref (a 45), .ref (a 46), .ref (a 47), .ref (a 48), .ref (a 49), .ref (a 50), .ref (a 54)])), (a 42, .inl (t 0, 9, .inl f42)), (a 45, .inl (t 0, 9, .inl f45)), (a 49, .inl (t 0, 9, .inl f49)), (a 120, .inl (t 0, 81, .inl f120))] s.heap := hP
  refine lv_iconst (v := 0) hx hb dX2_fillZeal_0 (by decide) ?_
  refine lv_istore_n (lv' := [(2, .int 0), (0, .ref (a 14)), (1, .int p0)]) hx hb dX2_fillZeal_1 rfl hl (by decide) rfl (fun ls hl => ?_)
  refine loopW (α := US) (fun n y_1 H locs ls => 9 < (y_1.1 0).toInt + (n : Int) ∧ rg 0 9 (y_1.1 0) ∧ va_P D classes [(a 14, .inr (2, [.ref (a 40), .int v14_1, .int v14_2, .int v14_3, .ref (a 120), .ref (a 121), .int v14_6, .ref (a 122), .int v14_8, .int v14_9, .int v14_10, .int v14_11, .int v14_12])), (a 40, .inr (0, [.int v40_0, .int v40_1, .int v40_2, .int v40_3, .int v40_4, .int v40_5, .int v40_6, .int v40_7, .ref (a 41), .ref (a 42), .ref (a 43), .ref (a 44), .ref (a 45), .ref (a 46), .ref (a 47), .ref (a 48), .ref (a 49), .ref (a 50), .ref (a 54)])), (a 42, .inl (t 0, 9, .inl f42)), (a 45, .inl (t 0, 9, .inl f45)), (a 49, .inl (t 0, 9, .inl f49)), (a 120, .inl (t 0, 81, .inl (y_1.2.1 0)))] H ∧ va_D A [(a 14, .inr (2, [.ref (a 40), .int v14_1, .int v14_2, .int v14_3, .ref (a 120), .ref (a 121), .int v14_6, .ref (a 122), .int v14_8, .int v14_9, .int v14_10, .int v14_11, .int v14_12])), (a 40, .inr (0, [.int v40_0, .int v40_1, .int v40_2, .int v40_3, .int v40_4, .int v40_5, .int v40_6, .int v40_7, .ref (a 41), .ref (a 42), .ref (a 43), .ref (a 44), .ref (a 45), .ref (a 46), .ref (a 47), .ref (a 48), .ref (a 49), .ref (a 50), .ref (a 54)])), (a 42, .inl (t 0, 9, .inl f42)), (a 45, .inl (t 0, 9, .inl f45)), (a 49, .inl (t 0, 9, .inl f49)), (a 120, .inl (t 0, 81, .inl (y_1.2.1 0)))] ∧ va_S A s.heap H locs ∧ lv_has ls 5 [(2, .int (y_1.1 0)), (0, .ref (a 14)), (1, .int p0)]) 2 (fun y_1 => []) (fun _ _ _ _ h9 => m_0 h9.1 h9.2.1) (fun n ih_3 y_1 H locs ls hI => ?_) 10 (fun k => [0].getD k 0, fun k => [f120].getD k (fun _ => 0), fun k => [].getD k (fun _ => 0), fun k => [].getD k 0) ⟨(m_i (rg_c (x := 0) (k := 0) (by decide)) (by decide)), (rg_w (c := 0) (d := 9) (rg_c (x := 0) (k := 0) (by decide)) (by decide) (by decide)), hP, hD, hS, (lv_sub hl [0, 1, 2] rfl)⟩
  obtain ⟨me_4, h_2, hP, hD, hS, hl⟩ := hI
  refine lv_iload_n hx hb dX2_fillZeal_2 rfl (lv_at hl 0 rfl) ?_
  refine lv_aload_n hx hb dX2_fillZeal_3 rfl (lv_at hl 1 rfl) ?_
  refine va_get (D := D) (ci := 2) (v := .ref (a 40)) (C := RX2) (T := TX2) (N := 13) hx hb hts iX2 hown hK hP 0 rfl rfl 0 (by decide) (hts _ m_275) (fun _ h9 => h9) rfl dX2_fillZeal_4 ?_
  refine va_getN (D := D) (ci := 0) (v := .int v40_6) (C := RX0) (T := TX0) (N := 19) (host := "WordSeats") hx hb hts iX0 hown hK hP 1 rfl rfl 6 (by decide) (va_Nw.use rfl (hN _ n_144)) (fun _ h9 => h9) rfl dX2_fillZeal_7 ?_
  refine lv_icmp_ge (tgt := 86) hx hb dX2_fillZeal_10 (by decide) (fun c_5 => ?_) (fun c_5 => ?_)
  · skip
    have hP9 := hP.sub (ws' := [(a 14, .inr (2, [.ref (a 40), .int v14_1, .int v14_2, .int v14_3, .ref (a 120), .ref (a 121), .int v14_6, .ref (a 122), .int v14_8, .int v14_9, .int v14_10, .int v14_11, .int v14_12])), (a 40, .inr (0, [.int v40_0, .int v40_1, .int v40_2, .int v40_3, .int v40_4, .int v40_5, .int v40_6, .int v40_7, .ref (a 41), .ref (a 42), .ref (a 43), .ref (a 44), .ref (a 45), .ref (a 46), .ref (a 47), .ref (a 48), .ref (a 49), .ref (a 50), .ref (a 54)])), (a 42, .inl (t 0, 9, .inl f42)), (a 45, .inl (t 0, 9, .inl f45)), (a 49, .inl (t 0, 9, .inl f49)), (a 120, .inl (t 0, 81, .inl (y_1.2.1 0)))]) [0, 1, 2, 3, 4, 5] rfl
    have hD9 := hD.sub (ws' := [(a 14, .inr (2, [.ref (a 40), .int v14_1, .int v14_2, .int v14_3, .ref (a 120), .ref (a 121), .int v14_6, .ref (a 122), .int v14_8, .int v14_9, .int v14_10, .int v14_11, .int v14_12])), (a 40, .inr (0, [.int v40_0, .int v40_1, .int v40_2, .int v40_3, .int v40_4, .int v40_5, .int v40_6, .int v40_7, .ref (a 41), .ref (a 42), .ref (a 43), .ref (a 44), .ref (a 45), .ref (a 46), .ref (a 47), .ref (a 48), .ref (a 49), .ref (a 50), .ref (a 54)])), (a 42, .inl (t 0, 9, .inl f42)), (a 45, .inl (t 0, 9, .inl f45)), (a 49, .inl (t 0, 9, .inl f49)), (a 120, .inl (t 0, 81, .inl (y_1.2.1 0)))]) [0, 1, 2, 3, 4, 5] (by decide) rfl
    exact W.vret hx hb hr (fun t9 ht hW => ⟨⟨(fun k => [].getD k 0, fun k => [(y_1.2.1 0)].getD k (fun _ => 0), fun k => [].getD k (fun _ => 0), fun _ => 0), rfl, trivial, by rw [ht]; exact hP9, hD9⟩, hS.F ht⟩) hS.2.2 dX2_fillZeal_86
  · skip
    have h_6 : rg 0 8 (y_1.1 0) := ⟨(h_2).1, Int.le_trans (c_nleR c_5 r40_6) (by decide)⟩
    have h_7 : rg 1 9 v40_6 := ⟨Int.le_trans (by decide) (c_nle c_5 h_2), (r40_6).2⟩
    refine lv_aload_n hx hb dX2_fillZeal_13 rfl (lv_at hl 1 rfl) ?_
    refine va_get (D := D) (ci := 2) (v := .int v14_1) (C := RX2) (T := TX2) (N := 13) hx hb hts iX2 hown hK hP 0 rfl rfl 1 (by decide) (hts _ m_276) (fun _ h9 => h9) rfl dX2_fillZeal_14 ?_
    refine lv_iload_n hx hb dX2_fillZeal_17 rfl (lv_at hl 0 rfl) ?_
    refine y_pSN hF (s_X11_holds l D t a v14_1 (y_1.1 0)) n_771 m_707 m_1 m_708 hd_X11_holds ⟨Nat.le_of_ble_eq_true rfl, Nat.le_of_ble_eq_true rfl⟩ hK hN hP hS [] rfl hl.1 rfl (Nat.le_of_ble_eq_true rfl) dX2_fillZeal_18 ⟨Nat.zero_le _, Nat.zero_le _⟩ (fun r_8 H locs hr_8 hP hS => ?_)
    refine lv_if_eq (tgt := 80) hx hb dX2_fillZeal_21 (by decide) (fun c_9 => ?_) (fun c_9 => ?_)
    · skip
      have h_10 : rg 0 0 r_8 := rg_eq c_9 (rg_c (x := 0) (k := 0) (by decide))
      obtain ⟨x_11, ex_11⟩ : ∃ y9 : Int32, y9 = (y_1.1 0) + 1 := ⟨_, rfl⟩
      have hx_11 : rg 1 9 x_11 := by rw [ex_11]; exact rg_add h_6 (rg_c (x := 1) (k := 1) (by decide)) (by decide) (by decide) (by decide) (by decide)
      have tx_11 : x_11.toInt = (y_1.1 0).toInt + 1 := by rw [ex_11]; exact inc_tk h_6 (by decide) (by decide) (by decide)
      refine lv_iinc (v := x_11) (lv' := [(2, .int x_11), (0, .ref (a 14)), (1, .int p0)]) hx hb dX2_fillZeal_80 hl (k := 0) rfl (by rw [ex_11]; rfl) (by decide) rfl (fun ls hl => ?_)
      refine lv_goto (tgt := 2) hx hb dX2_fillZeal_83 (by decide) ?_
      exact ih_3 (fun k => [x_11].getD k 0, fun k => [(y_1.2.1 0)].getD k (fun _ => 0), fun k => [].getD k (fun _ => 0), fun k => [].getD k 0) _ _ ls ⟨(m_upk me_4 tx_11 (by decide)), (rg_w (c := 0) (d := 9) hx_11 (by decide) (by decide)), hP, hD, hS, (lv_sub hl [0, 1, 2] rfl)⟩
    · skip
      have h_12 : rg 1 1 r_8 := rg_w (rg_neL hr_8 c_9 (by decide)) (by decide) (by decide)
      refine lv_aload_n hx hb dX2_fillZeal_24 rfl (lv_at hl 1 rfl) ?_
      refine va_get (D := D) (ci := 2) (v := .ref (a 40)) (C := RX2) (T := TX2) (N := 13) hx hb hts iX2 hown hK hP 0 rfl rfl 0 (by decide) (hts _ m_275) (fun _ h9 => h9) rfl dX2_fillZeal_25 ?_
      refine lv_iload_n hx hb dX2_fillZeal_28 rfl (lv_at hl 2 rfl) ?_
      refine lv_iload_n hx hb dX2_fillZeal_29 rfl (lv_at hl 0 rfl) ?_
      refine y_pV hF (s_X0_liking_40 l D t a v40_0 v40_1 v40_2 v40_3 v40_4 v40_5 v40_6 v40_7 f45 f49 p0 (y_1.1 0) r40_1 r40_5 (rg_w (c := 0) (d := 9) h_7 (by decide) (by decide)) r40_7) m_772 m_747 m_748 m_3 m_749 hd_X0_liking ⟨Nat.le_of_ble_eq_true rfl, Nat.le_of_ble_eq_true rfl⟩ hK hN hP hS [1, 3, 4] rfl 0 (ci := 0) rfl rfl rfl hl.1 rfl (Nat.le_of_ble_eq_true rfl) dX2_fillZeal_30 ⟨Nat.zero_le _, Nat.zero_le _⟩ (fun r_13 H locs hr_13 hP hS => ?_)
      refine lv_istore_n (lv' := [(3, .int r_13), (2, .int (y_1.1 0)), (0, .ref (a 14)), (1, .int p0)]) hx hb dX2_fillZeal_33 rfl hl (by decide) rfl (fun ls hl => ?_)
      refine lv_bipush (v := 16) hx hb dX2_fillZeal_34 (by decide) ?_
      refine lv_aload_n hx hb dX2_fillZeal_36 rfl (lv_at hl 2 rfl) ?_
      refine va_get (D := D) (ci := 2) (v := .ref (a 40)) (C := RX2) (T := TX2) (N := 13) hx hb hts iX2 hown hK hP 0 rfl rfl 0 (by decide) (hts _ m_275) (fun _ h9 => h9) rfl dX2_fillZeal_37 ?_
      refine va_getN (D := D) (ci := 0) (v := .ref (a 42)) (C := RX0) (T := TX0) (N := 19) (host := "WordSeats") hx hb hts iX0 hown hK hP 1 rfl rfl 9 (by decide) (va_Nw.use rfl (hN _ n_158)) (fun _ h9 => h9) rfl dX2_fillZeal_40 ?_
      refine lv_iload_n hx hb dX2_fillZeal_43 rfl (lv_at hl 1 rfl) ?_
      refine va_iald hx hb hK hP 2 0 rfl rfl (in_rg h_6 (by decide) (by decide)) dX2_fillZeal_44 ?_
      refine lv_topi (fun x_14 ex_14 => ?_)
      refine lv_imul hx hb dX2_fillZeal_45 ?_
      refine lv_topi (fun x_15 ex_15 => ?_)
      refine lv_bipush (v := 9) hx hb dX2_fillZeal_46 (by decide) ?_
      refine lv_iadd hx hb dX2_fillZeal_48 ?_
      refine lv_topi (fun x_16 ex_16 => ?_)
      refine lv_iload_n hx hb dX2_fillZeal_49 rfl (lv_at hl 1 rfl) ?_
      refine lv_isub hx hb dX2_fillZeal_50 ?_
      refine lv_topi (fun x_17 ex_17 => ?_)
      refine lv_istore (lv' := [(4, .int x_17), (3, .int r_13), (2, .int (y_1.1 0)), (0, .ref (a 14)), (1, .int p0)]) hx hb dX2_fillZeal_51 hl (by decide) rfl (fun ls hl => ?_)
      refine lv_aload_n hx hb dX2_fillZeal_53 rfl (lv_at hl 3 rfl) ?_
      refine va_get (D := D) (ci := 2) (v := .ref (a 120)) (C := RX2) (T := TX2) (N := 13) hx hb hts iX2 hown hK hP 0 rfl rfl 4 (by decide) (hts _ m_282) (fun _ h9 => h9) rfl dX2_fillZeal_54 ?_
      refine lv_iload_n hx hb dX2_fillZeal_57 rfl (lv_at hl 4 rfl) ?_
      refine lv_bipush (v := 9) hx hb dX2_fillZeal_58 (by decide) ?_
      refine lv_imul hx hb dX2_fillZeal_60 ?_
      refine lv_topi (fun x_18 ex_18 => ?_)
      have hx_18 : rg 0 72 x_18 := by rw [ex_18]; exact rg_mul rp0 (rg_w (c := 0) (d := 9) (rg_c (x := 9) (k := 9) (by decide)) (by decide) (by decide)) (by decide) (by decide)
      refine lv_iload_n hx hb dX2_fillZeal_61 rfl (lv_at hl 2 rfl) ?_
      refine lv_iadd hx hb dX2_fillZeal_62 ?_
      refine lv_topi (fun x_19 ex_19 => ?_)
      have hx_19 : rg 0 80 x_19 := by rw [ex_19]; exact rg_add hx_18 h_6 (by decide) (by decide) (by decide) (by decide)
      refine lv_iload_n hx hb dX2_fillZeal_63 rfl (lv_at hl 1 rfl) ?_
      refine lv_if_ne (tgt := 71) hx hb dX2_fillZeal_64 (by decide) (fun c_20 => ?_) (fun c_20 => ?_)
      · skip
        have h_21 : rg 1 63 r_13 := rg_w (rg_neL hr_13 c_20 (by decide)) (by decide) (by decide)
        refine lv_sipush (v := 256) hx hb dX2_fillZeal_71 (by decide) ?_
        refine lv_iload_n hx hb dX2_fillZeal_74 rfl (lv_at hl 1 rfl) ?_
        refine lv_imul hx hb dX2_fillZeal_75 ?_
        refine lv_topi (fun x_22 ex_22 => ?_)
        have hx_22 : rg 0 16128 x_22 := by rw [ex_22]; exact rg_mul (rg_w (c := 0) (d := 256) (rg_c (x := 256) (k := 256) (by decide)) (by decide) (by decide)) (rg_w (c := 0) (d := 63) h_21 (by decide) (by decide)) (by decide) (by decide)
        have kx_22 : x_22.toInt % ((256 : Nat) : Int) = ((0 : Nat) : Int) := by rw [ex_22]; exact cg_mul (by decide) (rg_w (c := 0) (d := 63) h_21 (by decide) (by decide)) (by decide)
        refine lv_iload hx hb dX2_fillZeal_76 (lv_at hl 0 rfl) ?_
        refine lv_iadd hx hb dX2_fillZeal_78 ?_
        refine lv_topi (fun x_23 ex_23 => ?_)
        refine x_iast hx hb hK hP hD hS 5 0 rfl rfl (in_rg hx_19 (by decide) (by decide)) dX2_fillZeal_79 (fun g_24 H locs hP hD hS => ?_)
        have hP : va_P D classes [(a 14, .inr (2, [.ref (a 40), .int v14_1, .int v14_2, .int v14_3, .ref (a 120), .ref (a 121), .int v14_6, .ref (a 122), .int v14_8, .int v14_9, .int v14_10, .int v14_11, .int v14_12])), (a 40, .inr (0, [.int v40_0, .int v40_1, .int v40_2, .int v40_3, .int v40_4, .int v40_5, .int v40_6, .int v40_7, .ref (a 41), .ref (a 42), .ref (a 43), .ref (a 44), .ref (a 45), .ref (a 46), .ref (a 47), .ref (a 48), .ref (a 49), .ref (a 50), .ref (a 54)])), (a 42, .inl (t 0, 9, .inl f42)), (a 45, .inl (t 0, 9, .inl f45)), (a 49, .inl (t 0, 9, .inl f49)), (a 120, .inl (t 0, 81, .inl g_24))] H := hP
        have hD : va_D A [(a 14, .inr (2, [.ref (a 40), .int v14_1, .int v14_2, .int v14_3, .ref (a 120), .ref (a 121), .int v14_6, .ref (a 122), .int v14_8, .int v14_9, .int v14_10, .int v14_11, .int v14_12])), (a 40, .inr (0, [.int v40_0, .int v40_1, .int v40_2, .int v40_3, .int v40_4, .int v40_5, .int v40_6, .int v40_7, .ref (a 41), .ref (a 42), .ref (a 43), .ref (a 44), .ref (a 45), .ref (a 46), .ref (a 47), .ref (a 48), .ref (a 49), .ref (a 50), .ref (a 54)])), (a 42, .inl (t 0, 9, .inl f42)), (a 45, .inl (t 0, 9, .inl f45)), (a 49, .inl (t 0, 9, .inl f49)), (a 120, .inl (t 0, 81, .inl g_24))] := hD
        obtain ⟨x_25, ex_25⟩ : ∃ y9 : Int32, y9 = (y_1.1 0) + 1 := ⟨_, rfl⟩
        have hx_25 : rg 1 9 x_25 := by rw [ex_25]; exact rg_add h_6 (rg_c (x := 1) (k := 1) (by decide)) (by decide) (by decide) (by decide) (by decide)
        have tx_25 : x_25.toInt = (y_1.1 0).toInt + 1 := by rw [ex_25]; exact inc_tk h_6 (by decide) (by decide) (by decide)
        refine lv_iinc (v := x_25) (lv' := [(2, .int x_25), (4, .int x_17), (3, .int r_13), (0, .ref (a 14)), (1, .int p0)]) hx hb dX2_fillZeal_80 hl (k := 2) rfl (by rw [ex_25]; rfl) (by decide) rfl (fun ls hl => ?_)
        refine lv_goto (tgt := 2) hx hb dX2_fillZeal_83 (by decide) ?_
        exact ih_3 (fun k => [x_25].getD k 0, fun k => [g_24].getD k (fun _ => 0), fun k => [].getD k (fun _ => 0), fun k => [].getD k 0) _ _ ls ⟨(m_upk me_4 tx_25 (by decide)), (rg_w (c := 0) (d := 9) hx_25 (by decide) (by decide)), hP, hD, hS, (lv_sub hl [0, 3, 4] rfl)⟩
      · skip
        have h_26 : rg 0 0 r_13 := rg_eq c_20 (rg_c (x := 0) (k := 0) (by decide))
        refine lv_iconst (v := 0) hx hb dX2_fillZeal_67 (by decide) ?_
        refine lv_goto (tgt := 79) hx hb dX2_fillZeal_68 (by decide) ?_
        refine x_iast hx hb hK hP hD hS 5 0 rfl rfl (in_rg hx_19 (by decide) (by decide)) dX2_fillZeal_79 (fun g_27 H locs hP hD hS => ?_)
        have hP : va_P D classes [(a 14, .inr (2, [.ref (a 40), .int v14_1, .int v14_2, .int v14_3, .ref (a 120), .ref (a 121), .int v14_6, .ref (a 122), .int v14_8, .int v14_9, .int v14_10, .int v14_11, .int v14_12])), (a 40, .inr (0, [.int v40_0, .int v40_1, .int v40_2, .int v40_3, .int v40_4, .int v40_5, .int v40_6, .int v40_7, .ref (a 41), .ref (a 42), .ref (a 43), .ref (a 44), .ref (a 45), .ref (a 46), .ref (a 47), .ref (a 48), .ref (a 49), .ref (a 50), .ref (a 54)])), (a 42, .inl (t 0, 9, .inl f42)), (a 45, .inl (t 0, 9, .inl f45)), (a 49, .inl (t 0, 9, .inl f49)), (a 120, .inl (t 0, 81, .inl g_27))] H := hP
        have hD : va_D A [(a 14, .inr (2, [.ref (a 40), .int v14_1, .int v14_2, .int v14_3, .ref (a 120), .ref (a 121), .int v14_6, .ref (a 122), .int v14_8, .int v14_9, .int v14_10, .int v14_11, .int v14_12])), (a 40, .inr (0, [.int v40_0, .int v40_1, .int v40_2, .int v40_3, .int v40_4, .int v40_5, .int v40_6, .int v40_7, .ref (a 41), .ref (a 42), .ref (a 43), .ref (a 44), .ref (a 45), .ref (a 46), .ref (a 47), .ref (a 48), .ref (a 49), .ref (a 50), .ref (a 54)])), (a 42, .inl (t 0, 9, .inl f42)), (a 45, .inl (t 0, 9, .inl f45)), (a 49, .inl (t 0, 9, .inl f49)), (a 120, .inl (t 0, 81, .inl g_27))] := hD
        obtain ⟨x_28, ex_28⟩ : ∃ y9 : Int32, y9 = (y_1.1 0) + 1 := ⟨_, rfl⟩
        have hx_28 : rg 1 9 x_28 := by rw [ex_28]; exact rg_add h_6 (rg_c (x := 1) (k := 1) (by decide)) (by decide) (by decide) (by decide) (by decide)
        have tx_28 : x_28.toInt = (y_1.1 0).toInt + 1 := by rw [ex_28]; exact inc_tk h_6 (by decide) (by decide) (by decide)
        refine lv_iinc (v := x_28) (lv' := [(2, .int x_28), (4, .int x_17), (3, .int r_13), (0, .ref (a 14)), (1, .int p0)]) hx hb dX2_fillZeal_80 hl (k := 2) rfl (by rw [ex_28]; rfl) (by decide) rfl (fun ls hl => ?_)
        refine lv_goto (tgt := 2) hx hb dX2_fillZeal_83 (by decide) ?_
        exact ih_3 (fun k => [x_28].getD k 0, fun k => [g_27].getD k (fun _ => 0), fun k => [].getD k (fun _ => 0), fun k => [].getD k 0) _ _ ls ⟨(m_upk me_4 tx_28 (by decide)), (rg_w (c := 0) (d := 9) hx_28 (by decide) (by decide)), hP, hD, hS, (lv_sub hl [0, 3, 4] rfl)⟩

set_option maxHeartbeats 4000000 in
set_option maxRecDepth 100000 in
theorem s_X2_open (l : Launch) (D : va_G) (t : Nat → ClassId) (a : Nat → Nat) (v14_1 : Int32) (v14_2 : Int32) (v14_3 : Int32) (v14_6 : Int32) (v14_8 : Int32) (v14_9 : Int32) (v14_10 : Int32) (v14_11 : Int32) (v14_12 : Int32) (v40_0 : Int32) (v40_1 : Int32) (v40_2 : Int32) (v40_3 : Int32) (v40_4 : Int32) (v40_5 : Int32) (v40_6 : Int32) (v40_7 : Int32) (f42 : Nat → Int32) (f43 : Nat → Int32) (f45 : Nat → Int32) (f46 : Nat → Int32) (f47 : Nat → Int32) (f49 : Nat → Int32) (v54_0 : Int32) (v54_1 : Int32) (v54_2 : Int32) (f120 : Nat → Int32) (p0 : Int32) (r14_8 : rg 0 9 v14_8) (r14_9 : rg (-1) 8 v14_9) (r40_1 : rg 0 8 v40_1) (r40_5 : rg 0 4 v40_5) (r40_6 : rg 0 9 v40_6) (r40_7 : rg 0 9 v40_7) (q43 : ∀ j, j < 9 → rg 0 3 (f43 j)) (r54_0 : rg 0 60 v54_0) (sz : Nat) : Met l yX2_open (wd yX2_open cX2_open 3 none) (RM 3 0 0) (PreW D (TY t) [.ref (a 14), .int p0] [(a 14, .inr (2, [.ref (a 40), .int v14_1, .int v14_2, .int v14_3, .ref (a 120), .ref (a 121), .int v14_6, .ref (a 122), .int v14_8, .int v14_9, .int v14_10, .int v14_11, .int v14_12])), (a 40, .inr (0, [.int v40_0, .int v40_1, .int v40_2, .int v40_3, .int v40_4, .int v40_5, .int v40_6, .int v40_7, .ref (a 41), .ref (a 42), .ref (a 43), .ref (a 44), .ref (a 45), .ref (a 46), .ref (a 47), .ref (a 48), .ref (a 49), .ref (a 50), .ref (a 54)])), (a 42, .inl (t 0, 9, .inl f42)), (a 43, .inl (t 0, 9, .inl f43)), (a 45, .inl (t 0, 9, .inl f45)), (a 46, .inl (t 0, 9, .inl f46)), (a 47, .inl (t 0, 9, .inl f47)), (a 49, .inl (t 0, 9, .inl f49)), (a 54, .inr (9, [.int v54_0, .int v54_1, .int v54_2, .ref (a 55), .ref (a 56), .ref (a 57), .ref (a 58)])), (a 120, .inl (t 0, 81, .inl f120))] sz) (va_Qv (fun (u : US) => (lo9 v40_6 (u.1 0))) (fun (u : US) t9 => va_P D classes ((fun u : US => [(a 14, .inr (2, [.ref (a 40), .int (u.1 0), .int (u.1 1), .int (u.1 2), .ref (a 120), .ref (a 121), .int v14_6, .ref (a 122), .int v14_8, .int v14_9, .int v14_10, .int v14_11, .int v14_12])), (a 40, .inr (0, [.int v40_0, .int v40_1, .int v40_2, .int v40_3, .int v40_4, .int v40_5, .int v40_6, .int v40_7, .ref (a 41), .ref (a 42), .ref (a 43), .ref (a 44), .ref (a 45), .ref (a 46), .ref (a 47), .ref (a 48), .ref (a 49), .ref (a 50), .ref (a 54)])), (a 42, .inl (t 0, 9, .inl f42)), (a 43, .inl (t 0, 9, .inl f43)), (a 45, .inl (t 0, 9, .inl f45)), (a 46, .inl (t 0, 9, .inl f46)), (a 47, .inl (t 0, 9, .inl f47)), (a 49, .inl (t 0, 9, .inl f49)), (a 54, .inr (9, [.int v54_0, .int v54_1, .int v54_2, .ref (a 55), .ref (a 56), .ref (a 57), .ref (a 58)])), (a 120, .inl (t 0, 81, .inl (u.2.1 0)))]) u) t9.heap ∧ va_D (va_A [(a 14, .inr (2, [.ref (a 40), .int v14_1, .int v14_2, .int v14_3, .ref (a 120), .ref (a 121), .int v14_6, .ref (a 122), .int v14_8, .int v14_9, .int v14_10, .int v14_11, .int v14_12])), (a 40, .inr (0, [.int v40_0, .int v40_1, .int v40_2, .int v40_3, .int v40_4, .int v40_5, .int v40_6, .int v40_7, .ref (a 41), .ref (a 42), .ref (a 43), .ref (a 44), .ref (a 45), .ref (a 46), .ref (a 47), .ref (a 48), .ref (a 49), .ref (a 50), .ref (a 54)])), (a 42, .inl (t 0, 9, .inl f42)), (a 43, .inl (t 0, 9, .inl f43)), (a 45, .inl (t 0, 9, .inl f45)), (a 46, .inl (t 0, 9, .inl f46)), (a 47, .inl (t 0, 9, .inl f47)), (a 49, .inl (t 0, 9, .inl f49)), (a 54, .inr (9, [.int v54_0, .int v54_1, .int v54_2, .ref (a 55), .ref (a 56), .ref (a 57), .ref (a 58)])), (a 120, .inl (t 0, 81, .inl f120))] sz) ((fun u : US => [(a 14, .inr (2, [.ref (a 40), .int (u.1 0), .int (u.1 1), .int (u.1 2), .ref (a 120), .ref (a 121), .int v14_6, .ref (a 122), .int v14_8, .int v14_9, .int v14_10, .int v14_11, .int v14_12])), (a 40, .inr (0, [.int v40_0, .int v40_1, .int v40_2, .int v40_3, .int v40_4, .int v40_5, .int v40_6, .int v40_7, .ref (a 41), .ref (a 42), .ref (a 43), .ref (a 44), .ref (a 45), .ref (a 46), .ref (a 47), .ref (a 48), .ref (a 49), .ref (a 50), .ref (a 54)])), (a 42, .inl (t 0, 9, .inl f42)), (a 43, .inl (t 0, 9, .inl f43)), (a 45, .inl (t 0, 9, .inl f45)), (a 46, .inl (t 0, 9, .inl f46)), (a 47, .inl (t 0, 9, .inl f47)), (a 49, .inl (t 0, 9, .inl f49)), (a 54, .inr (9, [.int v54_0, .int v54_1, .int v54_2, .ref (a 55), .ref (a 56), .ref (a 57), .ref (a 58)])), (a 120, .inl (t 0, 81, .inl (u.2.1 0)))]) u)) (va_A [(a 14, .inr (2, [.ref (a 40), .int v14_1, .int v14_2, .int v14_3, .ref (a 120), .ref (a 121), .int v14_6, .ref (a 122), .int v14_8, .int v14_9, .int v14_10, .int v14_11, .int v14_12])), (a 40, .inr (0, [.int v40_0, .int v40_1, .int v40_2, .int v40_3, .int v40_4, .int v40_5, .int v40_6, .int v40_7, .ref (a 41), .ref (a 42), .ref (a 43), .ref (a 44), .ref (a 45), .ref (a 46), .ref (a 47), .ref (a 48), .ref (a 49), .ref (a 50), .ref (a 54)])), (a 42, .inl (t 0, 9, .inl f42)), (a 43, .inl (t 0, 9, .inl f43)), (a 45, .inl (t 0, 9, .inl f45)), (a 46, .inl (t 0, 9, .inl f46)), (a 47, .inl (t 0, 9, .inl f47)), (a 49, .inl (t 0, 9, .inl f49)), (a 54, .inr (9, [.int v54_0, .int v54_1, .int v54_2, .ref (a 55), .ref (a 56), .ref (a 57), .ref (a 58)])), (a 120, .inl (t 0, 81, .inl f120))] sz)) 0 0 (va_A [(a 14, .inr (2, [.ref (a 40), .int v14_1, .int v14_2, .int v14_3, .ref (a 120), .ref (a 121), .int v14_6, .ref (a 122), .int v14_8, .int v14_9, .int v14_10, .int v14_11, .int v14_12])), (a 40, .inr (0, [.int v40_0, .int v40_1, .int v40_2, .int v40_3, .int v40_4, .int v40_5, .int v40_6, .int v40_7, .ref (a 41), .ref (a 42), .ref (a 43), .ref (a 44), .ref (a 45), .ref (a 46), .ref (a 47), .ref (a 48), .ref (a 49), .ref (a 50), .ref (a 54)])), (a 42, .inl (t 0, 9, .inl f42)), (a 43, .inl (t 0, 9, .inl f43)), (a 45, .inl (t 0, 9, .inl f45)), (a 46, .inl (t 0, 9, .inl f46)), (a 47, .inl (t 0, 9, .inl f47)), (a 49, .inl (t 0, 9, .inl f49)), (a 54, .inr (9, [.int v54_0, .int v54_1, .int v54_2, .ref (a 55), .ref (a 56), .ref (a 57), .ref (a 58)])), (a 120, .inl (t 0, 81, .inl f120))] sz) := by
  refine Met.ofW (cc := cX2_open) (maxL := 3) (ret := none) (by decide) rfl ?_
  intro p e s m args below meth c s₁ B hml hv
  obtain ⟨rfl, hsz, hP, hK, hD0, hN⟩ := hv
  have hx := B.exec
  have hb := B.bytes
  have hr := B.returns
  have hts : ∀ w ∈ TB, w.before _ s = true := fun w h => atoms_spec (ws := wd yX2_open cX2_open 3 none) B.pre w (List.mem_cons_of_mem _ h)
  have hown : s.vm.findClass RX2 = some m.cls := findClass_of_methodNamed B.named
  have hlocks := B.notSynchronized
  have hF : CallFix p m c cX2_open 3 s _ TB RX2 := ⟨hx, hb, hml, hown, hts⟩
  have hl := lv_entry ([.ref (a 14), .int p0]) (n := 3) (Nat.le_of_ble_eq_true rfl)
  rw [lg_entry_eq]
  generalize (lg_sl ([.ref (a 14), .int p0]) ++ List.replicate (3 - (lg_sl ([.ref (a 14), .int p0])).length) Slot.unset).toArray = ls at hl ⊢
  have hl : lv_has ls 3 [(0, .ref (a 14)), (1, .int p0)] := hl
  subst hsz
  have hD := hD0.self (sz := s.heap.size)
  generalize hAe : va_A [(a 14, .inr (2, [.ref (a 40), .int v14_1, .int v14_2, .int v14_3, .ref (a 120), .ref (a 121), .int v14_6, .ref (a 122), .int v14_8, .int v14_9, .int v14_10, .int v14_11, .int v14_12])), (a 40, .inr (0, [.int v40_0, .int v40_1, .int v40_2, .int v40_3, .int v40_4, .int v40_5, .int v40_6, .int v40_7, .ref (a 41), .ref (a 42), .ref (a 43), .ref (a 44), .ref (a 45), .ref (a 46), .ref (a 47), .ref (a 48), .ref (a 49), .ref (a 50), .ref (a 54)])), (a 42, .inl (t 0, 9, .inl f42)), (a 43, .inl (t 0, 9, .inl f43)), (a 45, .inl (t 0, 9, .inl f45)), (a 46, .inl (t 0, 9, .inl f46)), (a 47, .inl (t 0, 9, .inl f47)), (a 49, .inl (t 0, 9, .inl f49)), (a 54, .inr (9, [.int v54_0, .int v54_1, .int v54_2, .ref (a 55), .ref (a 56), .ref (a 57), .ref (a 58)])), (a 120, .inl (t 0, 81, .inl f120))] s.heap.size = A at hD ⊢
  have hA : ∀ q : Nat, s.heap.size ≤ q → A q := fun q h => by rw [← hAe]; exact Or.inr h
  have hS : va_S A s.heap s.heap [] := va_S.rf
  have hP : va_P D classes [(a 14, .inr (2, [.ref (a 40), .int v14_1, .int v14_2, .int v14_3, .ref (a 120), .ref (a 121), .int v14_6, .ref (a 122), .int v14_8, .int v14_9, .int v14_10, .int v14_11, .int v14_12])), (a 40, .inr (0, [.int v40_0, .int v40_1, .int v40_2, .int v40_3, .int v40_4, .int v40_5, .int v40_6, .int v40_7, .ref (a 41), .ref (a 42), .ref (a 43), .ref (a 44), .ref (a 45), .ref (a 46), .ref (a 47), .ref (a 48), .ref (a 49), .ref (a 50), .ref (a 54)])), (a 42, .inl (t 0, 9, .inl f42)), (a 43, .inl (t 0, 9, .inl f43)), (a 45, .inl (t 0, 9, .inl f45)), (a 46, .inl (t 0, 9, .inl f46)), (a 47, .inl (t 0, 9, .inl f47)), (a 49, .inl (t 0, 9, .inl f49)), (a 54, .inr (9, [.int v54_0, .int v54_1, .int v54_2, .ref (a 55), .ref (a 56), .ref (a 57), .ref (a 58)])), (a 120, .inl (t 0, 81, .inl f120))] s.heap := hP
  refine lv_aload_n hx hb dX2_open_0 rfl (lv_at hl 0 rfl) ?_
  refine lv_aload_n hx hb dX2_open_1 rfl (lv_at hl 0 rfl) ?_
  refine va_get (D := D) (ci := 2) (v := .ref (a 40)) (C := RX2) (T := TX2) (N := 13) hx hb hts iX2 hown hK hP 0 rfl rfl 0 (by decide) (hts _ m_275) (fun _ h9 => h9) rfl dX2_open_2 ?_
  refine lv_iload_n hx hb dX2_open_5 rfl (lv_at hl 1 rfl) ?_
  refine y_pV hF (s_X0_standingInV l D t a v40_0 v40_1 v40_2 v40_3 v40_4 v40_5 v40_6 v40_7 f43 v54_0 v54_1 v54_2 p0 r40_1 r40_5 r40_6 r40_7 q43 r54_0) m_766 m_726 m_727 m_3 m_728 hd_X0_standingIn ⟨Nat.le_of_ble_eq_true rfl, Nat.le_of_ble_eq_true rfl⟩ hK hN hP hS [1, 3, 8] rfl 0 (ci := 0) rfl rfl rfl hl.1 rfl (Nat.le_of_ble_eq_true rfl) dX2_open_6 ⟨Nat.zero_le _, Nat.zero_le _⟩ (fun r_1 H locs hr_1 hP hS => ?_)
  have or_1 := hr_1.2
  refine va_put (D := D) (ci := 2) (v := .int r_1) (ty := .int) (C := RX2) (T := TX2) (N := 13) hx hb hts iX2 tyX2 tyX2_ok nmX2 hown hK hP hD hS 0 rfl rfl 1 (by decide) (hts _ m_276) (fun _ h9 => h9) rfl (tyX2_ok 1 (by decide)) rfl rfl (Nat.le_of_ble_eq_true rfl) dX2_open_9 (fun H locs hP hD hS => ?_)
  have hP : va_P D classes [(a 14, .inr (2, [.ref (a 40), .int r_1, .int v14_2, .int v14_3, .ref (a 120), .ref (a 121), .int v14_6, .ref (a 122), .int v14_8, .int v14_9, .int v14_10, .int v14_11, .int v14_12])), (a 40, .inr (0, [.int v40_0, .int v40_1, .int v40_2, .int v40_3, .int v40_4, .int v40_5, .int v40_6, .int v40_7, .ref (a 41), .ref (a 42), .ref (a 43), .ref (a 44), .ref (a 45), .ref (a 46), .ref (a 47), .ref (a 48), .ref (a 49), .ref (a 50), .ref (a 54)])), (a 42, .inl (t 0, 9, .inl f42)), (a 43, .inl (t 0, 9, .inl f43)), (a 45, .inl (t 0, 9, .inl f45)), (a 46, .inl (t 0, 9, .inl f46)), (a 47, .inl (t 0, 9, .inl f47)), (a 49, .inl (t 0, 9, .inl f49)), (a 54, .inr (9, [.int v54_0, .int v54_1, .int v54_2, .ref (a 55), .ref (a 56), .ref (a 57), .ref (a 58)])), (a 120, .inl (t 0, 81, .inl f120))] H := hP
  have hD : va_D A [(a 14, .inr (2, [.ref (a 40), .int r_1, .int v14_2, .int v14_3, .ref (a 120), .ref (a 121), .int v14_6, .ref (a 122), .int v14_8, .int v14_9, .int v14_10, .int v14_11, .int v14_12])), (a 40, .inr (0, [.int v40_0, .int v40_1, .int v40_2, .int v40_3, .int v40_4, .int v40_5, .int v40_6, .int v40_7, .ref (a 41), .ref (a 42), .ref (a 43), .ref (a 44), .ref (a 45), .ref (a 46), .ref (a 47), .ref (a 48), .ref (a 49), .ref (a 50), .ref (a 54)])), (a 42, .inl (t 0, 9, .inl f42)), (a 43, .inl (t 0, 9, .inl f43)), (a 45, .inl (t 0, 9, .inl f45)), (a 46, .inl (t 0, 9, .inl f46)), (a 47, .inl (t 0, 9, .inl f47)), (a 49, .inl (t 0, 9, .inl f49)), (a 54, .inr (9, [.int v54_0, .int v54_1, .int v54_2, .ref (a 55), .ref (a 56), .ref (a 57), .ref (a 58)])), (a 120, .inl (t 0, 81, .inl f120))] := hD
  refine lv_iconst (v := 0) hx hb dX2_open_12 (by decide) ?_
  refine lv_istore_n (lv' := [(2, .int 0), (0, .ref (a 14)), (1, .int p0)]) hx hb dX2_open_13 rfl hl (by decide) rfl (fun ls hl => ?_)
  refine loopW (α := US) (fun n y_2 H locs ls => 9 < (y_2.1 0).toInt + (n : Int) ∧ rg 0 9 (y_2.1 0) ∧ va_P D classes [(a 14, .inr (2, [.ref (a 40), .int r_1, .int v14_2, .int v14_3, .ref (a 120), .ref (a 121), .int v14_6, .ref (a 122), .int v14_8, .int v14_9, .int v14_10, .int v14_11, .int v14_12])), (a 40, .inr (0, [.int v40_0, .int v40_1, .int v40_2, .int v40_3, .int v40_4, .int v40_5, .int v40_6, .int v40_7, .ref (a 41), .ref (a 42), .ref (a 43), .ref (a 44), .ref (a 45), .ref (a 46), .ref (a 47), .ref (a 48), .ref (a 49), .ref (a 50), .ref (a 54)])), (a 42, .inl (t 0, 9, .inl f42)), (a 43, .inl (t 0, 9, .inl f43)), (a 45, .inl (t 0, 9, .inl f45)), (a 46, .inl (t 0, 9, .inl f46)), (a 47, .inl (t 0, 9, .inl f47)), (a 49, .inl (t 0, 9, .inl f49)), (a 54, .inr (9, [.int v54_0, .int v54_1, .int v54_2, .ref (a 55), .ref (a 56), .ref (a 57), .ref (a 58)])), (a 120, .inl (t 0, 81, .inl (y_2.2.1 0)))] H ∧ va_D A [(a 14, .inr (2, [.ref (a 40), .int r_1, .int v14_2, .int v14_3, .ref (a 120), .ref (a 121), .int v14_6, .ref (a 122), .int v14_8, .int v14_9, .int v14_10, .int v14_11, .int v14_12])), (a 40, .inr (0, [.int v40_0, .int v40_1, .int v40_2, .int v40_3, .int v40_4, .int v40_5, .int v40_6, .int v40_7, .ref (a 41), .ref (a 42), .ref (a 43), .ref (a 44), .ref (a 45), .ref (a 46), .ref (a 47), .ref (a 48), .ref (a 49), .ref (a 50), .ref (a 54)])), (a 42, .inl (t 0, 9, .inl f42)), (a 43, .inl (t 0, 9, .inl f43)), (a 45, .inl (t 0, 9, .inl f45)), (a 46, .inl (t 0, 9, .inl f46)), (a 47, .inl (t 0, 9, .inl f47)), (a 49, .inl (t 0, 9, .inl f49)), (a 54, .inr (9, [.int v54_0, .int v54_1, .int v54_2, .ref (a 55), .ref (a 56), .ref (a 57), .ref (a 58)])), (a 120, .inl (t 0, 81, .inl (y_2.2.1 0)))] ∧ va_S A s.heap H locs ∧ lv_has ls 3 [(2, .int (y_2.1 0)), (0, .ref (a 14)), (1, .int p0)]) 14 (fun y_2 => []) (fun _ _ _ _ h9 => m_0 h9.1 h9.2.1) (fun n ih_4 y_2 H locs ls hI => ?_) 10 (fun k => [0].getD k 0, fun k => [f120].getD k (fun _ => 0), fun k => [].getD k (fun _ => 0), fun k => [].getD k 0) ⟨(m_i (rg_c (x := 0) (k := 0) (by decide)) (by decide)), (rg_w (c := 0) (d := 9) (rg_c (x := 0) (k := 0) (by decide)) (by decide) (by decide)), hP, hD, hS, (lv_sub hl [0, 1, 2] rfl)⟩
  obtain ⟨me_5, h_3, hP, hD, hS, hl⟩ := hI
  refine lv_iload_n hx hb dX2_open_14 rfl (lv_at hl 0 rfl) ?_
  refine lv_aload_n hx hb dX2_open_15 rfl (lv_at hl 1 rfl) ?_
  refine va_get (D := D) (ci := 2) (v := .ref (a 40)) (C := RX2) (T := TX2) (N := 13) hx hb hts iX2 hown hK hP 0 rfl rfl 0 (by decide) (hts _ m_275) (fun _ h9 => h9) rfl dX2_open_16 ?_
  refine va_getN (D := D) (ci := 0) (v := .int v40_7) (C := RX0) (T := TX0) (N := 19) (host := "WordSeats") hx hb hts iX0 hown hK hP 1 rfl rfl 7 (by decide) (va_Nw.use rfl (hN _ n_148)) (fun _ h9 => h9) rfl dX2_open_19 ?_
  refine lv_icmp_ge (tgt := 36) hx hb dX2_open_22 (by decide) (fun c_6 => ?_) (fun c_6 => ?_)
  · skip
    refine lv_aload_n hx hb dX2_open_36 rfl (lv_at hl 1 rfl) ?_
    refine lv_aload_n hx hb dX2_open_37 rfl (lv_at hl 1 rfl) ?_
    refine va_get (D := D) (ci := 2) (v := .ref (a 40)) (C := RX2) (T := TX2) (N := 13) hx hb hts iX2 hown hK hP 0 rfl rfl 0 (by decide) (hts _ m_275) (fun _ h9 => h9) rfl dX2_open_38 ?_
    refine lv_iload_n hx hb dX2_open_41 rfl (lv_at hl 2 rfl) ?_
    refine y_pV hF (s_X0_speakersIn_40 l D t a v40_0 v40_1 v40_2 v40_3 v40_4 v40_5 v40_6 v40_7 f46 p0 r40_1 r40_5 r40_6 r40_7) m_773 m_734 m_735 m_3 m_736 hd_X0_speakersIn ⟨Nat.le_of_ble_eq_true rfl, Nat.le_of_ble_eq_true rfl⟩ hK hN hP hS [1, 5] rfl 0 (ci := 0) rfl rfl rfl hl.1 rfl (Nat.le_of_ble_eq_true rfl) dX2_open_42 ⟨Nat.zero_le _, Nat.zero_le _⟩ (fun r_7 H locs hr_7 hP hS => ?_)
    refine y_wV (wr := [(a 42, .inl (t 0, 9, .inl f42)), (a 43, .inl (t 0, 9, .inl f43)), (a 45, .inl (t 0, 9, .inl f45)), (a 46, .inl (t 0, 9, .inl f46)), (a 49, .inl (t 0, 9, .inl f49)), (a 54, .inr (9, [.int v54_0, .int v54_1, .int v54_2, .ref (a 55), .ref (a 56), .ref (a 57), .ref (a 58)])), (a 120, .inl (t 0, 81, .inl (y_2.2.1 0)))]) hF (s_X2_enrol l D t a r_1 v14_2 v14_3 v14_6 v14_8 v14_9 v14_10 v14_11 v14_12 v40_0 v40_1 v40_2 v40_3 v40_4 v40_5 v40_6 v40_7 f47 r_7 r14_8 r14_9 r40_1 r40_5 r40_6 r40_7 H.size) m_774 m_775 m_776 m_7 m_777 hd_X2_enrol ⟨Nat.le_of_ble_eq_true rfl, Nat.le_of_ble_eq_true rfl⟩ hK hN hP hD hS hA 0 (ci := 2) rfl rfl rfl [0, 1, 6] [2, 3, 4, 5, 7, 8, 9] rfl rfl (by decide) (by decide) (by decide) hl.1 rfl (Nat.le_of_ble_eq_true rfl) dX2_open_45 ⟨Nat.zero_le _, Nat.zero_le _⟩ (fun u_8 H locs hu_8 hP hD hS => ?_)
    have hP : va_P D classes [(a 42, .inl (t 0, 9, .inl f42)), (a 43, .inl (t 0, 9, .inl f43)), (a 45, .inl (t 0, 9, .inl f45)), (a 46, .inl (t 0, 9, .inl f46)), (a 49, .inl (t 0, 9, .inl f49)), (a 54, .inr (9, [.int v54_0, .int v54_1, .int v54_2, .ref (a 55), .ref (a 56), .ref (a 57), .ref (a 58)])), (a 120, .inl (t 0, 81, .inl (y_2.2.1 0))), (a 14, .inr (2, [.ref (a 40), .int r_1, .int (u_8.1 0), .int (u_8.1 1), .ref (a 120), .ref (a 121), .int v14_6, .ref (a 122), .int v14_8, .int v14_9, .int v14_10, .int v14_11, .int v14_12])), (a 40, .inr (0, [.int v40_0, .int v40_1, .int v40_2, .int v40_3, .int v40_4, .int v40_5, .int v40_6, .int v40_7, .ref (a 41), .ref (a 42), .ref (a 43), .ref (a 44), .ref (a 45), .ref (a 46), .ref (a 47), .ref (a 48), .ref (a 49), .ref (a 50), .ref (a 54)])), (a 47, .inl (t 0, 9, .inl f47))] H := hP
    have hD : va_D A [(a 42, .inl (t 0, 9, .inl f42)), (a 43, .inl (t 0, 9, .inl f43)), (a 45, .inl (t 0, 9, .inl f45)), (a 46, .inl (t 0, 9, .inl f46)), (a 49, .inl (t 0, 9, .inl f49)), (a 54, .inr (9, [.int v54_0, .int v54_1, .int v54_2, .ref (a 55), .ref (a 56), .ref (a 57), .ref (a 58)])), (a 120, .inl (t 0, 81, .inl (y_2.2.1 0))), (a 14, .inr (2, [.ref (a 40), .int r_1, .int (u_8.1 0), .int (u_8.1 1), .ref (a 120), .ref (a 121), .int v14_6, .ref (a 122), .int v14_8, .int v14_9, .int v14_10, .int v14_11, .int v14_12])), (a 40, .inr (0, [.int v40_0, .int v40_1, .int v40_2, .int v40_3, .int v40_4, .int v40_5, .int v40_6, .int v40_7, .ref (a 41), .ref (a 42), .ref (a 43), .ref (a 44), .ref (a 45), .ref (a 46), .ref (a 47), .ref (a 48), .ref (a 49), .ref (a 50), .ref (a 54)])), (a 47, .inl (t 0, 9, .inl f47))] := hD
    have hP9 := hP.sub (ws' := [(a 14, .inr (2, [.ref (a 40), .int r_1, .int (u_8.1 0), .int (u_8.1 1), .ref (a 120), .ref (a 121), .int v14_6, .ref (a 122), .int v14_8, .int v14_9, .int v14_10, .int v14_11, .int v14_12])), (a 40, .inr (0, [.int v40_0, .int v40_1, .int v40_2, .int v40_3, .int v40_4, .int v40_5, .int v40_6, .int v40_7, .ref (a 41), .ref (a 42), .ref (a 43), .ref (a 44), .ref (a 45), .ref (a 46), .ref (a 47), .ref (a 48), .ref (a 49), .ref (a 50), .ref (a 54)])), (a 42, .inl (t 0, 9, .inl f42)), (a 43, .inl (t 0, 9, .inl f43)), (a 45, .inl (t 0, 9, .inl f45)), (a 46, .inl (t 0, 9, .inl f46)), (a 47, .inl (t 0, 9, .inl f47)), (a 49, .inl (t 0, 9, .inl f49)), (a 54, .inr (9, [.int v54_0, .int v54_1, .int v54_2, .ref (a 55), .ref (a 56), .ref (a 57), .ref (a 58)])), (a 120, .inl (t 0, 81, .inl (y_2.2.1 0)))]) [7, 8, 0, 1, 2, 3, 9, 4, 5, 6] rfl
    have hD9 := hD.sub (ws' := [(a 14, .inr (2, [.ref (a 40), .int r_1, .int (u_8.1 0), .int (u_8.1 1), .ref (a 120), .ref (a 121), .int v14_6, .ref (a 122), .int v14_8, .int v14_9, .int v14_10, .int v14_11, .int v14_12])), (a 40, .inr (0, [.int v40_0, .int v40_1, .int v40_2, .int v40_3, .int v40_4, .int v40_5, .int v40_6, .int v40_7, .ref (a 41), .ref (a 42), .ref (a 43), .ref (a 44), .ref (a 45), .ref (a 46), .ref (a 47), .ref (a 48), .ref (a 49), .ref (a 50), .ref (a 54)])), (a 42, .inl (t 0, 9, .inl f42)), (a 43, .inl (t 0, 9, .inl f43)), (a 45, .inl (t 0, 9, .inl f45)), (a 46, .inl (t 0, 9, .inl f46)), (a 47, .inl (t 0, 9, .inl f47)), (a 49, .inl (t 0, 9, .inl f49)), (a 54, .inr (9, [.int v54_0, .int v54_1, .int v54_2, .ref (a 55), .ref (a 56), .ref (a 57), .ref (a 58)])), (a 120, .inl (t 0, 81, .inl (y_2.2.1 0)))]) [7, 8, 0, 1, 2, 3, 9, 4, 5, 6] (by decide) rfl
    exact W.vret hx hb hr (fun t9 ht hW => ⟨⟨(fun k => [r_1, (u_8.1 0), (u_8.1 1)].getD k 0, fun k => [(y_2.2.1 0)].getD k (fun _ => 0), fun k => [].getD k (fun _ => 0), fun _ => 0), rfl, or_1, by rw [ht]; exact hP9, hD9⟩, hS.F ht⟩) hS.2.2 dX2_open_48
  · skip
    have h_10 : rg 0 8 (y_2.1 0) := ⟨(h_3).1, Int.le_trans (c_nleR c_6 r40_7) (by decide)⟩
    have h_11 : rg 1 9 v40_7 := ⟨Int.le_trans (by decide) (c_nle c_6 h_3), (r40_7).2⟩
    refine lv_aload_n hx hb dX2_open_25 rfl (lv_at hl 1 rfl) ?_
    refine lv_iload_n hx hb dX2_open_26 rfl (lv_at hl 0 rfl) ?_
    refine y_wV (wr := [(a 43, .inl (t 0, 9, .inl f43)), (a 46, .inl (t 0, 9, .inl f46)), (a 47, .inl (t 0, 9, .inl f47)), (a 54, .inr (9, [.int v54_0, .int v54_1, .int v54_2, .ref (a 55), .ref (a 56), .ref (a 57), .ref (a 58)]))]) hF (s_X2_fillZeal l D t a r_1 v14_2 v14_3 v14_6 v14_8 v14_9 v14_10 v14_11 v14_12 v40_0 v40_1 v40_2 v40_3 v40_4 v40_5 v40_6 v40_7 f42 f45 f49 (y_2.2.1 0) (y_2.1 0) r14_8 r14_9 r40_1 r40_5 r40_6 (rg_w (c := 0) (d := 9) h_11 (by decide) (by decide)) h_10 H.size) m_767 m_769 m_s16 m_7 m_770 hd_X2_fillZeal ⟨Nat.le_of_ble_eq_true rfl, Nat.le_of_ble_eq_true rfl⟩ hK hN hP hD hS hA 0 (ci := 2) rfl rfl rfl [0, 1, 2, 4, 7, 9] [3, 5, 6, 8] rfl rfl (by decide) (by decide) (by decide) hl.1 rfl (Nat.le_of_ble_eq_true rfl) dX2_open_27 ⟨Nat.zero_le _, Nat.zero_le _⟩ (fun u_12 H locs hu_12 hP hD hS => ?_)
    have hP : va_P D classes [(a 43, .inl (t 0, 9, .inl f43)), (a 46, .inl (t 0, 9, .inl f46)), (a 47, .inl (t 0, 9, .inl f47)), (a 54, .inr (9, [.int v54_0, .int v54_1, .int v54_2, .ref (a 55), .ref (a 56), .ref (a 57), .ref (a 58)])), (a 14, .inr (2, [.ref (a 40), .int r_1, .int v14_2, .int v14_3, .ref (a 120), .ref (a 121), .int v14_6, .ref (a 122), .int v14_8, .int v14_9, .int v14_10, .int v14_11, .int v14_12])), (a 40, .inr (0, [.int v40_0, .int v40_1, .int v40_2, .int v40_3, .int v40_4, .int v40_5, .int v40_6, .int v40_7, .ref (a 41), .ref (a 42), .ref (a 43), .ref (a 44), .ref (a 45), .ref (a 46), .ref (a 47), .ref (a 48), .ref (a 49), .ref (a 50), .ref (a 54)])), (a 42, .inl (t 0, 9, .inl f42)), (a 45, .inl (t 0, 9, .inl f45)), (a 49, .inl (t 0, 9, .inl f49)), (a 120, .inl (t 0, 81, .inl (u_12.2.1 0)))] H := hP
    have hD : va_D A [(a 43, .inl (t 0, 9, .inl f43)), (a 46, .inl (t 0, 9, .inl f46)), (a 47, .inl (t 0, 9, .inl f47)), (a 54, .inr (9, [.int v54_0, .int v54_1, .int v54_2, .ref (a 55), .ref (a 56), .ref (a 57), .ref (a 58)])), (a 14, .inr (2, [.ref (a 40), .int r_1, .int v14_2, .int v14_3, .ref (a 120), .ref (a 121), .int v14_6, .ref (a 122), .int v14_8, .int v14_9, .int v14_10, .int v14_11, .int v14_12])), (a 40, .inr (0, [.int v40_0, .int v40_1, .int v40_2, .int v40_3, .int v40_4, .int v40_5, .int v40_6, .int v40_7, .ref (a 41), .ref (a 42), .ref (a 43), .ref (a 44), .ref (a 45), .ref (a 46), .ref (a 47), .ref (a 48), .ref (a 49), .ref (a 50), .ref (a 54)])), (a 42, .inl (t 0, 9, .inl f42)), (a 45, .inl (t 0, 9, .inl f45)), (a 49, .inl (t 0, 9, .inl f49)), (a 120, .inl (t 0, 81, .inl (u_12.2.1 0)))] := hD
    obtain ⟨x_14, ex_14⟩ : ∃ y9 : Int32, y9 = (y_2.1 0) + 1 := ⟨_, rfl⟩
    have hx_14 : rg 1 9 x_14 := by rw [ex_14]; exact rg_add h_10 (rg_c (x := 1) (k := 1) (by decide)) (by decide) (by decide) (by decide) (by decide)
    have tx_14 : x_14.toInt = (y_2.1 0).toInt + 1 := by rw [ex_14]; exact inc_tk h_10 (by decide) (by decide) (by decide)
    refine lv_iinc (v := x_14) (lv' := [(2, .int x_14), (0, .ref (a 14)), (1, .int p0)]) hx hb dX2_open_30 hl (k := 0) rfl (by rw [ex_14]; rfl) (by decide) rfl (fun ls hl => ?_)
    refine lv_goto (tgt := 14) hx hb dX2_open_33 (by decide) ?_
    exact ih_4 (fun k => [x_14].getD k 0, fun k => [(u_12.2.1 0)].getD k (fun _ => 0), fun k => [].getD k (fun _ => 0), fun k => [].getD k 0) _ _ ls ⟨(m_upk me_5 tx_14 (by decide)), (rg_w (c := 0) (d := 9) hx_14 (by decide) (by decide)), (hP.sub [4, 5, 6, 0, 7, 1, 2, 8, 3, 9] rfl), (hD.sub [4, 5, 6, 0, 7, 1, 2, 8, 3, 9] (by decide) rfl), hS, (lv_sub hl [0, 1, 2] rfl)⟩

set_option maxHeartbeats 4000000 in
set_option maxRecDepth 100000 in
theorem s_X2_favourite (l : Launch) (D : va_G) (t : Nat → ClassId) (a : Nat → Nat) (v14_1 : Int32) (v14_2 : Int32) (v14_3 : Int32) (v14_6 : Int32) (v14_8 : Int32) (v14_9 : Int32) (v14_10 : Int32) (v14_11 : Int32) (v14_12 : Int32) (v40_0 : Int32) (v40_1 : Int32) (v40_2 : Int32) (v40_3 : Int32) (v40_4 : Int32) (v40_5 : Int32) (v40_6 : Int32) (v40_7 : Int32) (f120 : Nat → Int32) (p0 : Int32) (p1 : Int32) (r14_8 : rg 0 9 v14_8) (r14_9 : rg (-1) 8 v14_9) (r40_1 : rg 0 8 v40_1) (r40_5 : rg 0 4 v40_5) (r40_6 : rg 0 9 v40_6) (r40_7 : rg 0 9 v40_7) (rp0 : rg 0 8 p0) : Met l yX2_favourite (wd yX2_favourite cX2_favourite 6 (some .int)) (RM 1 0 0) (PreP D (TY t) [.ref (a 14), .int p0, .int p1] [(a 14, .inr (2, [.ref (a 40), .int v14_1, .int v14_2, .int v14_3, .ref (a 120), .ref (a 121), .int v14_6, .ref (a 122), .int v14_8, .int v14_9, .int v14_10, .int v14_11, .int v14_12])), (a 40, .inr (0, [.int v40_0, .int v40_1, .int v40_2, .int v40_3, .int v40_4, .int v40_5, .int v40_6, .int v40_7, .ref (a 41), .ref (a 42), .ref (a 43), .ref (a 44), .ref (a 45), .ref (a 46), .ref (a 47), .ref (a 48), .ref (a 49), .ref (a 50), .ref (a 54)])), (a 120, .inl (t 0, 81, .inl f120))]) (QP (fun r => rg (-1) 8 r)) 0 0 NoF := by
  refine Met.ofW (cc := cX2_favourite) (maxL := 6) (ret := (some .int)) (by decide) rfl ?_
  intro p e s m args below meth c s₁ B hml hv
  obtain ⟨rfl, hP, hK, hN⟩ := hv
  have hx := B.exec
  have hb := B.bytes
  have hr := B.returns
  have hts : ∀ w ∈ TB, w.before _ s = true := fun w h => atoms_spec (ws := wd yX2_favourite cX2_favourite 6 (some .int)) B.pre w (List.mem_cons_of_mem _ h)
  have hown : s.vm.findClass RX2 = some m.cls := findClass_of_methodNamed B.named
  have hlocks := B.notSynchronized
  have hF : CallFix p m c cX2_favourite 6 s _ TB RX2 := ⟨hx, hb, hml, hown, hts⟩
  have hl := lv_entry ([.ref (a 14), .int p0, .int p1]) (n := 6) (Nat.le_of_ble_eq_true rfl)
  rw [lg_entry_eq]
  generalize (lg_sl ([.ref (a 14), .int p0, .int p1]) ++ List.replicate (6 - (lg_sl ([.ref (a 14), .int p0, .int p1])).length) Slot.unset).toArray = ls at hl ⊢
  have hl : lv_has ls 6 [(0, .ref (a 14)), (1, .int p0), (2, .int p1)] := hl
  have hS : va_S NoF s.heap s.heap [] := va_S.rf
  have hP : va_P D classes [(a 14, .inr (2, [.ref (a 40), .int v14_1, .int v14_2, .int v14_3, .ref (a 120), .ref (a 121), .int v14_6, .ref (a 122), .int v14_8, .int v14_9, .int v14_10, .int v14_11, .int v14_12])), (a 40, .inr (0, [.int v40_0, .int v40_1, .int v40_2, .int v40_3, .int v40_4, .int v40_5, .int v40_6, .int v40_7, .ref (a 41), .ref (a 42), .ref (a 43), .ref (a 44), .ref (a 45), .ref (a 46), .ref (a 47), .ref (a 48), .ref (a 49), .ref (a 50), .ref (a 54)])), (a 120, .inl (t 0, 81, .inl f120))] s.heap := hP
  refine lv_iconst (v := (-1)) hx hb dX2_favourite_0 (by decide) ?_
  refine lv_istore_n (lv' := [(3, .int (-1)), (0, .ref (a 14)), (1, .int p0), (2, .int p1)]) hx hb dX2_favourite_1 rfl hl (by decide) rfl (fun ls hl => ?_)
  refine lv_iconst (v := 0) hx hb dX2_favourite_2 (by decide) ?_
  refine lv_istore (lv' := [(4, .int 0), (3, .int (-1)), (0, .ref (a 14)), (1, .int p0), (2, .int p1)]) hx hb dX2_favourite_3 hl (by decide) rfl (fun ls hl => ?_)
  refine lv_iconst (v := 0) hx hb dX2_favourite_5 (by decide) ?_
  refine lv_istore (lv' := [(5, .int 0), (4, .int 0), (3, .int (-1)), (0, .ref (a 14)), (1, .int p0), (2, .int p1)]) hx hb dX2_favourite_6 hl (by decide) rfl (fun ls hl => ?_)
  refine loopW (α := US) (fun n y_1 H locs ls => 9 < (y_1.1 0).toInt + (n : Int) ∧ rg 0 9 (y_1.1 0) ∧ rg (-1) 8 (y_1.1 2) ∧ va_P D classes [(a 14, .inr (2, [.ref (a 40), .int v14_1, .int v14_2, .int v14_3, .ref (a 120), .ref (a 121), .int v14_6, .ref (a 122), .int v14_8, .int v14_9, .int v14_10, .int v14_11, .int v14_12])), (a 40, .inr (0, [.int v40_0, .int v40_1, .int v40_2, .int v40_3, .int v40_4, .int v40_5, .int v40_6, .int v40_7, .ref (a 41), .ref (a 42), .ref (a 43), .ref (a 44), .ref (a 45), .ref (a 46), .ref (a 47), .ref (a 48), .ref (a 49), .ref (a 50), .ref (a 54)])), (a 120, .inl (t 0, 81, .inl f120))] H ∧ va_S NoF s.heap H locs ∧ lv_has ls 6 [(5, .int (y_1.1 0)), (4, .int (y_1.1 1)), (3, .int (y_1.1 2)), (0, .ref (a 14)), (1, .int p0), (2, .int p1)]) 8 (fun y_1 => []) (fun _ _ _ _ h9 => m_0 h9.1 h9.2.1) (fun n ih_4 y_1 H locs ls hI => ?_) 10 (fun k => [0, 0, (-1)].getD k 0, fun k => [].getD k (fun _ => 0), fun k => [].getD k (fun _ => 0), fun k => [].getD k 0) ⟨(m_i (rg_c (x := 0) (k := 0) (by decide)) (by decide)), (rg_w (c := 0) (d := 9) (rg_c (x := 0) (k := 0) (by decide)) (by decide) (by decide)), (rg_w (c := (-1)) (d := 8) (rg_c (x := (-1)) (k := (-1)) (by decide)) (by decide) (by decide)), hP, hS, (lv_sub hl [0, 1, 2, 3, 4, 5] rfl)⟩
  obtain ⟨me_5, h_2, h_3, hP, hS, hl⟩ := hI
  refine lv_iload hx hb dX2_favourite_8 (lv_at hl 0 rfl) ?_
  refine lv_aload_n hx hb dX2_favourite_10 rfl (lv_at hl 3 rfl) ?_
  refine va_get (D := D) (ci := 2) (v := .ref (a 40)) (C := RX2) (T := TX2) (N := 13) hx hb hts iX2 hown hK hP 0 rfl rfl 0 (by decide) (hts _ m_275) (fun _ h9 => h9) rfl dX2_favourite_11 ?_
  refine va_getN (D := D) (ci := 0) (v := .int v40_6) (C := RX0) (T := TX0) (N := 19) (host := "WordSeats") hx hb hts iX0 hown hK hP 1 rfl rfl 6 (by decide) (va_Nw.use rfl (hN _ n_144)) (fun _ h9 => h9) rfl dX2_favourite_14 ?_
  refine lv_icmp_ge (tgt := 59) hx hb dX2_favourite_17 (by decide) (fun c_6 => ?_) (fun c_6 => ?_)
  · skip
    refine lv_iload_n hx hb dX2_favourite_59 rfl (lv_at hl 2 rfl) ?_
    exact W.iret (v := (y_1.1 2)) hx hb hr (fun t9 ht hW => ⟨⟨(y_1.1 2), (), rfl, h_3, trivial⟩, hS.F ht⟩) hS.2.2 dX2_favourite_60
  · skip
    have h_7 : rg 0 8 (y_1.1 0) := ⟨(h_2).1, Int.le_trans (c_nleR c_6 r40_6) (by decide)⟩
    have h_8 : rg 1 9 v40_6 := ⟨Int.le_trans (by decide) (c_nle c_6 h_2), (r40_6).2⟩
    refine lv_iload_n hx hb dX2_favourite_20 rfl (lv_at hl 5 rfl) ?_
    refine lv_iload hx hb dX2_favourite_21 (lv_at hl 0 rfl) ?_
    refine y_pSN hF (s_X11_holds l D t a p1 (y_1.1 0)) n_771 m_707 m_1 m_708 hd_X11_holds ⟨Nat.le_of_ble_eq_true rfl, Nat.le_of_ble_eq_true rfl⟩ hK hN hP hS [] rfl hl.1 rfl (Nat.le_of_ble_eq_true rfl) dX2_favourite_23 ⟨Nat.zero_le _, Nat.zero_le _⟩ (fun r_9 H locs hr_9 hP hS => ?_)
    refine lv_if_eq (tgt := 53) hx hb dX2_favourite_26 (by decide) (fun c_10 => ?_) (fun c_10 => ?_)
    · skip
      have h_11 : rg 0 0 r_9 := rg_eq c_10 (rg_c (x := 0) (k := 0) (by decide))
      obtain ⟨x_12, ex_12⟩ : ∃ y9 : Int32, y9 = (y_1.1 0) + 1 := ⟨_, rfl⟩
      have hx_12 : rg 1 9 x_12 := by rw [ex_12]; exact rg_add h_7 (rg_c (x := 1) (k := 1) (by decide)) (by decide) (by decide) (by decide) (by decide)
      have tx_12 : x_12.toInt = (y_1.1 0).toInt + 1 := by rw [ex_12]; exact inc_tk h_7 (by decide) (by decide) (by decide)
      refine lv_iinc (v := x_12) (lv' := [(5, .int x_12), (4, .int (y_1.1 1)), (3, .int (y_1.1 2)), (0, .ref (a 14)), (1, .int p0), (2, .int p1)]) hx hb dX2_favourite_53 hl (k := 0) rfl (by rw [ex_12]; rfl) (by decide) rfl (fun ls hl => ?_)
      refine lv_goto (tgt := 8) hx hb dX2_favourite_56 (by decide) ?_
      exact ih_4 (fun k => [x_12, (y_1.1 1), (y_1.1 2)].getD k 0, fun k => [].getD k (fun _ => 0), fun k => [].getD k (fun _ => 0), fun k => [].getD k 0) _ _ ls ⟨(m_upk me_5 tx_12 (by decide)), (rg_w (c := 0) (d := 9) hx_12 (by decide) (by decide)), h_3, hP, hS, (lv_sub hl [0, 1, 2, 3, 4, 5] rfl)⟩
    · skip
      have h_13 : rg 1 1 r_9 := rg_w (rg_neL hr_9 c_10 (by decide)) (by decide) (by decide)
      refine lv_aload_n hx hb dX2_favourite_29 rfl (lv_at hl 3 rfl) ?_
      refine lv_iload_n hx hb dX2_favourite_30 rfl (lv_at hl 4 rfl) ?_
      refine lv_iload hx hb dX2_favourite_31 (lv_at hl 0 rfl) ?_
      refine y_pV hF (s_X2_zealOf l D t a v14_1 v14_2 v14_3 v14_6 v14_8 v14_9 v14_10 v14_11 v14_12 f120 p0 (y_1.1 0) r14_8 r14_9 rp0 h_7) m_787 m_789 m_s18 m_7 m_790 hd_X2_zealOf ⟨Nat.le_of_ble_eq_true rfl, Nat.le_of_ble_eq_true rfl⟩ hK hN hP hS [0, 2] rfl 0 (ci := 2) rfl rfl rfl hl.1 rfl (Nat.le_of_ble_eq_true rfl) dX2_favourite_33 ⟨Nat.zero_le _, Nat.zero_le _⟩ (fun r_14 H locs hr_14 hP hS => ?_)
      refine lv_iload hx hb dX2_favourite_36 (lv_at hl 1 rfl) ?_
      refine lv_icmp_le (tgt := 53) hx hb dX2_favourite_38 (by decide) (fun c_15 => ?_) (fun c_15 => ?_)
      · skip
        obtain ⟨x_16, ex_16⟩ : ∃ y9 : Int32, y9 = (y_1.1 0) + 1 := ⟨_, rfl⟩
        have hx_16 : rg 1 9 x_16 := by rw [ex_16]; exact rg_add h_7 (rg_c (x := 1) (k := 1) (by decide)) (by decide) (by decide) (by decide) (by decide)
        have tx_16 : x_16.toInt = (y_1.1 0).toInt + 1 := by rw [ex_16]; exact inc_tk h_7 (by decide) (by decide) (by decide)
        refine lv_iinc (v := x_16) (lv' := [(5, .int x_16), (4, .int (y_1.1 1)), (3, .int (y_1.1 2)), (0, .ref (a 14)), (1, .int p0), (2, .int p1)]) hx hb dX2_favourite_53 hl (k := 0) rfl (by rw [ex_16]; rfl) (by decide) rfl (fun ls hl => ?_)
        refine lv_goto (tgt := 8) hx hb dX2_favourite_56 (by decide) ?_
        exact ih_4 (fun k => [x_16, (y_1.1 1), (y_1.1 2)].getD k 0, fun k => [].getD k (fun _ => 0), fun k => [].getD k (fun _ => 0), fun k => [].getD k 0) _ _ ls ⟨(m_upk me_5 tx_16 (by decide)), (rg_w (c := 0) (d := 9) hx_16 (by decide) (by decide)), h_3, hP, hS, (lv_sub hl [0, 1, 2, 3, 4, 5] rfl)⟩
      · skip
        have h_17 : rg (-2147483647) 2147483647 r_14 := ⟨Int.le_trans (by decide) (c_nle c_15 (rg_any (y_1.1 1))), ((rg_any r_14)).2⟩
        have h_18 : rg (-2147483648) 2147483646 (y_1.1 1) := ⟨((rg_any (y_1.1 1))).1, Int.le_trans (c_nleR c_15 (rg_any r_14)) (by decide)⟩
        refine lv_iload hx hb dX2_favourite_41 (lv_at hl 0 rfl) ?_
        refine lv_istore_n (lv' := [(3, .int (y_1.1 0)), (5, .int (y_1.1 0)), (4, .int (y_1.1 1)), (0, .ref (a 14)), (1, .int p0), (2, .int p1)]) hx hb dX2_favourite_43 rfl hl (by decide) rfl (fun ls hl => ?_)
        refine lv_aload_n hx hb dX2_favourite_44 rfl (lv_at hl 3 rfl) ?_
        refine lv_iload_n hx hb dX2_favourite_45 rfl (lv_at hl 4 rfl) ?_
        refine lv_iload hx hb dX2_favourite_46 (lv_at hl 1 rfl) ?_
        refine y_pV hF (s_X2_zealOf l D t a v14_1 v14_2 v14_3 v14_6 v14_8 v14_9 v14_10 v14_11 v14_12 f120 p0 (y_1.1 0) r14_8 r14_9 rp0 h_7) m_787 m_789 m_s18 m_7 m_790 hd_X2_zealOf ⟨Nat.le_of_ble_eq_true rfl, Nat.le_of_ble_eq_true rfl⟩ hK hN hP hS [0, 2] rfl 0 (ci := 2) rfl rfl rfl hl.1 rfl (Nat.le_of_ble_eq_true rfl) dX2_favourite_48 ⟨Nat.zero_le _, Nat.zero_le _⟩ (fun r_19 H locs hr_19 hP hS => ?_)
        refine lv_istore (lv' := [(4, .int r_19), (3, .int (y_1.1 0)), (5, .int (y_1.1 0)), (0, .ref (a 14)), (1, .int p0), (2, .int p1)]) hx hb dX2_favourite_51 hl (by decide) rfl (fun ls hl => ?_)
        obtain ⟨x_20, ex_20⟩ : ∃ y9 : Int32, y9 = (y_1.1 0) + 1 := ⟨_, rfl⟩
        have hx_20 : rg 1 9 x_20 := by rw [ex_20]; exact rg_add h_7 (rg_c (x := 1) (k := 1) (by decide)) (by decide) (by decide) (by decide) (by decide)
        have tx_20 : x_20.toInt = (y_1.1 0).toInt + 1 := by rw [ex_20]; exact inc_tk h_7 (by decide) (by decide) (by decide)
        refine lv_iinc (v := x_20) (lv' := [(5, .int x_20), (4, .int r_19), (3, .int (y_1.1 0)), (0, .ref (a 14)), (1, .int p0), (2, .int p1)]) hx hb dX2_favourite_53 hl (k := 2) rfl (by rw [ex_20]; rfl) (by decide) rfl (fun ls hl => ?_)
        refine lv_goto (tgt := 8) hx hb dX2_favourite_56 (by decide) ?_
        exact ih_4 (fun k => [x_20, r_19, (y_1.1 0)].getD k 0, fun k => [].getD k (fun _ => 0), fun k => [].getD k (fun _ => 0), fun k => [].getD k 0) _ _ ls ⟨(m_upk me_5 tx_20 (by decide)), (rg_w (c := 0) (d := 9) hx_20 (by decide) (by decide)), (rg_w (c := (-1)) (d := 8) h_7 (by decide) (by decide)), hP, hS, (lv_sub hl [0, 1, 2, 3, 4, 5] rfl)⟩

set_option maxHeartbeats 4000000 in
set_option maxRecDepth 100000 in
theorem s_X2_leads (l : Launch) (D : va_G) (t : Nat → ClassId) (a : Nat → Nat) (v14_1 : Int32) (v14_2 : Int32) (v14_3 : Int32) (v14_6 : Int32) (v14_8 : Int32) (v14_9 : Int32) (v14_10 : Int32) (v14_11 : Int32) (v14_12 : Int32) (v40_0 : Int32) (v40_1 : Int32) (v40_2 : Int32) (v40_3 : Int32) (v40_4 : Int32) (v40_5 : Int32) (v40_6 : Int32) (v40_7 : Int32) (f42 : Nat → Int32) (f121 : Nat → Int32) (p0 : Int32) (p1 : Int32) (r14_8 : rg 0 9 v14_8) (r14_9 : rg (-1) 8 v14_9) (r40_1 : rg 0 8 v40_1) (r40_5 : rg 0 4 v40_5) (r40_6 : rg 0 9 v40_6) (r40_7 : rg 0 9 v40_7) (rp0 : rg 0 8 p0) (rp1 : rg 0 8 p1) : Met l yX2_leads (wd yX2_leads cX2_leads 3 (some .boolean)) (RM 0 0 0) (PreP D (TY t) [.ref (a 14), .int p0, .int p1] [(a 14, .inr (2, [.ref (a 40), .int v14_1, .int v14_2, .int v14_3, .ref (a 120), .ref (a 121), .int v14_6, .ref (a 122), .int v14_8, .int v14_9, .int v14_10, .int v14_11, .int v14_12])), (a 40, .inr (0, [.int v40_0, .int v40_1, .int v40_2, .int v40_3, .int v40_4, .int v40_5, .int v40_6, .int v40_7, .ref (a 41), .ref (a 42), .ref (a 43), .ref (a 44), .ref (a 45), .ref (a 46), .ref (a 47), .ref (a 48), .ref (a 49), .ref (a 50), .ref (a 54)])), (a 42, .inl (t 0, 9, .inl f42)), (a 121, .inl (t 0, 9, .inl f121))]) (QP (fun r => rg 0 1 r)) 0 0 NoF := by
  refine Met.ofW (cc := cX2_leads) (maxL := 3) (ret := (some .boolean)) (by decide) rfl ?_
  intro p e s m args below meth c s₁ B hml hv
  obtain ⟨rfl, hP, hK, hN⟩ := hv
  have hx := B.exec
  have hb := B.bytes
  have hr := B.returns
  have hts : ∀ w ∈ TB, w.before _ s = true := fun w h => atoms_spec (ws := wd yX2_leads cX2_leads 3 (some .boolean)) B.pre w (List.mem_cons_of_mem _ h)
  have hown : s.vm.findClass RX2 = some m.cls := findClass_of_methodNamed B.named
  have hlocks := B.notSynchronized
  have hF : CallFix p m c cX2_leads 3 s _ TB RX2 := ⟨hx, hb, hml, hown, hts⟩
  have hl := lv_entry ([.ref (a 14), .int p0, .int p1]) (n := 3) (Nat.le_of_ble_eq_true rfl)
  rw [lg_entry_eq]
  generalize (lg_sl ([.ref (a 14), .int p0, .int p1]) ++ List.replicate (3 - (lg_sl ([.ref (a 14), .int p0, .int p1])).length) Slot.unset).toArray = ls at hl ⊢
  have hl : lv_has ls 3 [(0, .ref (a 14)), (1, .int p0), (2, .int p1)] := hl
  have hS : va_S NoF s.heap s.heap [] := va_S.rf
  have hP : va_P D classes [(a 14, .inr (2, [.ref (a 40), .int v14_1, .int v14_2, .int v14_3, .ref (a 120), .ref (a 121), .int v14_6, .ref (a 122), .int v14_8, .int v14_9, .int v14_10, .int v14_11, .int v14_12])), (a 40, .inr (0, [.int v40_0, .int v40_1, .int v40_2, .int v40_3, .int v40_4, .int v40_5, .int v40_6, .int v40_7, .ref (a 41), .ref (a 42), .ref (a 43), .ref (a 44), .ref (a 45), .ref (a 46), .ref (a 47), .ref (a 48), .ref (a 49), .ref (a 50), .ref (a 54)])), (a 42, .inl (t 0, 9, .inl f42)), (a 121, .inl (t 0, 9, .inl f121))] s.heap := hP
  refine lv_aload_n hx hb dX2_leads_0 rfl (lv_at hl 0 rfl) ?_
  refine va_get (D := D) (ci := 2) (v := .ref (a 121)) (C := RX2) (T := TX2) (N := 13) hx hb hts iX2 hown hK hP 0 rfl rfl 5 (by decide) (hts _ m_283) (fun _ h9 => h9) rfl dX2_leads_1 ?_
  refine lv_iload_n hx hb dX2_leads_4 rfl (lv_at hl 1 rfl) ?_
  refine va_iald hx hb hK hP 3 0 rfl rfl (in_rg rp0 (by decide) (by decide)) dX2_leads_5 ?_
  refine lv_topi (fun x_1 ex_1 => ?_)
  refine lv_aload_n hx hb dX2_leads_6 rfl (lv_at hl 0 rfl) ?_
  refine va_get (D := D) (ci := 2) (v := .ref (a 121)) (C := RX2) (T := TX2) (N := 13) hx hb hts iX2 hown hK hP 0 rfl rfl 5 (by decide) (hts _ m_283) (fun _ h9 => h9) rfl dX2_leads_7 ?_
  refine lv_iload_n hx hb dX2_leads_10 rfl (lv_at hl 2 rfl) ?_
  refine va_iald hx hb hK hP 3 0 rfl rfl (in_rg rp1 (by decide) (by decide)) dX2_leads_11 ?_
  refine lv_topi (fun x_2 ex_2 => ?_)
  refine lv_icmp_eq (tgt := 36) hx hb dX2_leads_12 (by decide) (fun c_3 => ?_) (fun c_3 => ?_)
  · skip
    refine lv_aload_n hx hb dX2_leads_36 rfl (lv_at hl 0 rfl) ?_
    refine va_get (D := D) (ci := 2) (v := .ref (a 40)) (C := RX2) (T := TX2) (N := 13) hx hb hts iX2 hown hK hP 0 rfl rfl 0 (by decide) (hts _ m_275) (fun _ h9 => h9) rfl dX2_leads_37 ?_
    refine va_getN (D := D) (ci := 0) (v := .ref (a 42)) (C := RX0) (T := TX0) (N := 19) (host := "WordSeats") hx hb hts iX0 hown hK hP 1 rfl rfl 9 (by decide) (va_Nw.use rfl (hN _ n_158)) (fun _ h9 => h9) rfl dX2_leads_40 ?_
    refine lv_iload_n hx hb dX2_leads_43 rfl (lv_at hl 1 rfl) ?_
    refine va_iald hx hb hK hP 2 0 rfl rfl (in_rg rp0 (by decide) (by decide)) dX2_leads_44 ?_
    refine lv_topi (fun x_4 ex_4 => ?_)
    refine lv_aload_n hx hb dX2_leads_45 rfl (lv_at hl 0 rfl) ?_
    refine va_get (D := D) (ci := 2) (v := .ref (a 40)) (C := RX2) (T := TX2) (N := 13) hx hb hts iX2 hown hK hP 0 rfl rfl 0 (by decide) (hts _ m_275) (fun _ h9 => h9) rfl dX2_leads_46 ?_
    refine va_getN (D := D) (ci := 0) (v := .ref (a 42)) (C := RX0) (T := TX0) (N := 19) (host := "WordSeats") hx hb hts iX0 hown hK hP 1 rfl rfl 9 (by decide) (va_Nw.use rfl (hN _ n_158)) (fun _ h9 => h9) rfl dX2_leads_49 ?_
    refine lv_iload_n hx hb dX2_leads_52 rfl (lv_at hl 2 rfl) ?_
    refine va_iald hx hb hK hP 2 0 rfl rfl (in_rg rp1 (by decide) (by decide)) dX2_leads_53 ?_
    refine lv_topi (fun x_5 ex_5 => ?_)
    refine lv_icmp_eq (tgt := 84) hx hb dX2_leads_54 (by decide) (fun c_6 => ?_) (fun c_6 => ?_)
    · skip
      refine lv_iload_n hx hb dX2_leads_84 rfl (lv_at hl 1 rfl) ?_
      refine lv_iload_n hx hb dX2_leads_85 rfl (lv_at hl 2 rfl) ?_
      refine lv_icmp_ge (tgt := 93) hx hb dX2_leads_86 (by decide) (fun c_7 => ?_) (fun c_7 => ?_)
      · skip
        refine lv_iconst (v := 0) hx hb dX2_leads_93 (by decide) ?_
        exact W.zret (v := 0) hx hb hr rfl (fun t9 ht hW => ⟨⟨0, (), rfl, (rg_w (c := 0) (d := 1) (rg_c (x := 0) (k := 0) (by decide)) (by decide) (by decide)), trivial⟩, hS.F ht⟩) hS.2.2 dX2_leads_94
      · skip
        have h_8 : rg 0 7 p0 := ⟨(rp0).1, Int.le_trans (c_nleR c_7 rp1) (by decide)⟩
        have h_9 : rg 1 8 p1 := ⟨Int.le_trans (by decide) (c_nle c_7 rp0), (rp1).2⟩
        refine lv_iconst (v := 1) hx hb dX2_leads_89 (by decide) ?_
        refine lv_goto (tgt := 94) hx hb dX2_leads_90 (by decide) ?_
        exact W.zret (v := 1) hx hb hr rfl (fun t9 ht hW => ⟨⟨1, (), rfl, (rg_w (c := 0) (d := 1) (rg_c (x := 1) (k := 1) (by decide)) (by decide) (by decide)), trivial⟩, hS.F ht⟩) hS.2.2 dX2_leads_94
    · skip
      refine lv_aload_n hx hb dX2_leads_57 rfl (lv_at hl 0 rfl) ?_
      refine va_get (D := D) (ci := 2) (v := .ref (a 40)) (C := RX2) (T := TX2) (N := 13) hx hb hts iX2 hown hK hP 0 rfl rfl 0 (by decide) (hts _ m_275) (fun _ h9 => h9) rfl dX2_leads_58 ?_
      refine va_getN (D := D) (ci := 0) (v := .ref (a 42)) (C := RX0) (T := TX0) (N := 19) (host := "WordSeats") hx hb hts iX0 hown hK hP 1 rfl rfl 9 (by decide) (va_Nw.use rfl (hN _ n_158)) (fun _ h9 => h9) rfl dX2_leads_61 ?_
      refine lv_iload_n hx hb dX2_leads_64 rfl (lv_at hl 1 rfl) ?_
      refine va_iald hx hb hK hP 2 0 rfl rfl (in_rg rp0 (by decide) (by decide)) dX2_leads_65 ?_
      refine lv_topi (fun x_10 ex_10 => ?_)
      refine lv_aload_n hx hb dX2_leads_66 rfl (lv_at hl 0 rfl) ?_
      refine va_get (D := D) (ci := 2) (v := .ref (a 40)) (C := RX2) (T := TX2) (N := 13) hx hb hts iX2 hown hK hP 0 rfl rfl 0 (by decide) (hts _ m_275) (fun _ h9 => h9) rfl dX2_leads_67 ?_
      refine va_getN (D := D) (ci := 0) (v := .ref (a 42)) (C := RX0) (T := TX0) (N := 19) (host := "WordSeats") hx hb hts iX0 hown hK hP 1 rfl rfl 9 (by decide) (va_Nw.use rfl (hN _ n_158)) (fun _ h9 => h9) rfl dX2_leads_70 ?_
      refine lv_iload_n hx hb dX2_leads_73 rfl (lv_at hl 2 rfl) ?_
      refine va_iald hx hb hK hP 2 0 rfl rfl (in_rg rp1 (by decide) (by decide)) dX2_leads_74 ?_
      refine lv_topi (fun x_11 ex_11 => ?_)
      refine lv_icmp_le (tgt := 82) hx hb dX2_leads_75 (by decide) (fun c_12 => ?_) (fun c_12 => ?_)
      · skip
        refine lv_iconst (v := 0) hx hb dX2_leads_82 (by decide) ?_
        exact W.zret (v := 0) hx hb hr rfl (fun t9 ht hW => ⟨⟨0, (), rfl, (rg_w (c := 0) (d := 1) (rg_c (x := 0) (k := 0) (by decide)) (by decide) (by decide)), trivial⟩, hS.F ht⟩) hS.2.2 dX2_leads_83
      · skip
        have h_13 : rg (-2147483647) 2147483647 x_10 := ⟨Int.le_trans (by decide) (c_nle c_12 (rg_any x_11)), ((rg_any x_10)).2⟩
        have h_14 : rg (-2147483648) 2147483646 x_11 := ⟨((rg_any x_11)).1, Int.le_trans (c_nleR c_12 (rg_any x_10)) (by decide)⟩
        refine lv_iconst (v := 1) hx hb dX2_leads_78 (by decide) ?_
        refine lv_goto (tgt := 83) hx hb dX2_leads_79 (by decide) ?_
        exact W.zret (v := 1) hx hb hr rfl (fun t9 ht hW => ⟨⟨1, (), rfl, (rg_w (c := 0) (d := 1) (rg_c (x := 1) (k := 1) (by decide)) (by decide) (by decide)), trivial⟩, hS.F ht⟩) hS.2.2 dX2_leads_83
  · skip
    refine lv_aload_n hx hb dX2_leads_15 rfl (lv_at hl 0 rfl) ?_
    refine va_get (D := D) (ci := 2) (v := .ref (a 121)) (C := RX2) (T := TX2) (N := 13) hx hb hts iX2 hown hK hP 0 rfl rfl 5 (by decide) (hts _ m_283) (fun _ h9 => h9) rfl dX2_leads_16 ?_
    refine lv_iload_n hx hb dX2_leads_19 rfl (lv_at hl 1 rfl) ?_
    refine va_iald hx hb hK hP 3 0 rfl rfl (in_rg rp0 (by decide) (by decide)) dX2_leads_20 ?_
    refine lv_topi (fun x_15 ex_15 => ?_)
    refine lv_aload_n hx hb dX2_leads_21 rfl (lv_at hl 0 rfl) ?_
    refine va_get (D := D) (ci := 2) (v := .ref (a 121)) (C := RX2) (T := TX2) (N := 13) hx hb hts iX2 hown hK hP 0 rfl rfl 5 (by decide) (hts _ m_283) (fun _ h9 => h9) rfl dX2_leads_22 ?_
    refine lv_iload_n hx hb dX2_leads_25 rfl (lv_at hl 2 rfl) ?_
    refine va_iald hx hb hK hP 3 0 rfl rfl (in_rg rp1 (by decide) (by decide)) dX2_leads_26 ?_
    refine lv_topi (fun x_16 ex_16 => ?_)
    refine lv_icmp_le (tgt := 34) hx hb dX2_leads_27 (by decide) (fun c_17 => ?_) (fun c_17 => ?_)
    · skip
      refine lv_iconst (v := 0) hx hb dX2_leads_34 (by decide) ?_
      exact W.zret (v := 0) hx hb hr rfl (fun t9 ht hW => ⟨⟨0, (), rfl, (rg_w (c := 0) (d := 1) (rg_c (x := 0) (k := 0) (by decide)) (by decide) (by decide)), trivial⟩, hS.F ht⟩) hS.2.2 dX2_leads_35
    · skip
      have h_18 : rg (-2147483647) 2147483647 x_15 := ⟨Int.le_trans (by decide) (c_nle c_17 (rg_any x_16)), ((rg_any x_15)).2⟩
      have h_19 : rg (-2147483648) 2147483646 x_16 := ⟨((rg_any x_16)).1, Int.le_trans (c_nleR c_17 (rg_any x_15)) (by decide)⟩
      refine lv_iconst (v := 1) hx hb dX2_leads_30 (by decide) ?_
      refine lv_goto (tgt := 35) hx hb dX2_leads_31 (by decide) ?_
      exact W.zret (v := 1) hx hb hr rfl (fun t9 ht hW => ⟨⟨1, (), rfl, (rg_w (c := 0) (d := 1) (rg_c (x := 1) (k := 1) (by decide)) (by decide) (by decide)), trivial⟩, hS.F ht⟩) hS.2.2 dX2_leads_35

set_option maxHeartbeats 4000000 in
set_option maxRecDepth 100000 in
theorem s_X2_leader (l : Launch) (D : va_G) (t : Nat → ClassId) (a : Nat → Nat) (v14_1 : Int32) (v14_2 : Int32) (v14_3 : Int32) (v14_6 : Int32) (v14_8 : Int32) (v14_9 : Int32) (v14_10 : Int32) (v14_11 : Int32) (v14_12 : Int32) (v40_0 : Int32) (v40_1 : Int32) (v40_2 : Int32) (v40_3 : Int32) (v40_4 : Int32) (v40_5 : Int32) (v40_6 : Int32) (v40_7 : Int32) (f42 : Nat → Int32) (f121 : Nat → Int32) (p0 : Int32) (r14_8 : rg 0 9 v14_8) (r14_9 : rg (-1) 8 v14_9) (r40_1 : rg 0 8 v40_1) (r40_5 : rg 0 4 v40_5) (r40_6 : rg 0 9 v40_6) (r40_7 : rg 0 9 v40_7) : Met l yX2_leader (wd yX2_leader cX2_leader 4 (some .int)) (RM 1 0 0) (PreP D (TY t) [.ref (a 14), .int p0] [(a 14, .inr (2, [.ref (a 40), .int v14_1, .int v14_2, .int v14_3, .ref (a 120), .ref (a 121), .int v14_6, .ref (a 122), .int v14_8, .int v14_9, .int v14_10, .int v14_11, .int v14_12])), (a 40, .inr (0, [.int v40_0, .int v40_1, .int v40_2, .int v40_3, .int v40_4, .int v40_5, .int v40_6, .int v40_7, .ref (a 41), .ref (a 42), .ref (a 43), .ref (a 44), .ref (a 45), .ref (a 46), .ref (a 47), .ref (a 48), .ref (a 49), .ref (a 50), .ref (a 54)])), (a 42, .inl (t 0, 9, .inl f42)), (a 121, .inl (t 0, 9, .inl f121))]) (QP (fun r => rg (-1) 8 r ∧ (0 ≤ r.toInt ∨ nob p0 v40_6.toInt))) 0 0 NoF := by
  refine Met.ofW (cc := cX2_leader) (maxL := 4) (ret := (some .int)) (by decide) rfl ?_
  intro p e s m args below meth c s₁ B hml hv
  obtain ⟨rfl, hP, hK, hN⟩ := hv
  have hx := B.exec
  have hb := B.bytes
  have hr := B.returns
  have hts : ∀ w ∈ TB, w.before _ s = true := fun w h => atoms_spec (ws := wd yX2_leader cX2_leader 4 (some .int)) B.pre w (List.mem_cons_of_mem _ h)
  have hown : s.vm.findClass RX2 = some m.cls := findClass_of_methodNamed B.named
  have hlocks := B.notSynchronized
  have hF : CallFix p m c cX2_leader 4 s _ TB RX2 := ⟨hx, hb, hml, hown, hts⟩
  have hl := lv_entry ([.ref (a 14), .int p0]) (n := 4) (Nat.le_of_ble_eq_true rfl)
  rw [lg_entry_eq]
  generalize (lg_sl ([.ref (a 14), .int p0]) ++ List.replicate (4 - (lg_sl ([.ref (a 14), .int p0])).length) Slot.unset).toArray = ls at hl ⊢
  have hl : lv_has ls 4 [(0, .ref (a 14)), (1, .int p0)] := hl
  have hS : va_S NoF s.heap s.heap [] := va_S.rf
  have hP : va_P D classes [(a 14, .inr (2, [.ref (a 40), .int v14_1, .int v14_2, .int v14_3, .ref (a 120), .ref (a 121), .int v14_6, .ref (a 122), .int v14_8, .int v14_9, .int v14_10, .int v14_11, .int v14_12])), (a 40, .inr (0, [.int v40_0, .int v40_1, .int v40_2, .int v40_3, .int v40_4, .int v40_5, .int v40_6, .int v40_7, .ref (a 41), .ref (a 42), .ref (a 43), .ref (a 44), .ref (a 45), .ref (a 46), .ref (a 47), .ref (a 48), .ref (a 49), .ref (a 50), .ref (a 54)])), (a 42, .inl (t 0, 9, .inl f42)), (a 121, .inl (t 0, 9, .inl f121))] s.heap := hP
  refine lv_iconst (v := (-1)) hx hb dX2_leader_0 (by decide) ?_
  refine lv_istore_n (lv' := [(2, .int (-1)), (0, .ref (a 14)), (1, .int p0)]) hx hb dX2_leader_1 rfl hl (by decide) rfl (fun ls hl => ?_)
  refine lv_iconst (v := 0) hx hb dX2_leader_2 (by decide) ?_
  refine lv_istore_n (lv' := [(3, .int 0), (2, .int (-1)), (0, .ref (a 14)), (1, .int p0)]) hx hb dX2_leader_3 rfl hl (by decide) rfl (fun ls hl => ?_)
  refine loopW (α := US) (fun n y_1 H locs ls => 9 < (y_1.1 0).toInt + (n : Int) ∧ rg 0 9 (y_1.1 0) ∧ rg (-1) 8 (y_1.1 1) ∧ (0 ≤ (y_1.1 1).toInt ∨ nob p0 (y_1.1 0).toInt) ∧ va_P D classes [(a 14, .inr (2, [.ref (a 40), .int v14_1, .int v14_2, .int v14_3, .ref (a 120), .ref (a 121), .int v14_6, .ref (a 122), .int v14_8, .int v14_9, .int v14_10, .int v14_11, .int v14_12])), (a 40, .inr (0, [.int v40_0, .int v40_1, .int v40_2, .int v40_3, .int v40_4, .int v40_5, .int v40_6, .int v40_7, .ref (a 41), .ref (a 42), .ref (a 43), .ref (a 44), .ref (a 45), .ref (a 46), .ref (a 47), .ref (a 48), .ref (a 49), .ref (a 50), .ref (a 54)])), (a 42, .inl (t 0, 9, .inl f42)), (a 121, .inl (t 0, 9, .inl f121))] H ∧ va_S NoF s.heap H locs ∧ lv_has ls 4 [(3, .int (y_1.1 0)), (2, .int (y_1.1 1)), (0, .ref (a 14)), (1, .int p0)]) 4 (fun y_1 => []) (fun _ _ _ _ h9 => m_0 h9.1 h9.2.1) (fun n ih_5 y_1 H locs ls hI => ?_) 10 (fun k => [0, (-1)].getD k 0, fun k => [].getD k (fun _ => 0), fun k => [].getD k (fun _ => 0), fun k => [].getD k 0) ⟨(m_i (rg_c (x := 0) (k := 0) (by decide)) (by decide)), (rg_w (c := 0) (d := 9) (rg_c (x := 0) (k := 0) (by decide)) (by decide) (by decide)), (rg_w (c := (-1)) (d := 8) (rg_c (x := (-1)) (k := (-1)) (by decide)) (by decide) (by decide)), (show 0 ≤ ((-1) : Int32).toInt ∨ nob p0 (0 : Int32).toInt from (Or.inr nob_0)), hP, hS, (lv_sub hl [0, 1, 2, 3] rfl)⟩
  obtain ⟨me_6, h_2, h_3, i_4, hP, hS, hl⟩ := hI
  refine lv_iload_n hx hb dX2_leader_4 rfl (lv_at hl 0 rfl) ?_
  refine lv_aload_n hx hb dX2_leader_5 rfl (lv_at hl 2 rfl) ?_
  refine va_get (D := D) (ci := 2) (v := .ref (a 40)) (C := RX2) (T := TX2) (N := 13) hx hb hts iX2 hown hK hP 0 rfl rfl 0 (by decide) (hts _ m_275) (fun _ h9 => h9) rfl dX2_leader_6 ?_
  refine va_getN (D := D) (ci := 0) (v := .int v40_6) (C := RX0) (T := TX0) (N := 19) (host := "WordSeats") hx hb hts iX0 hown hK hP 1 rfl rfl 6 (by decide) (va_Nw.use rfl (hN _ n_144)) (fun _ h9 => h9) rfl dX2_leader_9 ?_
  refine lv_icmp_ge (tgt := 45) hx hb dX2_leader_12 (by decide) (fun c_7 => ?_) (fun c_7 => ?_)
  · skip
    have tc_7 := t_le c_7
    refine lv_iload_n hx hb dX2_leader_45 rfl (lv_at hl 1 rfl) ?_
    exact W.iret (v := (y_1.1 1)) hx hb hr (fun t9 ht hW => ⟨⟨(y_1.1 1), (), rfl, ⟨h_3, (i_4.imp_right (fun z9 k9 a9 b9 => z9 k9 a9 (by omega)))⟩, trivial⟩, hS.F ht⟩) hS.2.2 dX2_leader_46
  · skip
    have tc_7 := t_nle c_7
    have h_8 : rg 0 8 (y_1.1 0) := ⟨(h_2).1, Int.le_trans (c_nleR c_7 r40_6) (by decide)⟩
    have h_9 : rg 1 9 v40_6 := ⟨Int.le_trans (by decide) (c_nle c_7 h_2), (r40_6).2⟩
    refine lv_iload_n hx hb dX2_leader_15 rfl (lv_at hl 3 rfl) ?_
    refine lv_iload_n hx hb dX2_leader_16 rfl (lv_at hl 0 rfl) ?_
    refine y_pSN hF (s_X11_holdsV l D t a p0 (y_1.1 0)) n_771 m_707 m_1 m_708 hd_X11_holds ⟨Nat.le_of_ble_eq_true rfl, Nat.le_of_ble_eq_true rfl⟩ hK hN hP hS [] rfl hl.1 rfl (Nat.le_of_ble_eq_true rfl) dX2_leader_17 ⟨Nat.zero_le _, Nat.zero_le _⟩ (fun r_10 H locs hr_10 hP hS => ?_)
    have or_10 := hr_10.2
    refine lv_if_eq (tgt := 39) hx hb dX2_leader_20 (by decide) (fun c_11 => ?_) (fun c_11 => ?_)
    · skip
      have zc_12 : (0 : Int32).toInt = 0 := rfl
      have tc_11 : (r_10 : Int32).toInt = (0 : Int32).toInt := congrArg Int32.toInt (by first | exact c_11 | exact Classical.not_not.mp c_11)
      have h_13 : rg 0 0 r_10 := rg_eq c_11 (rg_c (x := 0) (k := 0) (by decide))
      obtain ⟨x_14, ex_14⟩ : ∃ y9 : Int32, y9 = (y_1.1 0) + 1 := ⟨_, rfl⟩
      have hx_14 : rg 1 9 x_14 := by rw [ex_14]; exact rg_add h_8 (rg_c (x := 1) (k := 1) (by decide)) (by decide) (by decide) (by decide) (by decide)
      have tx_14 : x_14.toInt = (y_1.1 0).toInt + 1 := by rw [ex_14]; exact inc_tk h_8 (by decide) (by decide) (by decide)
      refine lv_iinc (v := x_14) (lv' := [(3, .int x_14), (2, .int (y_1.1 1)), (0, .ref (a 14)), (1, .int p0)]) hx hb dX2_leader_39 hl (k := 0) rfl (by rw [ex_14]; rfl) (by decide) rfl (fun ls hl => ?_)
      refine lv_goto (tgt := 4) hx hb dX2_leader_42 (by decide) ?_
      exact ih_5 (fun k => [x_14, (y_1.1 1)].getD k 0, fun k => [].getD k (fun _ => 0), fun k => [].getD k (fun _ => 0), fun k => [].getD k 0) _ _ ls ⟨(m_upk me_6 tx_14 (by decide)), (rg_w (c := 0) (d := 9) hx_14 (by decide) (by decide)), h_3, (show 0 ≤ (y_1.1 1).toInt ∨ nob p0 x_14.toInt from (i_4.imp_right (fun z9 => nob_s z9 tx_14 or_10 tc_11))), hP, hS, (lv_sub hl [0, 1, 2, 3] rfl)⟩
    · skip
      have zc_15 : (0 : Int32).toInt = 0 := rfl
      have tc_11 : ¬ (r_10 : Int32).toInt = (0 : Int32).toInt := fun z9 => c_11 (Int32.toInt_inj.mp z9)
      have h_16 : rg 1 1 r_10 := rg_w (rg_neL hr_10.1 c_11 (by decide)) (by decide) (by decide)
      refine lv_iload_n hx hb dX2_leader_23 rfl (lv_at hl 1 rfl) ?_
      refine lv_iconst (v := (-1)) hx hb dX2_leader_24 (by decide) ?_
      refine lv_icmp_eq (tgt := 37) hx hb dX2_leader_25 (by decide) (fun c_17 => ?_) (fun c_17 => ?_)
      · skip
        have zc_18 : ((-1) : Int32).toInt = (-1) := by decide
        have tc_17 : ((y_1.1 1) : Int32).toInt = ((-1) : Int32).toInt := congrArg Int32.toInt (by first | exact c_17 | exact Classical.not_not.mp c_17)
        have h_19 : rg (-1) (-1) (y_1.1 1) := rg_eq c_17 (rg_c (x := (-1)) (k := (-1)) (by decide))
        refine lv_iload_n hx hb dX2_leader_37 rfl (lv_at hl 0 rfl) ?_
        refine lv_istore_n (lv' := [(2, .int (y_1.1 0)), (3, .int (y_1.1 0)), (0, .ref (a 14)), (1, .int p0)]) hx hb dX2_leader_38 rfl hl (by decide) rfl (fun ls hl => ?_)
        obtain ⟨x_20, ex_20⟩ : ∃ y9 : Int32, y9 = (y_1.1 0) + 1 := ⟨_, rfl⟩
        have hx_20 : rg 1 9 x_20 := by rw [ex_20]; exact rg_add h_8 (rg_c (x := 1) (k := 1) (by decide)) (by decide) (by decide) (by decide) (by decide)
        have tx_20 : x_20.toInt = (y_1.1 0).toInt + 1 := by rw [ex_20]; exact inc_tk h_8 (by decide) (by decide) (by decide)
        refine lv_iinc (v := x_20) (lv' := [(3, .int x_20), (2, .int (y_1.1 0)), (0, .ref (a 14)), (1, .int p0)]) hx hb dX2_leader_39 hl (k := 1) rfl (by rw [ex_20]; rfl) (by decide) rfl (fun ls hl => ?_)
        refine lv_goto (tgt := 4) hx hb dX2_leader_42 (by decide) ?_
        exact ih_5 (fun k => [x_20, (y_1.1 0)].getD k 0, fun k => [].getD k (fun _ => 0), fun k => [].getD k (fun _ => 0), fun k => [].getD k 0) _ _ ls ⟨(m_upk me_6 tx_20 (by decide)), (rg_w (c := 0) (d := 9) hx_20 (by decide) (by decide)), (rg_w (c := (-1)) (d := 8) h_8 (by decide) (by decide)), (show 0 ≤ (y_1.1 0).toInt ∨ nob p0 x_20.toInt from (Or.inl (h_8).1)), hP, hS, (lv_sub hl [0, 1, 2, 3] rfl)⟩
      · skip
        have zc_21 : ((-1) : Int32).toInt = (-1) := by decide
        have tc_17 : ¬ ((y_1.1 1) : Int32).toInt = ((-1) : Int32).toInt := fun z9 => c_17 (Int32.toInt_inj.mp z9)
        have h_22 : rg 0 8 (y_1.1 1) := rg_w (rg_neL h_3 c_17 (by decide)) (by decide) (by decide)
        refine lv_aload_n hx hb dX2_leader_28 rfl (lv_at hl 2 rfl) ?_
        refine lv_iload_n hx hb dX2_leader_29 rfl (lv_at hl 0 rfl) ?_
        refine lv_iload_n hx hb dX2_leader_30 rfl (lv_at hl 1 rfl) ?_
        refine y_pV hF (s_X2_leads l D t a v14_1 v14_2 v14_3 v14_6 v14_8 v14_9 v14_10 v14_11 v14_12 v40_0 v40_1 v40_2 v40_3 v40_4 v40_5 v40_6 v40_7 f42 f121 (y_1.1 0) (y_1.1 1) r14_8 r14_9 r40_1 r40_5 (rg_w (c := 0) (d := 9) h_9 (by decide) (by decide)) r40_7 h_8 h_22) m_824 m_826 m_s21 m_7 m_827 hd_X2_leads ⟨Nat.le_of_ble_eq_true rfl, Nat.le_of_ble_eq_true rfl⟩ hK hN hP hS [0, 1, 2, 3] rfl 0 (ci := 2) rfl rfl rfl hl.1 rfl (Nat.le_of_ble_eq_true rfl) dX2_leader_31 ⟨Nat.zero_le _, Nat.zero_le _⟩ (fun r_23 H locs hr_23 hP hS => ?_)
        refine lv_if_eq (tgt := 39) hx hb dX2_leader_34 (by decide) (fun c_24 => ?_) (fun c_24 => ?_)
        · skip
          have zc_25 : (0 : Int32).toInt = 0 := rfl
          have tc_24 : (r_23 : Int32).toInt = (0 : Int32).toInt := congrArg Int32.toInt (by first | exact c_24 | exact Classical.not_not.mp c_24)
          have h_26 : rg 0 0 r_23 := rg_eq c_24 (rg_c (x := 0) (k := 0) (by decide))
          obtain ⟨x_27, ex_27⟩ : ∃ y9 : Int32, y9 = (y_1.1 0) + 1 := ⟨_, rfl⟩
          have hx_27 : rg 1 9 x_27 := by rw [ex_27]; exact rg_add h_8 (rg_c (x := 1) (k := 1) (by decide)) (by decide) (by decide) (by decide) (by decide)
          have tx_27 : x_27.toInt = (y_1.1 0).toInt + 1 := by rw [ex_27]; exact inc_tk h_8 (by decide) (by decide) (by decide)
          refine lv_iinc (v := x_27) (lv' := [(3, .int x_27), (2, .int (y_1.1 1)), (0, .ref (a 14)), (1, .int p0)]) hx hb dX2_leader_39 hl (k := 0) rfl (by rw [ex_27]; rfl) (by decide) rfl (fun ls hl => ?_)
          refine lv_goto (tgt := 4) hx hb dX2_leader_42 (by decide) ?_
          exact ih_5 (fun k => [x_27, (y_1.1 1)].getD k 0, fun k => [].getD k (fun _ => 0), fun k => [].getD k (fun _ => 0), fun k => [].getD k 0) _ _ ls ⟨(m_upk me_6 tx_27 (by decide)), (rg_w (c := 0) (d := 9) hx_27 (by decide) (by decide)), (rg_w (c := (-1)) (d := 8) h_22 (by decide) (by decide)), (show 0 ≤ (y_1.1 1).toInt ∨ nob p0 x_27.toInt from (Or.inl (h_22).1)), hP, hS, (lv_sub hl [0, 1, 2, 3] rfl)⟩
        · skip
          have zc_28 : (0 : Int32).toInt = 0 := rfl
          have tc_24 : ¬ (r_23 : Int32).toInt = (0 : Int32).toInt := fun z9 => c_24 (Int32.toInt_inj.mp z9)
          have h_29 : rg 1 1 r_23 := rg_w (rg_neL hr_23 c_24 (by decide)) (by decide) (by decide)
          refine lv_iload_n hx hb dX2_leader_37 rfl (lv_at hl 0 rfl) ?_
          refine lv_istore_n (lv' := [(2, .int (y_1.1 0)), (3, .int (y_1.1 0)), (0, .ref (a 14)), (1, .int p0)]) hx hb dX2_leader_38 rfl hl (by decide) rfl (fun ls hl => ?_)
          obtain ⟨x_30, ex_30⟩ : ∃ y9 : Int32, y9 = (y_1.1 0) + 1 := ⟨_, rfl⟩
          have hx_30 : rg 1 9 x_30 := by rw [ex_30]; exact rg_add h_8 (rg_c (x := 1) (k := 1) (by decide)) (by decide) (by decide) (by decide) (by decide)
          have tx_30 : x_30.toInt = (y_1.1 0).toInt + 1 := by rw [ex_30]; exact inc_tk h_8 (by decide) (by decide) (by decide)
          refine lv_iinc (v := x_30) (lv' := [(3, .int x_30), (2, .int (y_1.1 0)), (0, .ref (a 14)), (1, .int p0)]) hx hb dX2_leader_39 hl (k := 1) rfl (by rw [ex_30]; rfl) (by decide) rfl (fun ls hl => ?_)
          refine lv_goto (tgt := 4) hx hb dX2_leader_42 (by decide) ?_
          exact ih_5 (fun k => [x_30, (y_1.1 0)].getD k 0, fun k => [].getD k (fun _ => 0), fun k => [].getD k (fun _ => 0), fun k => [].getD k 0) _ _ ls ⟨(m_upk me_6 tx_30 (by decide)), (rg_w (c := 0) (d := 9) hx_30 (by decide) (by decide)), (rg_w (c := (-1)) (d := 8) h_8 (by decide) (by decide)), (show 0 ≤ (y_1.1 0).toInt ∨ nob p0 x_30.toInt from (Or.inl (h_8).1)), hP, hS, (lv_sub hl [0, 1, 2, 3] rfl)⟩

set_option maxHeartbeats 4000000 in
set_option maxRecDepth 100000 in
theorem s_X2_trailer (l : Launch) (D : va_G) (t : Nat → ClassId) (a : Nat → Nat) (v14_1 : Int32) (v14_2 : Int32) (v14_3 : Int32) (v14_6 : Int32) (v14_8 : Int32) (v14_9 : Int32) (v14_10 : Int32) (v14_11 : Int32) (v14_12 : Int32) (v40_0 : Int32) (v40_1 : Int32) (v40_2 : Int32) (v40_3 : Int32) (v40_4 : Int32) (v40_5 : Int32) (v40_6 : Int32) (v40_7 : Int32) (f42 : Nat → Int32) (f121 : Nat → Int32) (p0 : Int32) (r14_8 : rg 0 9 v14_8) (r14_9 : rg (-1) 8 v14_9) (r40_1 : rg 0 8 v40_1) (r40_5 : rg 0 4 v40_5) (r40_6 : rg 0 9 v40_6) (r40_7 : rg 0 9 v40_7) : Met l yX2_trailer (wd yX2_trailer cX2_trailer 4 (some .int)) (RM 1 0 0) (PreP D (TY t) [.ref (a 14), .int p0] [(a 14, .inr (2, [.ref (a 40), .int v14_1, .int v14_2, .int v14_3, .ref (a 120), .ref (a 121), .int v14_6, .ref (a 122), .int v14_8, .int v14_9, .int v14_10, .int v14_11, .int v14_12])), (a 40, .inr (0, [.int v40_0, .int v40_1, .int v40_2, .int v40_3, .int v40_4, .int v40_5, .int v40_6, .int v40_7, .ref (a 41), .ref (a 42), .ref (a 43), .ref (a 44), .ref (a 45), .ref (a 46), .ref (a 47), .ref (a 48), .ref (a 49), .ref (a 50), .ref (a 54)])), (a 42, .inl (t 0, 9, .inl f42)), (a 121, .inl (t 0, 9, .inl f121))]) (QP (fun r => rg (-1) 8 r)) 0 0 NoF := by
  refine Met.ofW (cc := cX2_trailer) (maxL := 4) (ret := (some .int)) (by decide) rfl ?_
  intro p e s m args below meth c s₁ B hml hv
  obtain ⟨rfl, hP, hK, hN⟩ := hv
  have hx := B.exec
  have hb := B.bytes
  have hr := B.returns
  have hts : ∀ w ∈ TB, w.before _ s = true := fun w h => atoms_spec (ws := wd yX2_trailer cX2_trailer 4 (some .int)) B.pre w (List.mem_cons_of_mem _ h)
  have hown : s.vm.findClass RX2 = some m.cls := findClass_of_methodNamed B.named
  have hlocks := B.notSynchronized
  have hF : CallFix p m c cX2_trailer 4 s _ TB RX2 := ⟨hx, hb, hml, hown, hts⟩
  have hl := lv_entry ([.ref (a 14), .int p0]) (n := 4) (Nat.le_of_ble_eq_true rfl)
  rw [lg_entry_eq]
  generalize (lg_sl ([.ref (a 14), .int p0]) ++ List.replicate (4 - (lg_sl ([.ref (a 14), .int p0])).length) Slot.unset).toArray = ls at hl ⊢
  have hl : lv_has ls 4 [(0, .ref (a 14)), (1, .int p0)] := hl
  have hS : va_S NoF s.heap s.heap [] := va_S.rf
  have hP : va_P D classes [(a 14, .inr (2, [.ref (a 40), .int v14_1, .int v14_2, .int v14_3, .ref (a 120), .ref (a 121), .int v14_6, .ref (a 122), .int v14_8, .int v14_9, .int v14_10, .int v14_11, .int v14_12])), (a 40, .inr (0, [.int v40_0, .int v40_1, .int v40_2, .int v40_3, .int v40_4, .int v40_5, .int v40_6, .int v40_7, .ref (a 41), .ref (a 42), .ref (a 43), .ref (a 44), .ref (a 45), .ref (a 46), .ref (a 47), .ref (a 48), .ref (a 49), .ref (a 50), .ref (a 54)])), (a 42, .inl (t 0, 9, .inl f42)), (a 121, .inl (t 0, 9, .inl f121))] s.heap := hP
  refine lv_iconst (v := (-1)) hx hb dX2_trailer_0 (by decide) ?_
  refine lv_istore_n (lv' := [(2, .int (-1)), (0, .ref (a 14)), (1, .int p0)]) hx hb dX2_trailer_1 rfl hl (by decide) rfl (fun ls hl => ?_)
  refine lv_iconst (v := 0) hx hb dX2_trailer_2 (by decide) ?_
  refine lv_istore_n (lv' := [(3, .int 0), (2, .int (-1)), (0, .ref (a 14)), (1, .int p0)]) hx hb dX2_trailer_3 rfl hl (by decide) rfl (fun ls hl => ?_)
  refine loopW (α := US) (fun n y_1 H locs ls => 9 < (y_1.1 0).toInt + (n : Int) ∧ rg 0 9 (y_1.1 0) ∧ rg (-1) 8 (y_1.1 1) ∧ va_P D classes [(a 14, .inr (2, [.ref (a 40), .int v14_1, .int v14_2, .int v14_3, .ref (a 120), .ref (a 121), .int v14_6, .ref (a 122), .int v14_8, .int v14_9, .int v14_10, .int v14_11, .int v14_12])), (a 40, .inr (0, [.int v40_0, .int v40_1, .int v40_2, .int v40_3, .int v40_4, .int v40_5, .int v40_6, .int v40_7, .ref (a 41), .ref (a 42), .ref (a 43), .ref (a 44), .ref (a 45), .ref (a 46), .ref (a 47), .ref (a 48), .ref (a 49), .ref (a 50), .ref (a 54)])), (a 42, .inl (t 0, 9, .inl f42)), (a 121, .inl (t 0, 9, .inl f121))] H ∧ va_S NoF s.heap H locs ∧ lv_has ls 4 [(3, .int (y_1.1 0)), (2, .int (y_1.1 1)), (0, .ref (a 14)), (1, .int p0)]) 4 (fun y_1 => []) (fun _ _ _ _ h9 => m_0 h9.1 h9.2.1) (fun n ih_4 y_1 H locs ls hI => ?_) 10 (fun k => [0, (-1)].getD k 0, fun k => [].getD k (fun _ => 0), fun k => [].getD k (fun _ => 0), fun k => [].getD k 0) ⟨(m_i (rg_c (x := 0) (k := 0) (by decide)) (by decide)), (rg_w (c := 0) (d := 9) (rg_c (x := 0) (k := 0) (by decide)) (by decide) (by decide)), (rg_w (c := (-1)) (d := 8) (rg_c (x := (-1)) (k := (-1)) (by decide)) (by decide) (by decide)), hP, hS, (lv_sub hl [0, 1, 2, 3] rfl)⟩
  obtain ⟨me_5, h_2, h_3, hP, hS, hl⟩ := hI
  refine lv_iload_n hx hb dX2_trailer_4 rfl (lv_at hl 0 rfl) ?_
  refine lv_aload_n hx hb dX2_trailer_5 rfl (lv_at hl 2 rfl) ?_
  refine va_get (D := D) (ci := 2) (v := .ref (a 40)) (C := RX2) (T := TX2) (N := 13) hx hb hts iX2 hown hK hP 0 rfl rfl 0 (by decide) (hts _ m_275) (fun _ h9 => h9) rfl dX2_trailer_6 ?_
  refine va_getN (D := D) (ci := 0) (v := .int v40_6) (C := RX0) (T := TX0) (N := 19) (host := "WordSeats") hx hb hts iX0 hown hK hP 1 rfl rfl 6 (by decide) (va_Nw.use rfl (hN _ n_144)) (fun _ h9 => h9) rfl dX2_trailer_9 ?_
  refine lv_icmp_ge (tgt := 45) hx hb dX2_trailer_12 (by decide) (fun c_6 => ?_) (fun c_6 => ?_)
  · skip
    refine lv_iload_n hx hb dX2_trailer_45 rfl (lv_at hl 1 rfl) ?_
    exact W.iret (v := (y_1.1 1)) hx hb hr (fun t9 ht hW => ⟨⟨(y_1.1 1), (), rfl, h_3, trivial⟩, hS.F ht⟩) hS.2.2 dX2_trailer_46
  · skip
    have h_7 : rg 0 8 (y_1.1 0) := ⟨(h_2).1, Int.le_trans (c_nleR c_6 r40_6) (by decide)⟩
    have h_8 : rg 1 9 v40_6 := ⟨Int.le_trans (by decide) (c_nle c_6 h_2), (r40_6).2⟩
    refine lv_iload_n hx hb dX2_trailer_15 rfl (lv_at hl 3 rfl) ?_
    refine lv_iload_n hx hb dX2_trailer_16 rfl (lv_at hl 0 rfl) ?_
    refine y_pSN hF (s_X11_holds l D t a p0 (y_1.1 0)) n_771 m_707 m_1 m_708 hd_X11_holds ⟨Nat.le_of_ble_eq_true rfl, Nat.le_of_ble_eq_true rfl⟩ hK hN hP hS [] rfl hl.1 rfl (Nat.le_of_ble_eq_true rfl) dX2_trailer_17 ⟨Nat.zero_le _, Nat.zero_le _⟩ (fun r_9 H locs hr_9 hP hS => ?_)
    refine lv_if_eq (tgt := 39) hx hb dX2_trailer_20 (by decide) (fun c_10 => ?_) (fun c_10 => ?_)
    · skip
      have h_11 : rg 0 0 r_9 := rg_eq c_10 (rg_c (x := 0) (k := 0) (by decide))
      obtain ⟨x_12, ex_12⟩ : ∃ y9 : Int32, y9 = (y_1.1 0) + 1 := ⟨_, rfl⟩
      have hx_12 : rg 1 9 x_12 := by rw [ex_12]; exact rg_add h_7 (rg_c (x := 1) (k := 1) (by decide)) (by decide) (by decide) (by decide) (by decide)
      have tx_12 : x_12.toInt = (y_1.1 0).toInt + 1 := by rw [ex_12]; exact inc_tk h_7 (by decide) (by decide) (by decide)
      refine lv_iinc (v := x_12) (lv' := [(3, .int x_12), (2, .int (y_1.1 1)), (0, .ref (a 14)), (1, .int p0)]) hx hb dX2_trailer_39 hl (k := 0) rfl (by rw [ex_12]; rfl) (by decide) rfl (fun ls hl => ?_)
      refine lv_goto (tgt := 4) hx hb dX2_trailer_42 (by decide) ?_
      exact ih_4 (fun k => [x_12, (y_1.1 1)].getD k 0, fun k => [].getD k (fun _ => 0), fun k => [].getD k (fun _ => 0), fun k => [].getD k 0) _ _ ls ⟨(m_upk me_5 tx_12 (by decide)), (rg_w (c := 0) (d := 9) hx_12 (by decide) (by decide)), h_3, hP, hS, (lv_sub hl [0, 1, 2, 3] rfl)⟩
    · skip
      have h_13 : rg 1 1 r_9 := rg_w (rg_neL hr_9 c_10 (by decide)) (by decide) (by decide)
      refine lv_iload_n hx hb dX2_trailer_23 rfl (lv_at hl 1 rfl) ?_
      refine lv_iconst (v := (-1)) hx hb dX2_trailer_24 (by decide) ?_
      refine lv_icmp_eq (tgt := 37) hx hb dX2_trailer_25 (by decide) (fun c_14 => ?_) (fun c_14 => ?_)
      · skip
        have h_15 : rg (-1) (-1) (y_1.1 1) := rg_eq c_14 (rg_c (x := (-1)) (k := (-1)) (by decide))
        refine lv_iload_n hx hb dX2_trailer_37 rfl (lv_at hl 0 rfl) ?_
        refine lv_istore_n (lv' := [(2, .int (y_1.1 0)), (3, .int (y_1.1 0)), (0, .ref (a 14)), (1, .int p0)]) hx hb dX2_trailer_38 rfl hl (by decide) rfl (fun ls hl => ?_)
        obtain ⟨x_16, ex_16⟩ : ∃ y9 : Int32, y9 = (y_1.1 0) + 1 := ⟨_, rfl⟩
        have hx_16 : rg 1 9 x_16 := by rw [ex_16]; exact rg_add h_7 (rg_c (x := 1) (k := 1) (by decide)) (by decide) (by decide) (by decide) (by decide)
        have tx_16 : x_16.toInt = (y_1.1 0).toInt + 1 := by rw [ex_16]; exact inc_tk h_7 (by decide) (by decide) (by decide)
        refine lv_iinc (v := x_16) (lv' := [(3, .int x_16), (2, .int (y_1.1 0)), (0, .ref (a 14)), (1, .int p0)]) hx hb dX2_trailer_39 hl (k := 1) rfl (by rw [ex_16]; rfl) (by decide) rfl (fun ls hl => ?_)
        refine lv_goto (tgt := 4) hx hb dX2_trailer_42 (by decide) ?_
        exact ih_4 (fun k => [x_16, (y_1.1 0)].getD k 0, fun k => [].getD k (fun _ => 0), fun k => [].getD k (fun _ => 0), fun k => [].getD k 0) _ _ ls ⟨(m_upk me_5 tx_16 (by decide)), (rg_w (c := 0) (d := 9) hx_16 (by decide) (by decide)), (rg_w (c := (-1)) (d := 8) h_7 (by decide) (by decide)), hP, hS, (lv_sub hl [0, 1, 2, 3] rfl)⟩
      · skip
        have h_17 : rg 0 8 (y_1.1 1) := rg_w (rg_neL h_3 c_14 (by decide)) (by decide) (by decide)
        refine lv_aload_n hx hb dX2_trailer_28 rfl (lv_at hl 2 rfl) ?_
        refine lv_iload_n hx hb dX2_trailer_29 rfl (lv_at hl 1 rfl) ?_
        refine lv_iload_n hx hb dX2_trailer_30 rfl (lv_at hl 0 rfl) ?_
        refine y_pV hF (s_X2_leads l D t a v14_1 v14_2 v14_3 v14_6 v14_8 v14_9 v14_10 v14_11 v14_12 v40_0 v40_1 v40_2 v40_3 v40_4 v40_5 v40_6 v40_7 f42 f121 (y_1.1 1) (y_1.1 0) r14_8 r14_9 r40_1 r40_5 (rg_w (c := 0) (d := 9) h_8 (by decide) (by decide)) r40_7 h_17 h_7) m_824 m_826 m_s21 m_7 m_827 hd_X2_leads ⟨Nat.le_of_ble_eq_true rfl, Nat.le_of_ble_eq_true rfl⟩ hK hN hP hS [0, 1, 2, 3] rfl 0 (ci := 2) rfl rfl rfl hl.1 rfl (Nat.le_of_ble_eq_true rfl) dX2_trailer_31 ⟨Nat.zero_le _, Nat.zero_le _⟩ (fun r_18 H locs hr_18 hP hS => ?_)
        refine lv_if_eq (tgt := 39) hx hb dX2_trailer_34 (by decide) (fun c_19 => ?_) (fun c_19 => ?_)
        · skip
          have h_20 : rg 0 0 r_18 := rg_eq c_19 (rg_c (x := 0) (k := 0) (by decide))
          obtain ⟨x_21, ex_21⟩ : ∃ y9 : Int32, y9 = (y_1.1 0) + 1 := ⟨_, rfl⟩
          have hx_21 : rg 1 9 x_21 := by rw [ex_21]; exact rg_add h_7 (rg_c (x := 1) (k := 1) (by decide)) (by decide) (by decide) (by decide) (by decide)
          have tx_21 : x_21.toInt = (y_1.1 0).toInt + 1 := by rw [ex_21]; exact inc_tk h_7 (by decide) (by decide) (by decide)
          refine lv_iinc (v := x_21) (lv' := [(3, .int x_21), (2, .int (y_1.1 1)), (0, .ref (a 14)), (1, .int p0)]) hx hb dX2_trailer_39 hl (k := 0) rfl (by rw [ex_21]; rfl) (by decide) rfl (fun ls hl => ?_)
          refine lv_goto (tgt := 4) hx hb dX2_trailer_42 (by decide) ?_
          exact ih_4 (fun k => [x_21, (y_1.1 1)].getD k 0, fun k => [].getD k (fun _ => 0), fun k => [].getD k (fun _ => 0), fun k => [].getD k 0) _ _ ls ⟨(m_upk me_5 tx_21 (by decide)), (rg_w (c := 0) (d := 9) hx_21 (by decide) (by decide)), (rg_w (c := (-1)) (d := 8) h_17 (by decide) (by decide)), hP, hS, (lv_sub hl [0, 1, 2, 3] rfl)⟩
        · skip
          have h_22 : rg 1 1 r_18 := rg_w (rg_neL hr_18 c_19 (by decide)) (by decide) (by decide)
          refine lv_iload_n hx hb dX2_trailer_37 rfl (lv_at hl 0 rfl) ?_
          refine lv_istore_n (lv' := [(2, .int (y_1.1 0)), (3, .int (y_1.1 0)), (0, .ref (a 14)), (1, .int p0)]) hx hb dX2_trailer_38 rfl hl (by decide) rfl (fun ls hl => ?_)
          obtain ⟨x_23, ex_23⟩ : ∃ y9 : Int32, y9 = (y_1.1 0) + 1 := ⟨_, rfl⟩
          have hx_23 : rg 1 9 x_23 := by rw [ex_23]; exact rg_add h_7 (rg_c (x := 1) (k := 1) (by decide)) (by decide) (by decide) (by decide) (by decide)
          have tx_23 : x_23.toInt = (y_1.1 0).toInt + 1 := by rw [ex_23]; exact inc_tk h_7 (by decide) (by decide) (by decide)
          refine lv_iinc (v := x_23) (lv' := [(3, .int x_23), (2, .int (y_1.1 0)), (0, .ref (a 14)), (1, .int p0)]) hx hb dX2_trailer_39 hl (k := 1) rfl (by rw [ex_23]; rfl) (by decide) rfl (fun ls hl => ?_)
          refine lv_goto (tgt := 4) hx hb dX2_trailer_42 (by decide) ?_
          exact ih_4 (fun k => [x_23, (y_1.1 0)].getD k 0, fun k => [].getD k (fun _ => 0), fun k => [].getD k (fun _ => 0), fun k => [].getD k 0) _ _ ls ⟨(m_upk me_5 tx_23 (by decide)), (rg_w (c := 0) (d := 9) hx_23 (by decide) (by decide)), (rg_w (c := (-1)) (d := 8) h_7 (by decide) (by decide)), hP, hS, (lv_sub hl [0, 1, 2, 3] rfl)⟩

