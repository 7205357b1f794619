set_option maxHeartbeats 4000000 in
set_option maxRecDepth 100000 in
theorem c_X8_add0 (l : Launch) (D : va_G) (t : Nat → ClassId) (a : Nat → Nat) (f : Nat → Int32) (x : Int32) (sz : Nat) : Met l yX8_add (wd yX8_add cX8_add 3 none) (RM 0 0 0) (PreW D (TY t) [.ref (a 1), .int x] [(a 1, .inr (8, [.ref (a 2), .int 0])), (a 2, .inl (t 1, 1600, .inl f))] sz) (va_Qv (fun _ : Nat → Int32 => True) (fun (u : Nat → Int32) t9 => va_P D classes ((fun u : Nat → Int32 => [(a 1, .inr (8, [.ref (a 2), .int 4])), (a 2, .inl (t 1, 1600, .inl u))]) u) t9.heap ∧ va_D (va_A [(a 1, .inr (8, [.ref (a 2), .int 0])), (a 2, .inl (t 1, 1600, .inl f))] sz) ((fun u : Nat → Int32 => [(a 1, .inr (8, [.ref (a 2), .int 4])), (a 2, .inl (t 1, 1600, .inl u))]) u)) (va_A [(a 1, .inr (8, [.ref (a 2), .int 0])), (a 2, .inl (t 1, 1600, .inl f))] sz)) 0 0 (va_A [(a 1, .inr (8, [.ref (a 2), .int 0])), (a 2, .inl (t 1, 1600, .inl f))] sz) := by
  refine Met.ofW (cc := cX8_add) (maxL := 3) (ret := none) (by decide) rfl ?_
  intro p e s m args below meth c s₁ B hml hv
  obtain ⟨rfl, hsz, hP, hK, hD0, hN⟩ := hv
  have hx := B.exec
  have hb := B.bytes
  have hr := B.returns
  have hts : ∀ w ∈ TB, w.before _ s = true := fun w h => atoms_spec (ws := wd yX8_add cX8_add 3 none) B.pre w (List.mem_cons_of_mem _ h)
  have hown : s.vm.findClass RX8 = some m.cls := findClass_of_methodNamed B.named
  have hlocks := B.notSynchronized
  have hF : CallFix p m c cX8_add 3 s _ TB RX8 := ⟨hx, hb, hml, hown, hts⟩
  have hl := lv_entry ([.ref (a 1), .int x]) (n := 3) (Nat.le_of_ble_eq_true rfl)
  rw [lg_entry_eq]
  generalize (lg_sl ([.ref (a 1), .int x]) ++ List.replicate (3 - (lg_sl ([.ref (a 1), .int x])).length) Slot.unset).toArray = ls at hl ⊢
  have hl : lv_has ls 3 [(0, .ref (a 1)), (1, .int x)] := hl
  subst hsz
  have hD := hD0.self (sz := s.heap.size)
  generalize hAe : va_A [(a 1, .inr (8, [.ref (a 2), .int 0])), (a 2, .inl (t 1, 1600, .inl f))] s.heap.size = A at hD ⊢
  have hA : ∀ q : Nat, s.heap.size ≤ q → A q := fun q h => by rw [← hAe]; exact Or.inr h
  have hS : va_S A s.heap s.heap [] := va_S.rf
  have hP : va_P D classes [(a 1, .inr (8, [.ref (a 2), .int 0])), (a 2, .inl (t 1, 1600, .inl f))] s.heap := hP
  refine lv_bipush (v := 24) hx hb dX8_add_0 (by decide) ?_
  refine lv_istore_n (lv' := [(2, .int 24), (0, .ref (a 1)), (1, .int x)]) hx hb dX8_add_2 rfl hl (by decide) rfl (fun ls hl => ?_)
  refine lv_iload_n hx hb dX8_add_3 rfl (lv_at hl 0 rfl) ?_
  refine lv_if_lt (tgt := 46) hx hb dX8_add_4 (by decide) (fun c9 => absurd c9 (by decide)) (fun _ => ?_)
  refine lv_aload_n hx hb dX8_add_7 rfl (lv_at hl 1 rfl) ?_
  refine va_get (D := D) (ci := 8) (v := .int 0) (C := RX8) (T := TX8) (N := 2) hx hb hts iX8 hown hK hP 0 rfl rfl 1 (by decide) (hts _ m_37) (fun _ h9 => h9) rfl dX8_add_8 ?_
  refine lv_sipush (v := 1600) hx hb dX8_add_11 (by decide) ?_
  refine lv_icmp_ge (tgt := 46) hx hb dX8_add_14 (by decide) (fun c9 => absurd c9 (by decide)) (fun _ => ?_)
  refine lv_aload_n hx hb dX8_add_17 rfl (lv_at hl 1 rfl) ?_
  refine va_get (D := D) (ci := 8) (v := .ref (a 2)) (C := RX8) (T := TX8) (N := 2) hx hb hts iX8 hown hK hP 0 rfl rfl 0 (by decide) (hts _ m_36) (fun _ h9 => h9) rfl dX8_add_18 ?_
  refine lv_aload_n hx hb dX8_add_21 rfl (lv_at hl 1 rfl) ?_
  refine va_get (D := D) (ci := 8) (v := .int 0) (C := RX8) (T := TX8) (N := 2) hx hb hts iX8 hown hK hP 0 rfl rfl 1 (by decide) (hts _ m_37) (fun _ h9 => h9) rfl dX8_add_22 ?_
  refine lv_iload_n hx hb dX8_add_25 rfl (lv_at hl 2 rfl) ?_
  refine lv_iload_n hx hb dX8_add_26 rfl (lv_at hl 0 rfl) ?_
  refine lv_ishr hx hb dX8_add_27 ?_
  refine lv_topi (fun x_1 ex_1 => ?_)
  refine lv_i2b hx hb dX8_add_28 rfl ?_
  refine lv_topi (fun x_2 ex_2 => ?_)
  refine x_bast hx hb hK hP hD hS 1 1 rfl rfl (vp_in_nI (n := 0) (by decide) (by decide)) dX8_add_29 (fun g_3 H locs hP hD hS => ?_)
  have hP : va_P D classes [(a 1, .inr (8, [.ref (a 2), .int 0])), (a 2, .inl (t 1, 1600, .inl g_3))] H := hP
  have hD : va_D A [(a 1, .inr (8, [.ref (a 2), .int 0])), (a 2, .inl (t 1, 1600, .inl g_3))] := hD
  refine lv_aload_n hx hb dX8_add_30 rfl (lv_at hl 1 rfl) ?_
  refine lv_dup hx hb dX8_add_31 rfl ?_
  refine va_get (D := D) (ci := 8) (v := .int 0) (C := RX8) (T := TX8) (N := 2) hx hb hts iX8 hown hK hP 0 rfl rfl 1 (by decide) (hts _ m_37) (fun _ h9 => h9) rfl dX8_add_32 ?_
  refine lv_iconst (v := 1) hx hb dX8_add_35 (by decide) ?_
  refine lv_iadd hx hb dX8_add_36 ?_
  refine x_seti 1 (by decide) ?_
  refine va_put (D := D) (ci := 8) (v := .int 1) (ty := .int) (C := RX8) (T := TX8) (N := 2) hx hb hts iX8 tyX8 tyX8_ok nmX8 hown hK hP hD hS 0 rfl rfl 1 (by decide) (hts _ m_37) (fun _ h9 => h9) rfl (tyX8_ok 1 (by decide)) rfl rfl (Nat.le_of_ble_eq_true rfl) dX8_add_37 (fun H locs hP hD hS => ?_)
  have hP : va_P D classes [(a 1, .inr (8, [.ref (a 2), .int 1])), (a 2, .inl (t 1, 1600, .inl g_3))] H := hP
  have hD : va_D A [(a 1, .inr (8, [.ref (a 2), .int 1])), (a 2, .inl (t 1, 1600, .inl g_3))] := hD
  refine lv_iinc (v := 16) (lv' := [(2, .int 16), (0, .ref (a 1)), (1, .int x)]) hx hb dX8_add_40 hl (k := 0) rfl (by decide) (by decide) rfl (fun ls hl => ?_)
  refine lv_goto (tgt := 3) hx hb dX8_add_43 (by decide) ?_
  refine lv_iload_n hx hb dX8_add_3 rfl (lv_at hl 0 rfl) ?_
  refine lv_if_lt (tgt := 46) hx hb dX8_add_4 (by decide) (fun c9 => absurd c9 (by decide)) (fun _ => ?_)
  refine lv_aload_n hx hb dX8_add_7 rfl (lv_at hl 1 rfl) ?_
  refine va_get (D := D) (ci := 8) (v := .int 1) (C := RX8) (T := TX8) (N := 2) hx hb hts iX8 hown hK hP 0 rfl rfl 1 (by decide) (hts _ m_37) (fun _ h9 => h9) rfl dX8_add_8 ?_
  refine lv_sipush (v := 1600) hx hb dX8_add_11 (by decide) ?_
  refine lv_icmp_ge (tgt := 46) hx hb dX8_add_14 (by decide) (fun c9 => absurd c9 (by decide)) (fun _ => ?_)
  refine lv_aload_n hx hb dX8_add_17 rfl (lv_at hl 1 rfl) ?_
  refine va_get (D := D) (ci := 8) (v := .ref (a 2)) (C := RX8) (T := TX8) (N := 2) hx hb hts iX8 hown hK hP 0 rfl rfl 0 (by decide) (hts _ m_36) (fun _ h9 => h9) rfl dX8_add_18 ?_
  refine lv_aload_n hx hb dX8_add_21 rfl (lv_at hl 1 rfl) ?_
  refine va_get (D := D) (ci := 8) (v := .int 1) (C := RX8) (T := TX8) (N := 2) hx hb hts iX8 hown hK hP 0 rfl rfl 1 (by decide) (hts _ m_37) (fun _ h9 => h9) rfl dX8_add_22 ?_
  refine lv_iload_n hx hb dX8_add_25 rfl (lv_at hl 2 rfl) ?_
  refine lv_iload_n hx hb dX8_add_26 rfl (lv_at hl 0 rfl) ?_
  refine lv_ishr hx hb dX8_add_27 ?_
  refine lv_topi (fun x_4 ex_4 => ?_)
  refine lv_i2b hx hb dX8_add_28 rfl ?_
  refine lv_topi (fun x_5 ex_5 => ?_)
  refine x_bast hx hb hK hP hD hS 1 1 rfl rfl (vp_in_nI (n := 1) (by decide) (by decide)) dX8_add_29 (fun g_6 H locs hP hD hS => ?_)
  have hP : va_P D classes [(a 1, .inr (8, [.ref (a 2), .int 1])), (a 2, .inl (t 1, 1600, .inl g_6))] H := hP
  have hD : va_D A [(a 1, .inr (8, [.ref (a 2), .int 1])), (a 2, .inl (t 1, 1600, .inl g_6))] := hD
  refine lv_aload_n hx hb dX8_add_30 rfl (lv_at hl 1 rfl) ?_
  refine lv_dup hx hb dX8_add_31 rfl ?_
  refine va_get (D := D) (ci := 8) (v := .int 1) (C := RX8) (T := TX8) (N := 2) hx hb hts iX8 hown hK hP 0 rfl rfl 1 (by decide) (hts _ m_37) (fun _ h9 => h9) rfl dX8_add_32 ?_
  refine lv_iconst (v := 1) hx hb dX8_add_35 (by decide) ?_
  refine lv_iadd hx hb dX8_add_36 ?_
  refine x_seti 2 (by decide) ?_
  refine va_put (D := D) (ci := 8) (v := .int 2) (ty := .int) (C := RX8) (T := TX8) (N := 2) hx hb hts iX8 tyX8 tyX8_ok nmX8 hown hK hP hD hS 0 rfl rfl 1 (by decide) (hts _ m_37) (fun _ h9 => h9) rfl (tyX8_ok 1 (by decide)) rfl rfl (Nat.le_of_ble_eq_true rfl) dX8_add_37 (fun H locs hP hD hS => ?_)
  have hP : va_P D classes [(a 1, .inr (8, [.ref (a 2), .int 2])), (a 2, .inl (t 1, 1600, .inl g_6))] H := hP
  have hD : va_D A [(a 1, .inr (8, [.ref (a 2), .int 2])), (a 2, .inl (t 1, 1600, .inl g_6))] := hD
  refine lv_iinc (v := 8) (lv' := [(2, .int 8), (0, .ref (a 1)), (1, .int x)]) hx hb dX8_add_40 hl (k := 0) rfl (by decide) (by decide) rfl (fun ls hl => ?_)
  refine lv_goto (tgt := 3) hx hb dX8_add_43 (by decide) ?_
  refine lv_iload_n hx hb dX8_add_3 rfl (lv_at hl 0 rfl) ?_
  refine lv_if_lt (tgt := 46) hx hb dX8_add_4 (by decide) (fun c9 => absurd c9 (by decide)) (fun _ => ?_)
  refine lv_aload_n hx hb dX8_add_7 rfl (lv_at hl 1 rfl) ?_
  refine va_get (D := D) (ci := 8) (v := .int 2) (C := RX8) (T := TX8) (N := 2) hx hb hts iX8 hown hK hP 0 rfl rfl 1 (by decide) (hts _ m_37) (fun _ h9 => h9) rfl dX8_add_8 ?_
  refine lv_sipush (v := 1600) hx hb dX8_add_11 (by decide) ?_
  refine lv_icmp_ge (tgt := 46) hx hb dX8_add_14 (by decide) (fun c9 => absurd c9 (by decide)) (fun _ => ?_)
  refine lv_aload_n hx hb dX8_add_17 rfl (lv_at hl 1 rfl) ?_
  refine va_get (D := D) (ci := 8) (v := .ref (a 2)) (C := RX8) (T := TX8) (N := 2) hx hb hts iX8 hown hK hP 0 rfl rfl 0 (by decide) (hts _ m_36) (fun _ h9 => h9) rfl dX8_add_18 ?_
  refine lv_aload_n hx hb dX8_add_21 rfl (lv_at hl 1 rfl) ?_
  refine va_get (D := D) (ci := 8) (v := .int 2) (C := RX8) (T := TX8) (N := 2) hx hb hts iX8 hown hK hP 0 rfl rfl 1 (by decide) (hts _ m_37) (fun _ h9 => h9) rfl dX8_add_22 ?_
  refine lv_iload_n hx hb dX8_add_25 rfl (lv_at hl 2 rfl) ?_
  refine lv_iload_n hx hb dX8_add_26 rfl (lv_at hl 0 rfl) ?_
  refine lv_ishr hx hb dX8_add_27 ?_
  refine lv_topi (fun x_7 ex_7 => ?_)
  refine lv_i2b hx hb dX8_add_28 rfl ?_
  refine lv_topi (fun x_8 ex_8 => ?_)
  refine x_bast hx hb hK hP hD hS 1 1 rfl rfl (vp_in_nI (n := 2) (by decide) (by decide)) dX8_add_29 (fun g_9 H locs hP hD hS => ?_)
  have hP : va_P D classes [(a 1, .inr (8, [.ref (a 2), .int 2])), (a 2, .inl (t 1, 1600, .inl g_9))] H := hP
  have hD : va_D A [(a 1, .inr (8, [.ref (a 2), .int 2])), (a 2, .inl (t 1, 1600, .inl g_9))] := hD
  refine lv_aload_n hx hb dX8_add_30 rfl (lv_at hl 1 rfl) ?_
  refine lv_dup hx hb dX8_add_31 rfl ?_
  refine va_get (D := D) (ci := 8) (v := .int 2) (C := RX8) (T := TX8) (N := 2) hx hb hts iX8 hown hK hP 0 rfl rfl 1 (by decide) (hts _ m_37) (fun _ h9 => h9) rfl dX8_add_32 ?_
  refine lv_iconst (v := 1) hx hb dX8_add_35 (by decide) ?_
  refine lv_iadd hx hb dX8_add_36 ?_
  refine x_seti 3 (by decide) ?_
  refine va_put (D := D) (ci := 8) (v := .int 3) (ty := .int) (C := RX8) (T := TX8) (N := 2) hx hb hts iX8 tyX8 tyX8_ok nmX8 hown hK hP hD hS 0 rfl rfl 1 (by decide) (hts _ m_37) (fun _ h9 => h9) rfl (tyX8_ok 1 (by decide)) rfl rfl (Nat.le_of_ble_eq_true rfl) dX8_add_37 (fun H locs hP hD hS => ?_)
  have hP : va_P D classes [(a 1, .inr (8, [.ref (a 2), .int 3])), (a 2, .inl (t 1, 1600, .inl g_9))] H := hP
  have hD : va_D A [(a 1, .inr (8, [.ref (a 2), .int 3])), (a 2, .inl (t 1, 1600, .inl g_9))] := hD
  refine lv_iinc (v := 0) (lv' := [(2, .int 0), (0, .ref (a 1)), (1, .int x)]) hx hb dX8_add_40 hl (k := 0) rfl (by decide) (by decide) rfl (fun ls hl => ?_)
  refine lv_goto (tgt := 3) hx hb dX8_add_43 (by decide) ?_
  refine lv_iload_n hx hb dX8_add_3 rfl (lv_at hl 0 rfl) ?_
  refine lv_if_lt (tgt := 46) hx hb dX8_add_4 (by decide) (fun c9 => absurd c9 (by decide)) (fun _ => ?_)
  refine lv_aload_n hx hb dX8_add_7 rfl (lv_at hl 1 rfl) ?_
  refine va_get (D := D) (ci := 8) (v := .int 3) (C := RX8) (T := TX8) (N := 2) hx hb hts iX8 hown hK hP 0 rfl rfl 1 (by decide) (hts _ m_37) (fun _ h9 => h9) rfl dX8_add_8 ?_
  refine lv_sipush (v := 1600) hx hb dX8_add_11 (by decide) ?_
  refine lv_icmp_ge (tgt := 46) hx hb dX8_add_14 (by decide) (fun c9 => absurd c9 (by decide)) (fun _ => ?_)
  refine lv_aload_n hx hb dX8_add_17 rfl (lv_at hl 1 rfl) ?_
  refine va_get (D := D) (ci := 8) (v := .ref (a 2)) (C := RX8) (T := TX8) (N := 2) hx hb hts iX8 hown hK hP 0 rfl rfl 0 (by decide) (hts _ m_36) (fun _ h9 => h9) rfl dX8_add_18 ?_
  refine lv_aload_n hx hb dX8_add_21 rfl (lv_at hl 1 rfl) ?_
  refine va_get (D := D) (ci := 8) (v := .int 3) (C := RX8) (T := TX8) (N := 2) hx hb hts iX8 hown hK hP 0 rfl rfl 1 (by decide) (hts _ m_37) (fun _ h9 => h9) rfl dX8_add_22 ?_
  refine lv_iload_n hx hb dX8_add_25 rfl (lv_at hl 2 rfl) ?_
  refine lv_iload_n hx hb dX8_add_26 rfl (lv_at hl 0 rfl) ?_
  refine lv_ishr hx hb dX8_add_27 ?_
  refine lv_topi (fun x_10 ex_10 => ?_)
  refine lv_i2b hx hb dX8_add_28 rfl ?_
  refine lv_topi (fun x_11 ex_11 => ?_)
  refine x_bast hx hb hK hP hD hS 1 1 rfl rfl (vp_in_nI (n := 3) (by decide) (by decide)) dX8_add_29 (fun g_12 H locs hP hD hS => ?_)
  have hP : va_P D classes [(a 1, .inr (8, [.ref (a 2), .int 3])), (a 2, .inl (t 1, 1600, .inl g_12))] H := hP
  have hD : va_D A [(a 1, .inr (8, [.ref (a 2), .int 3])), (a 2, .inl (t 1, 1600, .inl g_12))] := hD
  refine lv_aload_n hx hb dX8_add_30 rfl (lv_at hl 1 rfl) ?_
  refine lv_dup hx hb dX8_add_31 rfl ?_
  refine va_get (D := D) (ci := 8) (v := .int 3) (C := RX8) (T := TX8) (N := 2) hx hb hts iX8 hown hK hP 0 rfl rfl 1 (by decide) (hts _ m_37) (fun _ h9 => h9) rfl dX8_add_32 ?_
  refine lv_iconst (v := 1) hx hb dX8_add_35 (by decide) ?_
  refine lv_iadd hx hb dX8_add_36 ?_
  refine x_seti 4 (by decide) ?_
  refine va_put (D := D) (ci := 8) (v := .int 4) (ty := .int) (C := RX8) (T := TX8) (N := 2) hx hb hts iX8 tyX8 tyX8_ok nmX8 hown hK hP hD hS 0 rfl rfl 1 (by decide) (hts _ m_37) (fun _ h9 => h9) rfl (tyX8_ok 1 (by decide)) rfl rfl (Nat.le_of_ble_eq_true rfl) dX8_add_37 (fun H locs hP hD hS => ?_)
  have hP : va_P D classes [(a 1, .inr (8, [.ref (a 2), .int 4])), (a 2, .inl (t 1, 1600, .inl g_12))] H := hP
  have hD : va_D A [(a 1, .inr (8, [.ref (a 2), .int 4])), (a 2, .inl (t 1, 1600, .inl g_12))] := hD
  refine lv_iinc (v := (-8)) (lv' := [(2, .int (-8)), (0, .ref (a 1)), (1, .int x)]) hx hb dX8_add_40 hl (k := 0) rfl (by decide) (by decide) rfl (fun ls hl => ?_)
  refine lv_goto (tgt := 3) hx hb dX8_add_43 (by decide) ?_
  refine lv_iload_n hx hb dX8_add_3 rfl (lv_at hl 0 rfl) ?_
  refine lv_if_lt (tgt := 46) hx hb dX8_add_4 (by decide) (fun _ => ?_) (fun c9 => absurd (by decide) c9)
  have hP9 := hP.sub (ws' := [(a 1, .inr (8, [.ref (a 2), .int 4])), (a 2, .inl (t 1, 1600, .inl g_12))]) [0, 1] rfl
  have hD9 := hD.sub (ws' := [(a 1, .inr (8, [.ref (a 2), .int 4])), (a 2, .inl (t 1, 1600, .inl g_12))]) [0, 1] (by decide) rfl
  exact W.vret hx hb hr (fun t9 ht hW => ⟨⟨g_12, rfl, trivial, by rw [ht]; exact hP9, hD9⟩, hS.F ht⟩) hS.2.2 dX8_add_46

set_option maxHeartbeats 4000000 in
set_option maxRecDepth 100000 in
theorem c_X8_add4 (l : Launch) (D : va_G) (t : Nat → ClassId) (a : Nat → Nat) (f : Nat → Int32) (x : Int32) (sz : Nat) : Met l yX8_add (wd yX8_add cX8_add 3 none) (RM 0 0 0) (PreW D (TY t) [.ref (a 1), .int x] [(a 1, .inr (8, [.ref (a 2), .int 4])), (a 2, .inl (t 1, 1600, .inl f))] sz) (va_Qv (fun _ : Nat → Int32 => True) (fun (u : Nat → Int32) t9 => va_P D classes ((fun u : Nat → Int32 => [(a 1, .inr (8, [.ref (a 2), .int 8])), (a 2, .inl (t 1, 1600, .inl u))]) u) t9.heap ∧ va_D (va_A [(a 1, .inr (8, [.ref (a 2), .int 4])), (a 2, .inl (t 1, 1600, .inl f))] sz) ((fun u : Nat → Int32 => [(a 1, .inr (8, [.ref (a 2), .int 8])), (a 2, .inl (t 1, 1600, .inl u))]) u)) (va_A [(a 1, .inr (8, [.ref (a 2), .int 4])), (a 2, .inl (t 1, 1600, .inl f))] sz)) 0 0 (va_A [(a 1, .inr (8, [.ref (a 2), .int 4])), (a 2, .inl (t 1, 1600, .inl f))] sz) := by
  refine Met.ofW (cc := cX8_add) (maxL := 3) (ret := none) (by decide) rfl ?_
  intro p e s m args below meth c s₁ B hml hv
  obtain ⟨rfl, hsz, hP, hK, hD0, hN⟩ := hv
  have hx := B.exec
  have hb := B.bytes
  have hr := B.returns
  have hts : ∀ w ∈ TB, w.before _ s = true := fun w h => atoms_spec (ws := wd yX8_add cX8_add 3 none) B.pre w (List.mem_cons_of_mem _ h)
  have hown : s.vm.findClass RX8 = some m.cls := findClass_of_methodNamed B.named
  have hlocks := B.notSynchronized
  have hF : CallFix p m c cX8_add 3 s _ TB RX8 := ⟨hx, hb, hml, hown, hts⟩
  have hl := lv_entry ([.ref (a 1), .int x]) (n := 3) (Nat.le_of_ble_eq_true rfl)
  rw [lg_entry_eq]
  generalize (lg_sl ([.ref (a 1), .int x]) ++ List.replicate (3 - (lg_sl ([.ref (a 1), .int x])).length) Slot.unset).toArray = ls at hl ⊢
  have hl : lv_has ls 3 [(0, .ref (a 1)), (1, .int x)] := hl
  subst hsz
  have hD := hD0.self (sz := s.heap.size)
  generalize hAe : va_A [(a 1, .inr (8, [.ref (a 2), .int 4])), (a 2, .inl (t 1, 1600, .inl f))] s.heap.size = A at hD ⊢
  have hA : ∀ q : Nat, s.heap.size ≤ q → A q := fun q h => by rw [← hAe]; exact Or.inr h
  have hS : va_S A s.heap s.heap [] := va_S.rf
  have hP : va_P D classes [(a 1, .inr (8, [.ref (a 2), .int 4])), (a 2, .inl (t 1, 1600, .inl f))] s.heap := hP
  refine lv_bipush (v := 24) hx hb dX8_add_0 (by decide) ?_
  refine lv_istore_n (lv' := [(2, .int 24), (0, .ref (a 1)), (1, .int x)]) hx hb dX8_add_2 rfl hl (by decide) rfl (fun ls hl => ?_)
  refine lv_iload_n hx hb dX8_add_3 rfl (lv_at hl 0 rfl) ?_
  refine lv_if_lt (tgt := 46) hx hb dX8_add_4 (by decide) (fun c9 => absurd c9 (by decide)) (fun _ => ?_)
  refine lv_aload_n hx hb dX8_add_7 rfl (lv_at hl 1 rfl) ?_
  refine va_get (D := D) (ci := 8) (v := .int 4) (C := RX8) (T := TX8) (N := 2) hx hb hts iX8 hown hK hP 0 rfl rfl 1 (by decide) (hts _ m_37) (fun _ h9 => h9) rfl dX8_add_8 ?_
  refine lv_sipush (v := 1600) hx hb dX8_add_11 (by decide) ?_
  refine lv_icmp_ge (tgt := 46) hx hb dX8_add_14 (by decide) (fun c9 => absurd c9 (by decide)) (fun _ => ?_)
  refine lv_aload_n hx hb dX8_add_17 rfl (lv_at hl 1 rfl) ?_
  refine va_get (D := D) (ci := 8) (v := .ref (a 2)) (C := RX8) (T := TX8) (N := 2) hx hb hts iX8 hown hK hP 0 rfl rfl 0 (by decide) (hts _ m_36) (fun _ h9 => h9) rfl dX8_add_18 ?_
  refine lv_aload_n hx hb dX8_add_21 rfl (lv_at hl 1 rfl) ?_
  refine va_get (D := D) (ci := 8) (v := .int 4) (C := RX8) (T := TX8) (N := 2) hx hb hts iX8 hown hK hP 0 rfl rfl 1 (by decide) (hts _ m_37) (fun _ h9 => h9) rfl dX8_add_22 ?_
  refine lv_iload_n hx hb dX8_add_25 rfl (lv_at hl 2 rfl) ?_
  refine lv_iload_n hx hb dX8_add_26 rfl (lv_at hl 0 rfl) ?_
  refine lv_ishr hx hb dX8_add_27 ?_
  refine lv_topi (fun x_1 ex_1 => ?_)
  refine lv_i2b hx hb dX8_add_28 rfl ?_
  refine lv_topi (fun x_2 ex_2 => ?_)
  refine x_bast hx hb hK hP hD hS 1 1 rfl rfl (vp_in_nI (n := 4) (by decide) (by decide)) dX8_add_29 (fun g_3 H locs hP hD hS => ?_)
  have hP : va_P D classes [(a 1, .inr (8, [.ref (a 2), .int 4])), (a 2, .inl (t 1, 1600, .inl g_3))] H := hP
  have hD : va_D A [(a 1, .inr (8, [.ref (a 2), .int 4])), (a 2, .inl (t 1, 1600, .inl g_3))] := hD
  refine lv_aload_n hx hb dX8_add_30 rfl (lv_at hl 1 rfl) ?_
  refine lv_dup hx hb dX8_add_31 rfl ?_
  refine va_get (D := D) (ci := 8) (v := .int 4) (C := RX8) (T := TX8) (N := 2) hx hb hts iX8 hown hK hP 0 rfl rfl 1 (by decide) (hts _ m_37) (fun _ h9 => h9) rfl dX8_add_32 ?_
  refine lv_iconst (v := 1) hx hb dX8_add_35 (by decide) ?_
  refine lv_iadd hx hb dX8_add_36 ?_
  refine x_seti 5 (by decide) ?_
  refine va_put (D := D) (ci := 8) (v := .int 5) (ty := .int) (C := RX8) (T := TX8) (N := 2) hx hb hts iX8 tyX8 tyX8_ok nmX8 hown hK hP hD hS 0 rfl rfl 1 (by decide) (hts _ m_37) (fun _ h9 => h9) rfl (tyX8_ok 1 (by decide)) rfl rfl (Nat.le_of_ble_eq_true rfl) dX8_add_37 (fun H locs hP hD hS => ?_)
  have hP : va_P D classes [(a 1, .inr (8, [.ref (a 2), .int 5])), (a 2, .inl (t 1, 1600, .inl g_3))] H := hP
  have hD : va_D A [(a 1, .inr (8, [.ref (a 2), .int 5])), (a 2, .inl (t 1, 1600, .inl g_3))] := hD
  refine lv_iinc (v := 16) (lv' := [(2, .int 16), (0, .ref (a 1)), (1, .int x)]) hx hb dX8_add_40 hl (k := 0) rfl (by decide) (by decide) rfl (fun ls hl => ?_)
  refine lv_goto (tgt := 3) hx hb dX8_add_43 (by decide) ?_
  refine lv_iload_n hx hb dX8_add_3 rfl (lv_at hl 0 rfl) ?_
  refine lv_if_lt (tgt := 46) hx hb dX8_add_4 (by decide) (fun c9 => absurd c9 (by decide)) (fun _ => ?_)
  refine lv_aload_n hx hb dX8_add_7 rfl (lv_at hl 1 rfl) ?_
  refine va_get (D := D) (ci := 8) (v := .int 5) (C := RX8) (T := TX8) (N := 2) hx hb hts iX8 hown hK hP 0 rfl rfl 1 (by decide) (hts _ m_37) (fun _ h9 => h9) rfl dX8_add_8 ?_
  refine lv_sipush (v := 1600) hx hb dX8_add_11 (by decide) ?_
  refine lv_icmp_ge (tgt := 46) hx hb dX8_add_14 (by decide) (fun c9 => absurd c9 (by decide)) (fun _ => ?_)
  refine lv_aload_n hx hb dX8_add_17 rfl (lv_at hl 1 rfl) ?_
  refine va_get (D := D) (ci := 8) (v := .ref (a 2)) (C := RX8) (T := TX8) (N := 2) hx hb hts iX8 hown hK hP 0 rfl rfl 0 (by decide) (hts _ m_36) (fun _ h9 => h9) rfl dX8_add_18 ?_
  refine lv_aload_n hx hb dX8_add_21 rfl (lv_at hl 1 rfl) ?_
  refine va_get (D := D) (ci := 8) (v := .int 5) (C := RX8) (T := TX8) (N := 2) hx hb hts iX8 hown hK hP 0 rfl rfl 1 (by decide) (hts _ m_37) (fun _ h9 => h9) rfl dX8_add_22 ?_
  refine lv_iload_n hx hb dX8_add_25 rfl (lv_at hl 2 rfl) ?_
  refine lv_iload_n hx hb dX8_add_26 rfl (lv_at hl 0 rfl) ?_
  refine lv_ishr hx hb dX8_add_27 ?_
  refine lv_topi (fun x_4 ex_4 => ?_)
  refine lv_i2b hx hb dX8_add_28 rfl ?_
  refine lv_topi (fun x_5 ex_5 => ?_)
  refine x_bast hx hb hK hP hD hS 1 1 rfl rfl (vp_in_nI (n := 5) (by decide) (by decide)) dX8_add_29 (fun g_6 H locs hP hD hS => ?_)
  have hP : va_P D classes [(a 1, .inr (8, [.ref (a 2), .int 5])), (a 2, .inl (t 1, 1600, .inl g_6))] H := hP
  have hD : va_D A [(a 1, .inr (8, [.ref (a 2), .int 5])), (a 2, .inl (t 1, 1600, .inl g_6))] := hD
  refine lv_aload_n hx hb dX8_add_30 rfl (lv_at hl 1 rfl) ?_
  refine lv_dup hx hb dX8_add_31 rfl ?_
  refine va_get (D := D) (ci := 8) (v := .int 5) (C := RX8) (T := TX8) (N := 2) hx hb hts iX8 hown hK hP 0 rfl rfl 1 (by decide) (hts _ m_37) (fun _ h9 => h9) rfl dX8_add_32 ?_
  refine lv_iconst (v := 1) hx hb dX8_add_35 (by decide) ?_
  refine lv_iadd hx hb dX8_add_36 ?_
  refine x_seti 6 (by decide) ?_
  refine va_put (D := D) (ci := 8) (v := .int 6) (ty := .int) (C := RX8) (T := TX8) (N := 2) hx hb hts iX8 tyX8 tyX8_ok nmX8 hown hK hP hD hS 0 rfl rfl 1 (by decide) (hts _ m_37) (fun _ h9 => h9) rfl (tyX8_ok 1 (by decide)) rfl rfl (Nat.le_of_ble_eq_true rfl) dX8_add_37 (fun H locs hP hD hS => ?_)
  have hP : va_P D classes [(a 1, .inr (8, [.ref (a 2), .int 6])), (a 2, .inl (t 1, 1600, .inl g_6))] H := hP
  have hD : va_D A [(a 1, .inr (8, [.ref (a 2), .int 6])), (a 2, .inl (t 1, 1600, .inl g_6))] := hD
  refine lv_iinc (v := 8) (lv' := [(2, .int 8), (0, .ref (a 1)), (1, .int x)]) hx hb dX8_add_40 hl (k := 0) rfl (by decide) (by decide) rfl (fun ls hl => ?_)
  refine lv_goto (tgt := 3) hx hb dX8_add_43 (by decide) ?_
  refine lv_iload_n hx hb dX8_add_3 rfl (lv_at hl 0 rfl) ?_
  refine lv_if_lt (tgt := 46) hx hb dX8_add_4 (by decide) (fun c9 => absurd c9 (by decide)) (fun _ => ?_)
  refine lv_aload_n hx hb dX8_add_7 rfl (lv_at hl 1 rfl) ?_
  refine va_get (D := D) (ci := 8) (v := .int 6) (C := RX8) (T := TX8) (N := 2) hx hb hts iX8 hown hK hP 0 rfl rfl 1 (by decide) (hts _ m_37) (fun _ h9 => h9) rfl dX8_add_8 ?_
  refine lv_sipush (v := 1600) hx hb dX8_add_11 (by decide) ?_
  refine lv_icmp_ge (tgt := 46) hx hb dX8_add_14 (by decide) (fun c9 => absurd c9 (by decide)) (fun _ => ?_)
  refine lv_aload_n hx hb dX8_add_17 rfl (lv_at hl 1 rfl) ?_
  refine va_get (D := D) (ci := 8) (v := .ref (a 2)) (C := RX8) (T := TX8) (N := 2) hx hb hts iX8 hown hK hP 0 rfl rfl 0 (by decide) (hts _ m_36) (fun _ h9 => h9) rfl dX8_add_18 ?_
  refine lv_aload_n hx hb dX8_add_21 rfl (lv_at hl 1 rfl) ?_
  refine va_get (D := D) (ci := 8) (v := .int 6) (C := RX8) (T := TX8) (N := 2) hx hb hts iX8 hown hK hP 0 rfl rfl 1 (by decide) (hts _ m_37) (fun _ h9 => h9) rfl dX8_add_22 ?_
  refine lv_iload_n hx hb dX8_add_25 rfl (lv_at hl 2 rfl) ?_
  refine lv_iload_n hx hb dX8_add_26 rfl (lv_at hl 0 rfl) ?_
  refine lv_ishr hx hb dX8_add_27 ?_
  refine lv_topi (fun x_7 ex_7 => ?_)
  refine lv_i2b hx hb dX8_add_28 rfl ?_
  refine lv_topi (fun x_8 ex_8 => ?_)
  refine x_bast hx hb hK hP hD hS 1 1 rfl rfl (vp_in_nI (n := 6) (by decide) (by decide)) dX8_add_29 (fun g_9 H locs hP hD hS => ?_)
  have hP : va_P D classes [(a 1, .inr (8, [.ref (a 2), .int 6])), (a 2, .inl (t 1, 1600, .inl g_9))] H := hP
  have hD : va_D A [(a 1, .inr (8, [.ref (a 2), .int 6])), (a 2, .inl (t 1, 1600, .inl g_9))] := hD
  refine lv_aload_n hx hb dX8_add_30 rfl (lv_at hl 1 rfl) ?_
  refine lv_dup hx hb dX8_add_31 rfl ?_
  refine va_get (D := D) (ci := 8) (v := .int 6) (C := RX8) (T := TX8) (N := 2) hx hb hts iX8 hown hK hP 0 rfl rfl 1 (by decide) (hts _ m_37) (fun _ h9 => h9) rfl dX8_add_32 ?_
  refine lv_iconst (v := 1) hx hb dX8_add_35 (by decide) ?_
  refine lv_iadd hx hb dX8_add_36 ?_
  refine x_seti 7 (by decide) ?_
  refine va_put (D := D) (ci := 8) (v := .int 7) (ty := .int) (C := RX8) (T := TX8) (N := 2) hx hb hts iX8 tyX8 tyX8_ok nmX8 hown hK hP hD hS 0 rfl rfl 1 (by decide) (hts _ m_37) (fun _ h9 => h9) rfl (tyX8_ok 1 (by decide)) rfl rfl (Nat.le_of_ble_eq_true rfl) dX8_add_37 (fun H locs hP hD hS => ?_)
  have hP : va_P D classes [(a 1, .inr (8, [.ref (a 2), .int 7])), (a 2, .inl (t 1, 1600, .inl g_9))] H := hP
  have hD : va_D A [(a 1, .inr (8, [.ref (a 2), .int 7])), (a 2, .inl (t 1, 1600, .inl g_9))] := hD
  refine lv_iinc (v := 0) (lv' := [(2, .int 0), (0, .ref (a 1)), (1, .int x)]) hx hb dX8_add_40 hl (k := 0) rfl (by decide) (by decide) rfl (fun ls hl => ?_)
  refine lv_goto (tgt := 3) hx hb dX8_add_43 (by decide) ?_
  refine lv_iload_n hx hb dX8_add_3 rfl (lv_at hl 0 rfl) ?_
  refine lv_if_lt (tgt := 46) hx hb dX8_add_4 (by decide) (fun c9 => absurd c9 (by decide)) (fun _ => ?_)
  refine lv_aload_n hx hb dX8_add_7 rfl (lv_at hl 1 rfl) ?_
  refine va_get (D := D) (ci := 8) (v := .int 7) (C := RX8) (T := TX8) (N := 2) hx hb hts iX8 hown hK hP 0 rfl rfl 1 (by decide) (hts _ m_37) (fun _ h9 => h9) rfl dX8_add_8 ?_
  refine lv_sipush (v := 1600) hx hb dX8_add_11 (by decide) ?_
  refine lv_icmp_ge (tgt := 46) hx hb dX8_add_14 (by decide) (fun c9 => absurd c9 (by decide)) (fun _ => ?_)
  refine lv_aload_n hx hb dX8_add_17 rfl (lv_at hl 1 rfl) ?_
  refine va_get (D := D) (ci := 8) (v := .ref (a 2)) (C := RX8) (T := TX8) (N := 2) hx hb hts iX8 hown hK hP 0 rfl rfl 0 (by decide) (hts _ m_36) (fun _ h9 => h9) rfl dX8_add_18 ?_
  refine lv_aload_n hx hb dX8_add_21 rfl (lv_at hl 1 rfl) ?_
  refine va_get (D := D) (ci := 8) (v := .int 7) (C := RX8) (T := TX8) (N := 2) hx hb hts iX8 hown hK hP 0 rfl rfl 1 (by decide) (hts _ m_37) (fun _ h9 => h9) rfl dX8_add_22 ?_
  refine lv_iload_n hx hb dX8_add_25 rfl (lv_at hl 2 rfl) ?_
  refine lv_iload_n hx hb dX8_add_26 rfl (lv_at hl 0 rfl) ?_
  refine lv_ishr hx hb dX8_add_27 ?_
  refine lv_topi (fun x_10 ex_10 => ?_)
  refine lv_i2b hx hb dX8_add_28 rfl ?_
  refine lv_topi (fun x_11 ex_11 => ?_)
  refine x_bast hx hb hK hP hD hS 1 1 rfl rfl (vp_in_nI (n := 7) (by decide) (by decide)) dX8_add_29 (fun g_12 H locs hP hD hS => ?_)
  have hP : va_P D classes [(a 1, .inr (8, [.ref (a 2), .int 7])), (a 2, .inl (t 1, 1600, .inl g_12))] H := hP
  have hD : va_D A [(a 1, .inr (8, [.ref (a 2), .int 7])), (a 2, .inl (t 1, 1600, .inl g_12))] := hD
  refine lv_aload_n hx hb dX8_add_30 rfl (lv_at hl 1 rfl) ?_
  refine lv_dup hx hb dX8_add_31 rfl ?_
  refine va_get (D := D) (ci := 8) (v := .int 7) (C := RX8) (T := TX8) (N := 2) hx hb hts iX8 hown hK hP 0 rfl rfl 1 (by decide) (hts _ m_37) (fun _ h9 => h9) rfl dX8_add_32 ?_
  refine lv_iconst (v := 1) hx hb dX8_add_35 (by decide) ?_
  refine lv_iadd hx hb dX8_add_36 ?_
  refine x_seti 8 (by decide) ?_
  refine va_put (D := D) (ci := 8) (v := .int 8) (ty := .int) (C := RX8) (T := TX8) (N := 2) hx hb hts iX8 tyX8 tyX8_ok nmX8 hown hK hP hD hS 0 rfl rfl 1 (by decide) (hts _ m_37) (fun _ h9 => h9) rfl (tyX8_ok 1 (by decide)) rfl rfl (Nat.le_of_ble_eq_true rfl) dX8_add_37 (fun H locs hP hD hS => ?_)
  have hP : va_P D classes [(a 1, .inr (8, [.ref (a 2), .int 8])), (a 2, .inl (t 1, 1600, .inl g_12))] H := hP
  have hD : va_D A [(a 1, .inr (8, [.ref (a 2), .int 8])), (a 2, .inl (t 1, 1600, .inl g_12))] := hD
  refine lv_iinc (v := (-8)) (lv' := [(2, .int (-8)), (0, .ref (a 1)), (1, .int x)]) hx hb dX8_add_40 hl (k := 0) rfl (by decide) (by decide) rfl (fun ls hl => ?_)
  refine lv_goto (tgt := 3) hx hb dX8_add_43 (by decide) ?_
  refine lv_iload_n hx hb dX8_add_3 rfl (lv_at hl 0 rfl) ?_
  refine lv_if_lt (tgt := 46) hx hb dX8_add_4 (by decide) (fun _ => ?_) (fun c9 => absurd (by decide) c9)
  have hP9 := hP.sub (ws' := [(a 1, .inr (8, [.ref (a 2), .int 8])), (a 2, .inl (t 1, 1600, .inl g_12))]) [0, 1] rfl
  have hD9 := hD.sub (ws' := [(a 1, .inr (8, [.ref (a 2), .int 8])), (a 2, .inl (t 1, 1600, .inl g_12))]) [0, 1] (by decide) rfl
  exact W.vret hx hb hr (fun t9 ht hW => ⟨⟨g_12, rfl, trivial, by rw [ht]; exact hP9, hD9⟩, hS.F ht⟩) hS.2.2 dX8_add_46

set_option maxHeartbeats 4000000 in
set_option maxRecDepth 100000 in
theorem c_X8_add8 (l : Launch) (D : va_G) (t : Nat → ClassId) (a : Nat → Nat) (f : Nat → Int32) (x : Int32) (sz : Nat) : Met l yX8_add (wd yX8_add cX8_add 3 none) (RM 0 0 0) (PreW D (TY t) [.ref (a 1), .int x] [(a 1, .inr (8, [.ref (a 2), .int 8])), (a 2, .inl (t 1, 1600, .inl f))] sz) (va_Qv (fun _ : Nat → Int32 => True) (fun (u : Nat → Int32) t9 => va_P D classes ((fun u : Nat → Int32 => [(a 1, .inr (8, [.ref (a 2), .int 12])), (a 2, .inl (t 1, 1600, .inl u))]) u) t9.heap ∧ va_D (va_A [(a 1, .inr (8, [.ref (a 2), .int 8])), (a 2, .inl (t 1, 1600, .inl f))] sz) ((fun u : Nat → Int32 => [(a 1, .inr (8, [.ref (a 2), .int 12])), (a 2, .inl (t 1, 1600, .inl u))]) u)) (va_A [(a 1, .inr (8, [.ref (a 2), .int 8])), (a 2, .inl (t 1, 1600, .inl f))] sz)) 0 0 (va_A [(a 1, .inr (8, [.ref (a 2), .int 8])), (a 2, .inl (t 1, 1600, .inl f))] sz) := by
  refine Met.ofW (cc := cX8_add) (maxL := 3) (ret := none) (by decide) rfl ?_
  intro p e s m args below meth c s₁ B hml hv
  obtain ⟨rfl, hsz, hP, hK, hD0, hN⟩ := hv
  have hx := B.exec
  have hb := B.bytes
  have hr := B.returns
  have hts : ∀ w ∈ TB, w.before _ s = true := fun w h => atoms_spec (ws := wd yX8_add cX8_add 3 none) B.pre w (List.mem_cons_of_mem _ h)
  have hown : s.vm.findClass RX8 = some m.cls := findClass_of_methodNamed B.named
  have hlocks := B.notSynchronized
  have hF : CallFix p m c cX8_add 3 s _ TB RX8 := ⟨hx, hb, hml, hown, hts⟩
  have hl := lv_entry ([.ref (a 1), .int x]) (n := 3) (Nat.le_of_ble_eq_true rfl)
  rw [lg_entry_eq]
  generalize (lg_sl ([.ref (a 1), .int x]) ++ List.replicate (3 - (lg_sl ([.ref (a 1), .int x])).length) Slot.unset).toArray = ls at hl ⊢
  have hl : lv_has ls 3 [(0, .ref (a 1)), (1, .int x)] := hl
  subst hsz
  have hD := hD0.self (sz := s.heap.size)
  generalize hAe : va_A [(a 1, .inr (8, [.ref (a 2), .int 8])), (a 2, .inl (t 1, 1600, .inl f))] s.heap.size = A at hD ⊢
  have hA : ∀ q : Nat, s.heap.size ≤ q → A q := fun q h => by rw [← hAe]; exact Or.inr h
  have hS : va_S A s.heap s.heap [] := va_S.rf
  have hP : va_P D classes [(a 1, .inr (8, [.ref (a 2), .int 8])), (a 2, .inl (t 1, 1600, .inl f))] s.heap := hP
  refine lv_bipush (v := 24) hx hb dX8_add_0 (by decide) ?_
  refine lv_istore_n (lv' := [(2, .int 24), (0, .ref (a 1)), (1, .int x)]) hx hb dX8_add_2 rfl hl (by decide) rfl (fun ls hl => ?_)
  refine lv_iload_n hx hb dX8_add_3 rfl (lv_at hl 0 rfl) ?_
  refine lv_if_lt (tgt := 46) hx hb dX8_add_4 (by decide) (fun c9 => absurd c9 (by decide)) (fun _ => ?_)
  refine lv_aload_n hx hb dX8_add_7 rfl (lv_at hl 1 rfl) ?_
  refine va_get (D := D) (ci := 8) (v := .int 8) (C := RX8) (T := TX8) (N := 2) hx hb hts iX8 hown hK hP 0 rfl rfl 1 (by decide) (hts _ m_37) (fun _ h9 => h9) rfl dX8_add_8 ?_
  refine lv_sipush (v := 1600) hx hb dX8_add_11 (by decide) ?_
  refine lv_icmp_ge (tgt := 46) hx hb dX8_add_14 (by decide) (fun c9 => absurd c9 (by decide)) (fun _ => ?_)
  refine lv_aload_n hx hb dX8_add_17 rfl (lv_at hl 1 rfl) ?_
  refine va_get (D := D) (ci := 8) (v := .ref (a 2)) (C := RX8) (T := TX8) (N := 2) hx hb hts iX8 hown hK hP 0 rfl rfl 0 (by decide) (hts _ m_36) (fun _ h9 => h9) rfl dX8_add_18 ?_
  refine lv_aload_n hx hb dX8_add_21 rfl (lv_at hl 1 rfl) ?_
  refine va_get (D := D) (ci := 8) (v := .int 8) (C := RX8) (T := TX8) (N := 2) hx hb hts iX8 hown hK hP 0 rfl rfl 1 (by decide) (hts _ m_37) (fun _ h9 => h9) rfl dX8_add_22 ?_
  refine lv_iload_n hx hb dX8_add_25 rfl (lv_at hl 2 rfl) ?_
  refine lv_iload_n hx hb dX8_add_26 rfl (lv_at hl 0 rfl) ?_
  refine lv_ishr hx hb dX8_add_27 ?_
  refine lv_topi (fun x_1 ex_1 => ?_)
  refine lv_i2b hx hb dX8_add_28 rfl ?_
  refine lv_topi (fun x_2 ex_2 => ?_)
  refine x_bast hx hb hK hP hD hS 1 1 rfl rfl (vp_in_nI (n := 8) (by decide) (by decide)) dX8_add_29 (fun g_3 H locs hP hD hS => ?_)
  have hP : va_P D classes [(a 1, .inr (8, [.ref (a 2), .int 8])), (a 2, .inl (t 1, 1600, .inl g_3))] H := hP
  have hD : va_D A [(a 1, .inr (8, [.ref (a 2), .int 8])), (a 2, .inl (t 1, 1600, .inl g_3))] := hD
  refine lv_aload_n hx hb dX8_add_30 rfl (lv_at hl 1 rfl) ?_
  refine lv_dup hx hb dX8_add_31 rfl ?_
  refine va_get (D := D) (ci := 8) (v := .int 8) (C := RX8) (T := TX8) (N := 2) hx hb hts iX8 hown hK hP 0 rfl rfl 1 (by decide) (hts _ m_37) (fun _ h9 => h9) rfl dX8_add_32 ?_
  refine lv_iconst (v := 1) hx hb dX8_add_35 (by decide) ?_
  refine lv_iadd hx hb dX8_add_36 ?_
  refine x_seti 9 (by decide) ?_
  refine va_put (D := D) (ci := 8) (v := .int 9) (ty := .int) (C := RX8) (T := TX8) (N := 2) hx hb hts iX8 tyX8 tyX8_ok nmX8 hown hK hP hD hS 0 rfl rfl 1 (by decide) (hts _ m_37) (fun _ h9 => h9) rfl (tyX8_ok 1 (by decide)) rfl rfl (Nat.le_of_ble_eq_true rfl) dX8_add_37 (fun H locs hP hD hS => ?_)
  have hP : va_P D classes [(a 1, .inr (8, [.ref (a 2), .int 9])), (a 2, .inl (t 1, 1600, .inl g_3))] H := hP
  have hD : va_D A [(a 1, .inr (8, [.ref (a 2), .int 9])), (a 2, .inl (t 1, 1600, .inl g_3))] := hD
  refine lv_iinc (v := 16) (lv' := [(2, .int 16), (0, .ref (a 1)), (1, .int x)]) hx hb dX8_add_40 hl (k := 0) rfl (by decide) (by decide) rfl (fun ls hl => ?_)
  refine lv_goto (tgt := 3) hx hb dX8_add_43 (by decide) ?_
  refine lv_iload_n hx hb dX8_add_3 rfl (lv_at hl 0 rfl) ?_
  refine lv_if_lt (tgt := 46) hx hb dX8_add_4 (by decide) (fun c9 => absurd c9 (by decide)) (fun _ => ?_)
  refine lv_aload_n hx hb dX8_add_7 rfl (lv_at hl 1 rfl) ?_
  refine va_get (D := D) (ci := 8) (v := .int 9) (C := RX8) (T := TX8) (N := 2) hx hb hts iX8 hown hK hP 0 rfl rfl 1 (by decide) (hts _ m_37) (fun _ h9 => h9) rfl dX8_add_8 ?_
  refine lv_sipush (v := 1600) hx hb dX8_add_11 (by decide) ?_
  refine lv_icmp_ge (tgt := 46) hx hb dX8_add_14 (by decide) (fun c9 => absurd c9 (by decide)) (fun _ => ?_)
  refine lv_aload_n hx hb dX8_add_17 rfl (lv_at hl 1 rfl) ?_
  refine va_get (D := D) (ci := 8) (v := .ref (a 2)) (C := RX8) (T := TX8) (N := 2) hx hb hts iX8 hown hK hP 0 rfl rfl 0 (by decide) (hts _ m_36) (fun _ h9 => h9) rfl dX8_add_18 ?_
  refine lv_aload_n hx hb dX8_add_21 rfl (lv_at hl 1 rfl) ?_
  refine va_get (D := D) (ci := 8) (v := .int 9) (C := RX8) (T := TX8) (N := 2) hx hb hts iX8 hown hK hP 0 rfl rfl 1 (by decide) (hts _ m_37) (fun _ h9 => h9) rfl dX8_add_22 ?_
  refine lv_iload_n hx hb dX8_add_25 rfl (lv_at hl 2 rfl) ?_
  refine lv_iload_n hx hb dX8_add_26 rfl (lv_at hl 0 rfl) ?_
  refine lv_ishr hx hb dX8_add_27 ?_
  refine lv_topi (fun x_4 ex_4 => ?_)
  refine lv_i2b hx hb dX8_add_28 rfl ?_
  refine lv_topi (fun x_5 ex_5 => ?_)
  refine x_bast hx hb hK hP hD hS 1 1 rfl rfl (vp_in_nI (n := 9) (by decide) (by decide)) dX8_add_29 (fun g_6 H locs hP hD hS => ?_)
  have hP : va_P D classes [(a 1, .inr (8, [.ref (a 2), .int 9])), (a 2, .inl (t 1, 1600, .inl g_6))] H := hP
  have hD : va_D A [(a 1, .inr (8, [.ref (a 2), .int 9])), (a 2, .inl (t 1, 1600, .inl g_6))] := hD
  refine lv_aload_n hx hb dX8_add_30 rfl (lv_at hl 1 rfl) ?_
  refine lv_dup hx hb dX8_add_31 rfl ?_
  refine va_get (D := D) (ci := 8) (v := .int 9) (C := RX8) (T := TX8) (N := 2) hx hb hts iX8 hown hK hP 0 rfl rfl 1 (by decide) (hts _ m_37) (fun _ h9 => h9) rfl dX8_add_32 ?_
  refine lv_iconst (v := 1) hx hb dX8_add_35 (by decide) ?_
  refine lv_iadd hx hb dX8_add_36 ?_
  refine x_seti 10 (by decide) ?_
  refine va_put (D := D) (ci := 8) (v := .int 10) (ty := .int) (C := RX8) (T := TX8) (N := 2) hx hb hts iX8 tyX8 tyX8_ok nmX8 hown hK hP hD hS 0 rfl rfl 1 (by decide) (hts _ m_37) (fun _ h9 => h9) rfl (tyX8_ok 1 (by decide)) rfl rfl (Nat.le_of_ble_eq_true rfl) dX8_add_37 (fun H locs hP hD hS => ?_)
  have hP : va_P D classes [(a 1, .inr (8, [.ref (a 2), .int 10])), (a 2, .inl (t 1, 1600, .inl g_6))] H := hP
  have hD : va_D A [(a 1, .inr (8, [.ref (a 2), .int 10])), (a 2, .inl (t 1, 1600, .inl g_6))] := hD
  refine lv_iinc (v := 8) (lv' := [(2, .int 8), (0, .ref (a 1)), (1, .int x)]) hx hb dX8_add_40 hl (k := 0) rfl (by decide) (by decide) rfl (fun ls hl => ?_)
  refine lv_goto (tgt := 3) hx hb dX8_add_43 (by decide) ?_
  refine lv_iload_n hx hb dX8_add_3 rfl (lv_at hl 0 rfl) ?_
  refine lv_if_lt (tgt := 46) hx hb dX8_add_4 (by decide) (fun c9 => absurd c9 (by decide)) (fun _ => ?_)
  refine lv_aload_n hx hb dX8_add_7 rfl (lv_at hl 1 rfl) ?_
  refine va_get (D := D) (ci := 8) (v := .int 10) (C := RX8) (T := TX8) (N := 2) hx hb hts iX8 hown hK hP 0 rfl rfl 1 (by decide) (hts _ m_37) (fun _ h9 => h9) rfl dX8_add_8 ?_
  refine lv_sipush (v := 1600) hx hb dX8_add_11 (by decide) ?_
  refine lv_icmp_ge (tgt := 46) hx hb dX8_add_14 (by decide) (fun c9 => absurd c9 (by decide)) (fun _ => ?_)
  refine lv_aload_n hx hb dX8_add_17 rfl (lv_at hl 1 rfl) ?_
  refine va_get (D := D) (ci := 8) (v := .ref (a 2)) (C := RX8) (T := TX8) (N := 2) hx hb hts iX8 hown hK hP 0 rfl rfl 0 (by decide) (hts _ m_36) (fun _ h9 => h9) rfl dX8_add_18 ?_
  refine lv_aload_n hx hb dX8_add_21 rfl (lv_at hl 1 rfl) ?_
  refine va_get (D := D) (ci := 8) (v := .int 10) (C := RX8) (T := TX8) (N := 2) hx hb hts iX8 hown hK hP 0 rfl rfl 1 (by decide) (hts _ m_37) (fun _ h9 => h9) rfl dX8_add_22 ?_
  refine lv_iload_n hx hb dX8_add_25 rfl (lv_at hl 2 rfl) ?_
  refine lv_iload_n hx hb dX8_add_26 rfl (lv_at hl 0 rfl) ?_
  refine lv_ishr hx hb dX8_add_27 ?_
  refine lv_topi (fun x_7 ex_7 => ?_)
  refine lv_i2b hx hb dX8_add_28 rfl ?_
  refine lv_topi (fun x_8 ex_8 => ?_)
  refine x_bast hx hb hK hP hD hS 1 1 rfl rfl (vp_in_nI (n := 10) (by decide) (by decide)) dX8_add_29 (fun g_9 H locs hP hD hS => ?_)
  have hP : va_P D classes [(a 1, .inr (8, [.ref (a 2), .int 10])), (a 2, .inl (t 1, 1600, .inl g_9))] H := hP
  have hD : va_D A [(a 1, .inr (8, [.ref (a 2), .int 10])), (a 2, .inl (t 1, 1600, .inl g_9))] := hD
  refine lv_aload_n hx hb dX8_add_30 rfl (lv_at hl 1 rfl) ?_
  refine lv_dup hx hb dX8_add_31 rfl ?_
  refine va_get (D := D) (ci := 8) (v := .int 10) (C := RX8) (T := TX8) (N := 2) hx hb hts iX8 hown hK hP 0 rfl rfl 1 (by decide) (hts _ m_37) (fun _ h9 => h9) rfl dX8_add_32 ?_
  refine lv_iconst (v := 1) hx hb dX8_add_35 (by decide) ?_
  refine lv_iadd hx hb dX8_add_36 ?_
  refine x_seti 11 (by decide) ?_
  refine va_put (D := D) (ci := 8) (v := .int 11) (ty := .int) (C := RX8) (T := TX8) (N := 2) hx hb hts iX8 tyX8 tyX8_ok nmX8 hown hK hP hD hS 0 rfl rfl 1 (by decide) (hts _ m_37) (fun _ h9 => h9) rfl (tyX8_ok 1 (by decide)) rfl rfl (Nat.le_of_ble_eq_true rfl) dX8_add_37 (fun H locs hP hD hS => ?_)
  have hP : va_P D classes [(a 1, .inr (8, [.ref (a 2), .int 11])), (a 2, .inl (t 1, 1600, .inl g_9))] H := hP
  have hD : va_D A [(a 1, .inr (8, [.ref (a 2), .int 11])), (a 2, .inl (t 1, 1600, .inl g_9))] := hD
  refine lv_iinc (v := 0) (lv' := [(2, .int 0), (0, .ref (a 1)), (1, .int x)]) hx hb dX8_add_40 hl (k := 0) rfl (by decide) (by decide) rfl (fun ls hl => ?_)
  refine lv_goto (tgt := 3) hx hb dX8_add_43 (by decide) ?_
  refine lv_iload_n hx hb dX8_add_3 rfl (lv_at hl 0 rfl) ?_
  refine lv_if_lt (tgt := 46) hx hb dX8_add_4 (by decide) (fun c9 => absurd c9 (by decide)) (fun _ => ?_)
  refine lv_aload_n hx hb dX8_add_7 rfl (lv_at hl 1 rfl) ?_
  refine va_get (D := D) (ci := 8) (v := .int 11) (C := RX8) (T := TX8) (N := 2) hx hb hts iX8 hown hK hP 0 rfl rfl 1 (by decide) (hts _ m_37) (fun _ h9 => h9) rfl dX8_add_8 ?_
  refine lv_sipush (v := 1600) hx hb dX8_add_11 (by decide) ?_
  refine lv_icmp_ge (tgt := 46) hx hb dX8_add_14 (by decide) (fun c9 => absurd c9 (by decide)) (fun _ => ?_)
  refine lv_aload_n hx hb dX8_add_17 rfl (lv_at hl 1 rfl) ?_
  refine va_get (D := D) (ci := 8) (v := .ref (a 2)) (C := RX8) (T := TX8) (N := 2) hx hb hts iX8 hown hK hP 0 rfl rfl 0 (by decide) (hts _ m_36) (fun _ h9 => h9) rfl dX8_add_18 ?_
  refine lv_aload_n hx hb dX8_add_21 rfl (lv_at hl 1 rfl) ?_
  refine va_get (D := D) (ci := 8) (v := .int 11) (C := RX8) (T := TX8) (N := 2) hx hb hts iX8 hown hK hP 0 rfl rfl 1 (by decide) (hts _ m_37) (fun _ h9 => h9) rfl dX8_add_22 ?_
  refine lv_iload_n hx hb dX8_add_25 rfl (lv_at hl 2 rfl) ?_
  refine lv_iload_n hx hb dX8_add_26 rfl (lv_at hl 0 rfl) ?_
  refine lv_ishr hx hb dX8_add_27 ?_
  refine lv_topi (fun x_10 ex_10 => ?_)
  refine lv_i2b hx hb dX8_add_28 rfl ?_
  refine lv_topi (fun x_11 ex_11 => ?_)
  refine x_bast hx hb hK hP hD hS 1 1 rfl rfl (vp_in_nI (n := 11) (by decide) (by decide)) dX8_add_29 (fun g_12 H locs hP hD hS => ?_)
  have hP : va_P D classes [(a 1, .inr (8, [.ref (a 2), .int 11])), (a 2, .inl (t 1, 1600, .inl g_12))] H := hP
  have hD : va_D A [(a 1, .inr (8, [.ref (a 2), .int 11])), (a 2, .inl (t 1, 1600, .inl g_12))] := hD
  refine lv_aload_n hx hb dX8_add_30 rfl (lv_at hl 1 rfl) ?_
  refine lv_dup hx hb dX8_add_31 rfl ?_
  refine va_get (D := D) (ci := 8) (v := .int 11) (C := RX8) (T := TX8) (N := 2) hx hb hts iX8 hown hK hP 0 rfl rfl 1 (by decide) (hts _ m_37) (fun _ h9 => h9) rfl dX8_add_32 ?_
  refine lv_iconst (v := 1) hx hb dX8_add_35 (by decide) ?_
  refine lv_iadd hx hb dX8_add_36 ?_
  refine x_seti 12 (by decide) ?_
  refine va_put (D := D) (ci := 8) (v := .int 12) (ty := .int) (C := RX8) (T := TX8) (N := 2) hx hb hts iX8 tyX8 tyX8_ok nmX8 hown hK hP hD hS 0 rfl rfl 1 (by decide) (hts _ m_37) (fun _ h9 => h9) rfl (tyX8_ok 1 (by decide)) rfl rfl (Nat.le_of_ble_eq_true rfl) dX8_add_37 (fun H locs hP hD hS => ?_)
  have hP : va_P D classes [(a 1, .inr (8, [.ref (a 2), .int 12])), (a 2, .inl (t 1, 1600, .inl g_12))] H := hP
  have hD : va_D A [(a 1, .inr (8, [.ref (a 2), .int 12])), (a 2, .inl (t 1, 1600, .inl g_12))] := hD
  refine lv_iinc (v := (-8)) (lv' := [(2, .int (-8)), (0, .ref (a 1)), (1, .int x)]) hx hb dX8_add_40 hl (k := 0) rfl (by decide) (by decide) rfl (fun ls hl => ?_)
  refine lv_goto (tgt := 3) hx hb dX8_add_43 (by decide) ?_
  refine lv_iload_n hx hb dX8_add_3 rfl (lv_at hl 0 rfl) ?_
  refine lv_if_lt (tgt := 46) hx hb dX8_add_4 (by decide) (fun _ => ?_) (fun c9 => absurd (by decide) c9)
  have hP9 := hP.sub (ws' := [(a 1, .inr (8, [.ref (a 2), .int 12])), (a 2, .inl (t 1, 1600, .inl g_12))]) [0, 1] rfl
  have hD9 := hD.sub (ws' := [(a 1, .inr (8, [.ref (a 2), .int 12])), (a 2, .inl (t 1, 1600, .inl g_12))]) [0, 1] (by decide) rfl
  exact W.vret hx hb hr (fun t9 ht hW => ⟨⟨g_12, rfl, trivial, by rw [ht]; exact hP9, hD9⟩, hS.F ht⟩) hS.2.2 dX8_add_46

set_option maxHeartbeats 4000000 in
set_option maxRecDepth 100000 in
theorem c_X8_add12 (l : Launch) (D : va_G) (t : Nat → ClassId) (a : Nat → Nat) (f : Nat → Int32) (x : Int32) (sz : Nat) : Met l yX8_add (wd yX8_add cX8_add 3 none) (RM 0 0 0) (PreW D (TY t) [.ref (a 1), .int x] [(a 1, .inr (8, [.ref (a 2), .int 12])), (a 2, .inl (t 1, 1600, .inl f))] sz) (va_Qv (fun _ : Nat → Int32 => True) (fun (u : Nat → Int32) t9 => va_P D classes ((fun u : Nat → Int32 => [(a 1, .inr (8, [.ref (a 2), .int 16])), (a 2, .inl (t 1, 1600, .inl u))]) u) t9.heap ∧ va_D (va_A [(a 1, .inr (8, [.ref (a 2), .int 12])), (a 2, .inl (t 1, 1600, .inl f))] sz) ((fun u : Nat → Int32 => [(a 1, .inr (8, [.ref (a 2), .int 16])), (a 2, .inl (t 1, 1600, .inl u))]) u)) (va_A [(a 1, .inr (8, [.ref (a 2), .int 12])), (a 2, .inl (t 1, 1600, .inl f))] sz)) 0 0 (va_A [(a 1, .inr (8, [.ref (a 2), .int 12])), (a 2, .inl (t 1, 1600, .inl f))] sz) := by
  refine Met.ofW (cc := cX8_add) (maxL := 3) (ret := none) (by decide) rfl ?_
  intro p e s m args below meth c s₁ B hml hv
  obtain ⟨rfl, hsz, hP, hK, hD0, hN⟩ := hv
  have hx := B.exec
  have hb := B.bytes
  have hr := B.returns
  have hts : ∀ w ∈ TB, w.before _ s = true := fun w h => atoms_spec (ws := wd yX8_add cX8_add 3 none) B.pre w (List.mem_cons_of_mem _ h)
  have hown : s.vm.findClass RX8 = some m.cls := findClass_of_methodNamed B.named
  have hlocks := B.notSynchronized
  have hF : CallFix p m c cX8_add 3 s _ TB RX8 := ⟨hx, hb, hml, hown, hts⟩
  have hl := lv_entry ([.ref (a 1), .int x]) (n := 3) (Nat.le_of_ble_eq_true rfl)
  rw [lg_entry_eq]
  generalize (lg_sl ([.ref (a 1), .int x]) ++ List.replicate (3 - (lg_sl ([.ref (a 1), .int x])).length) Slot.unset).toArray = ls at hl ⊢
  have hl : lv_has ls 3 [(0, .ref (a 1)), (1, .int x)] := hl
  subst hsz
  have hD := hD0.self (sz := s.heap.size)
  generalize hAe : va_A [(a 1, .inr (8, [.ref (a 2), .int 12])), (a 2, .inl (t 1, 1600, .inl f))] s.heap.size = A at hD ⊢
  have hA : ∀ q : Nat, s.heap.size ≤ q → A q := fun q h => by rw [← hAe]; exact Or.inr h
  have hS : va_S A s.heap s.heap [] := va_S.rf
  have hP : va_P D classes [(a 1, .inr (8, [.ref (a 2), .int 12])), (a 2, .inl (t 1, 1600, .inl f))] s.heap := hP
  refine lv_bipush (v := 24) hx hb dX8_add_0 (by decide) ?_
  refine lv_istore_n (lv' := [(2, .int 24), (0, .ref (a 1)), (1, .int x)]) hx hb dX8_add_2 rfl hl (by decide) rfl (fun ls hl => ?_)
  refine lv_iload_n hx hb dX8_add_3 rfl (lv_at hl 0 rfl) ?_
  refine lv_if_lt (tgt := 46) hx hb dX8_add_4 (by decide) (fun c9 => absurd c9 (by decide)) (fun _ => ?_)
  refine lv_aload_n hx hb dX8_add_7 rfl (lv_at hl 1 rfl) ?_
  refine va_get (D := D) (ci := 8) (v := .int 12) (C := RX8) (T := TX8) (N := 2) hx hb hts iX8 hown hK hP 0 rfl rfl 1 (by decide) (hts _ m_37) (fun _ h9 => h9) rfl dX8_add_8 ?_
  refine lv_sipush (v := 1600) hx hb dX8_add_11 (by decide) ?_
  refine lv_icmp_ge (tgt := 46) hx hb dX8_add_14 (by decide) (fun c9 => absurd c9 (by decide)) (fun _ => ?_)
  refine lv_aload_n hx hb dX8_add_17 rfl (lv_at hl 1 rfl) ?_
  refine va_get (D := D) (ci := 8) (v := .ref (a 2)) (C := RX8) (T := TX8) (N := 2) hx hb hts iX8 hown hK hP 0 rfl rfl 0 (by decide) (hts _ m_36) (fun _ h9 => h9) rfl dX8_add_18 ?_
  refine lv_aload_n hx hb dX8_add_21 rfl (lv_at hl 1 rfl) ?_
  refine va_get (D := D) (ci := 8) (v := .int 12) (C := RX8) (T := TX8) (N := 2) hx hb hts iX8 hown hK hP 0 rfl rfl 1 (by decide) (hts _ m_37) (fun _ h9 => h9) rfl dX8_add_22 ?_
  refine lv_iload_n hx hb dX8_add_25 rfl (lv_at hl 2 rfl) ?_
  refine lv_iload_n hx hb dX8_add_26 rfl (lv_at hl 0 rfl) ?_
  refine lv_ishr hx hb dX8_add_27 ?_
  refine lv_topi (fun x_1 ex_1 => ?_)
  refine lv_i2b hx hb dX8_add_28 rfl ?_
  refine lv_topi (fun x_2 ex_2 => ?_)
  refine x_bast hx hb hK hP hD hS 1 1 rfl rfl (vp_in_nI (n := 12) (by decide) (by decide)) dX8_add_29 (fun g_3 H locs hP hD hS => ?_)
  have hP : va_P D classes [(a 1, .inr (8, [.ref (a 2), .int 12])), (a 2, .inl (t 1, 1600, .inl g_3))] H := hP
  have hD : va_D A [(a 1, .inr (8, [.ref (a 2), .int 12])), (a 2, .inl (t 1, 1600, .inl g_3))] := hD
  refine lv_aload_n hx hb dX8_add_30 rfl (lv_at hl 1 rfl) ?_
  refine lv_dup hx hb dX8_add_31 rfl ?_
  refine va_get (D := D) (ci := 8) (v := .int 12) (C := RX8) (T := TX8) (N := 2) hx hb hts iX8 hown hK hP 0 rfl rfl 1 (by decide) (hts _ m_37) (fun _ h9 => h9) rfl dX8_add_32 ?_
  refine lv_iconst (v := 1) hx hb dX8_add_35 (by decide) ?_
  refine lv_iadd hx hb dX8_add_36 ?_
  refine x_seti 13 (by decide) ?_
  refine va_put (D := D) (ci := 8) (v := .int 13) (ty := .int) (C := RX8) (T := TX8) (N := 2) hx hb hts iX8 tyX8 tyX8_ok nmX8 hown hK hP hD hS 0 rfl rfl 1 (by decide) (hts _ m_37) (fun _ h9 => h9) rfl (tyX8_ok 1 (by decide)) rfl rfl (Nat.le_of_ble_eq_true rfl) dX8_add_37 (fun H locs hP hD hS => ?_)
  have hP : va_P D classes [(a 1, .inr (8, [.ref (a 2), .int 13])), (a 2, .inl (t 1, 1600, .inl g_3))] H := hP
  have hD : va_D A [(a 1, .inr (8, [.ref (a 2), .int 13])), (a 2, .inl (t 1, 1600, .inl g_3))] := hD
  refine lv_iinc (v := 16) (lv' := [(2, .int 16), (0, .ref (a 1)), (1, .int x)]) hx hb dX8_add_40 hl (k := 0) rfl (by decide) (by decide) rfl (fun ls hl => ?_)
  refine lv_goto (tgt := 3) hx hb dX8_add_43 (by decide) ?_
  refine lv_iload_n hx hb dX8_add_3 rfl (lv_at hl 0 rfl) ?_
  refine lv_if_lt (tgt := 46) hx hb dX8_add_4 (by decide) (fun c9 => absurd c9 (by decide)) (fun _ => ?_)
  refine lv_aload_n hx hb dX8_add_7 rfl (lv_at hl 1 rfl) ?_
  refine va_get (D := D) (ci := 8) (v := .int 13) (C := RX8) (T := TX8) (N := 2) hx hb hts iX8 hown hK hP 0 rfl rfl 1 (by decide) (hts _ m_37) (fun _ h9 => h9) rfl dX8_add_8 ?_
  refine lv_sipush (v := 1600) hx hb dX8_add_11 (by decide) ?_
  refine lv_icmp_ge (tgt := 46) hx hb dX8_add_14 (by decide) (fun c9 => absurd c9 (by decide)) (fun _ => ?_)
  refine lv_aload_n hx hb dX8_add_17 rfl (lv_at hl 1 rfl) ?_
  refine va_get (D := D) (ci := 8) (v := .ref (a 2)) (C := RX8) (T := TX8) (N := 2) hx hb hts iX8 hown hK hP 0 rfl rfl 0 (by decide) (hts _ m_36) (fun _ h9 => h9) rfl dX8_add_18 ?_
  refine lv_aload_n hx hb dX8_add_21 rfl (lv_at hl 1 rfl) ?_
  refine va_get (D := D) (ci := 8) (v := .int 13) (C := RX8) (T := TX8) (N := 2) hx hb hts iX8 hown hK hP 0 rfl rfl 1 (by decide) (hts _ m_37) (fun _ h9 => h9) rfl dX8_add_22 ?_
  refine lv_iload_n hx hb dX8_add_25 rfl (lv_at hl 2 rfl) ?_
  refine lv_iload_n hx hb dX8_add_26 rfl (lv_at hl 0 rfl) ?_
  refine lv_ishr hx hb dX8_add_27 ?_
  refine lv_topi (fun x_4 ex_4 => ?_)
  refine lv_i2b hx hb dX8_add_28 rfl ?_
  refine lv_topi (fun x_5 ex_5 => ?_)
  refine x_bast hx hb hK hP hD hS 1 1 rfl rfl (vp_in_nI (n := 13) (by decide) (by decide)) dX8_add_29 (fun g_6 H locs hP hD hS => ?_)
  have hP : va_P D classes [(a 1, .inr (8, [.ref (a 2), .int 13])), (a 2, .inl (t 1, 1600, .inl g_6))] H := hP
  have hD : va_D A [(a 1, .inr (8, [.ref (a 2), .int 13])), (a 2, .inl (t 1, 1600, .inl g_6))] := hD
  refine lv_aload_n hx hb dX8_add_30 rfl (lv_at hl 1 rfl) ?_
  refine lv_dup hx hb dX8_add_31 rfl ?_
  refine va_get (D := D) (ci := 8) (v := .int 13) (C := RX8) (T := TX8) (N := 2) hx hb hts iX8 hown hK hP 0 rfl rfl 1 (by decide) (hts _ m_37) (fun _ h9 => h9) rfl dX8_add_32 ?_
  refine lv_iconst (v := 1) hx hb dX8_add_35 (by decide) ?_
  refine lv_iadd hx hb dX8_add_36 ?_
  refine x_seti 14 (by decide) ?_
  refine va_put (D := D) (ci := 8) (v := .int 14) (ty := .int) (C := RX8) (T := TX8) (N := 2) hx hb hts iX8 tyX8 tyX8_ok nmX8 hown hK hP hD hS 0 rfl rfl 1 (by decide) (hts _ m_37) (fun _ h9 => h9) rfl (tyX8_ok 1 (by decide)) rfl rfl (Nat.le_of_ble_eq_true rfl) dX8_add_37 (fun H locs hP hD hS => ?_)
  have hP : va_P D classes [(a 1, .inr (8, [.ref (a 2), .int 14])), (a 2, .inl (t 1, 1600, .inl g_6))] H := hP
  have hD : va_D A [(a 1, .inr (8, [.ref (a 2), .int 14])), (a 2, .inl (t 1, 1600, .inl g_6))] := hD
  refine lv_iinc (v := 8) (lv' := [(2, .int 8), (0, .ref (a 1)), (1, .int x)]) hx hb dX8_add_40 hl (k := 0) rfl (by decide) (by decide) rfl (fun ls hl => ?_)
  refine lv_goto (tgt := 3) hx hb dX8_add_43 (by decide) ?_
  refine lv_iload_n hx hb dX8_add_3 rfl (lv_at hl 0 rfl) ?_
  refine lv_if_lt (tgt := 46) hx hb dX8_add_4 (by decide) (fun c9 => absurd c9 (by decide)) (fun _ => ?_)
  refine lv_aload_n hx hb dX8_add_7 rfl (lv_at hl 1 rfl) ?_
  refine va_get (D := D) (ci := 8) (v := .int 14) (C := RX8) (T := TX8) (N := 2) hx hb hts iX8 hown hK hP 0 rfl rfl 1 (by decide) (hts _ m_37) (fun _ h9 => h9) rfl dX8_add_8 ?_
  refine lv_sipush (v := 1600) hx hb dX8_add_11 (by decide) ?_
  refine lv_icmp_ge (tgt := 46) hx hb dX8_add_14 (by decide) (fun c9 => absurd c9 (by decide)) (fun _ => ?_)
  refine lv_aload_n hx hb dX8_add_17 rfl (lv_at hl 1 rfl) ?_
  refine va_get (D := D) (ci := 8) (v := .ref (a 2)) (C := RX8) (T := TX8) (N := 2) hx hb hts iX8 hown hK hP 0 rfl rfl 0 (by decide) (hts _ m_36) (fun _ h9 => h9) rfl dX8_add_18 ?_
  refine lv_aload_n hx hb dX8_add_21 rfl (lv_at hl 1 rfl) ?_
  refine va_get (D := D) (ci := 8) (v := .int 14) (C := RX8) (T := TX8) (N := 2) hx hb hts iX8 hown hK hP 0 rfl rfl 1 (by decide) (hts _ m_37) (fun _ h9 => h9) rfl dX8_add_22 ?_
  refine lv_iload_n hx hb dX8_add_25 rfl (lv_at hl 2 rfl) ?_
  refine lv_iload_n hx hb dX8_add_26 rfl (lv_at hl 0 rfl) ?_
  refine lv_ishr hx hb dX8_add_27 ?_
  refine lv_topi (fun x_7 ex_7 => ?_)
  refine lv_i2b hx hb dX8_add_28 rfl ?_
  refine lv_topi (fun x_8 ex_8 => ?_)
  refine x_bast hx hb hK hP hD hS 1 1 rfl rfl (vp_in_nI (n := 14) (by decide) (by decide)) dX8_add_29 (fun g_9 H locs hP hD hS => ?_)
  have hP : va_P D classes [(a 1, .inr (8, [.ref (a 2), .int 14])), (a 2, .inl (t 1, 1600, .inl g_9))] H := hP
  have hD : va_D A [(a 1, .inr (8, [.ref (a 2), .int 14])), (a 2, .inl (t 1, 1600, .inl g_9))] := hD
  refine lv_aload_n hx hb dX8_add_30 rfl (lv_at hl 1 rfl) ?_
  refine lv_dup hx hb dX8_add_31 rfl ?_
  refine va_get (D := D) (ci := 8) (v := .int 14) (C := RX8) (T := TX8) (N := 2) hx hb hts iX8 hown hK hP 0 rfl rfl 1 (by decide) (hts _ m_37) (fun _ h9 => h9) rfl dX8_add_32 ?_
  refine lv_iconst (v := 1) hx hb dX8_add_35 (by decide) ?_
  refine lv_iadd hx hb dX8_add_36 ?_
  refine x_seti 15 (by decide) ?_
  refine va_put (D := D) (ci := 8) (v := .int 15) (ty := .int) (C := RX8) (T := TX8) (N := 2) hx hb hts iX8 tyX8 tyX8_ok nmX8 hown hK hP hD hS 0 rfl rfl 1 (by decide) (hts _ m_37) (fun _ h9 => h9) rfl (tyX8_ok 1 (by decide)) rfl rfl (Nat.le_of_ble_eq_true rfl) dX8_add_37 (fun H locs hP hD hS => ?_)
  have hP : va_P D classes [(a 1, .inr (8, [.ref (a 2), .int 15])), (a 2, .inl (t 1, 1600, .inl g_9))] H := hP
  have hD : va_D A [(a 1, .inr (8, [.ref (a 2), .int 15])), (a 2, .inl (t 1, 1600, .inl g_9))] := hD
  refine lv_iinc (v := 0) (lv' := [(2, .int 0), (0, .ref (a 1)), (1, .int x)]) hx hb dX8_add_40 hl (k := 0) rfl (by decide) (by decide) rfl (fun ls hl => ?_)
  refine lv_goto (tgt := 3) hx hb dX8_add_43 (by decide) ?_
  refine lv_iload_n hx hb dX8_add_3 rfl (lv_at hl 0 rfl) ?_
  refine lv_if_lt (tgt := 46) hx hb dX8_add_4 (by decide) (fun c9 => absurd c9 (by decide)) (fun _ => ?_)
  refine lv_aload_n hx hb dX8_add_7 rfl (lv_at hl 1 rfl) ?_
  refine va_get (D := D) (ci := 8) (v := .int 15) (C := RX8) (T := TX8) (N := 2) hx hb hts iX8 hown hK hP 0 rfl rfl 1 (by decide) (hts _ m_37) (fun _ h9 => h9) rfl dX8_add_8 ?_
  refine lv_sipush (v := 1600) hx hb dX8_add_11 (by decide) ?_
  refine lv_icmp_ge (tgt := 46) hx hb dX8_add_14 (by decide) (fun c9 => absurd c9 (by decide)) (fun _ => ?_)
  refine lv_aload_n hx hb dX8_add_17 rfl (lv_at hl 1 rfl) ?_
  refine va_get (D := D) (ci := 8) (v := .ref (a 2)) (C := RX8) (T := TX8) (N := 2) hx hb hts iX8 hown hK hP 0 rfl rfl 0 (by decide) (hts _ m_36) (fun _ h9 => h9) rfl dX8_add_18 ?_
  refine lv_aload_n hx hb dX8_add_21 rfl (lv_at hl 1 rfl) ?_
  refine va_get (D := D) (ci := 8) (v := .int 15) (C := RX8) (T := TX8) (N := 2) hx hb hts iX8 hown hK hP 0 rfl rfl 1 (by decide) (hts _ m_37) (fun _ h9 => h9) rfl dX8_add_22 ?_
  refine lv_iload_n hx hb dX8_add_25 rfl (lv_at hl 2 rfl) ?_
  refine lv_iload_n hx hb dX8_add_26 rfl (lv_at hl 0 rfl) ?_
  refine lv_ishr hx hb dX8_add_27 ?_
  refine lv_topi (fun x_10 ex_10 => ?_)
  refine lv_i2b hx hb dX8_add_28 rfl ?_
  refine lv_topi (fun x_11 ex_11 => ?_)
  refine x_bast hx hb hK hP hD hS 1 1 rfl rfl (vp_in_nI (n := 15) (by decide) (by decide)) dX8_add_29 (fun g_12 H locs hP hD hS => ?_)
  have hP : va_P D classes [(a 1, .inr (8, [.ref (a 2), .int 15])), (a 2, .inl (t 1, 1600, .inl g_12))] H := hP
  have hD : va_D A [(a 1, .inr (8, [.ref (a 2), .int 15])), (a 2, .inl (t 1, 1600, .inl g_12))] := hD
  refine lv_aload_n hx hb dX8_add_30 rfl (lv_at hl 1 rfl) ?_
  refine lv_dup hx hb dX8_add_31 rfl ?_
  refine va_get (D := D) (ci := 8) (v := .int 15) (C := RX8) (T := TX8) (N := 2) hx hb hts iX8 hown hK hP 0 rfl rfl 1 (by decide) (hts _ m_37) (fun _ h9 => h9) rfl dX8_add_32 ?_
  refine lv_iconst (v := 1) hx hb dX8_add_35 (by decide) ?_
  refine lv_iadd hx hb dX8_add_36 ?_
  refine x_seti 16 (by decide) ?_
  refine va_put (D := D) (ci := 8) (v := .int 16) (ty := .int) (C := RX8) (T := TX8) (N := 2) hx hb hts iX8 tyX8 tyX8_ok nmX8 hown hK hP hD hS 0 rfl rfl 1 (by decide) (hts _ m_37) (fun _ h9 => h9) rfl (tyX8_ok 1 (by decide)) rfl rfl (Nat.le_of_ble_eq_true rfl) dX8_add_37 (fun H locs hP hD hS => ?_)
  have hP : va_P D classes [(a 1, .inr (8, [.ref (a 2), .int 16])), (a 2, .inl (t 1, 1600, .inl g_12))] H := hP
  have hD : va_D A [(a 1, .inr (8, [.ref (a 2), .int 16])), (a 2, .inl (t 1, 1600, .inl g_12))] := hD
  refine lv_iinc (v := (-8)) (lv' := [(2, .int (-8)), (0, .ref (a 1)), (1, .int x)]) hx hb dX8_add_40 hl (k := 0) rfl (by decide) (by decide) rfl (fun ls hl => ?_)
  refine lv_goto (tgt := 3) hx hb dX8_add_43 (by decide) ?_
  refine lv_iload_n hx hb dX8_add_3 rfl (lv_at hl 0 rfl) ?_
  refine lv_if_lt (tgt := 46) hx hb dX8_add_4 (by decide) (fun _ => ?_) (fun c9 => absurd (by decide) c9)
  have hP9 := hP.sub (ws' := [(a 1, .inr (8, [.ref (a 2), .int 16])), (a 2, .inl (t 1, 1600, .inl g_12))]) [0, 1] rfl
  have hD9 := hD.sub (ws' := [(a 1, .inr (8, [.ref (a 2), .int 16])), (a 2, .inl (t 1, 1600, .inl g_12))]) [0, 1] (by decide) rfl
  exact W.vret hx hb hr (fun t9 ht hW => ⟨⟨g_12, rfl, trivial, by rw [ht]; exact hP9, hD9⟩, hS.F ht⟩) hS.2.2 dX8_add_46

set_option maxHeartbeats 4000000 in
set_option maxRecDepth 100000 in
theorem c_X8_add16 (l : Launch) (D : va_G) (t : Nat → ClassId) (a : Nat → Nat) (f : Nat → Int32) (x : Int32) (sz : Nat) : Met l yX8_add (wd yX8_add cX8_add 3 none) (RM 0 0 0) (PreW D (TY t) [.ref (a 1), .int x] [(a 1, .inr (8, [.ref (a 2), .int 16])), (a 2, .inl (t 1, 1600, .inl f))] sz) (va_Qv (fun _ : Nat → Int32 => True) (fun (u : Nat → Int32) t9 => va_P D classes ((fun u : Nat → Int32 => [(a 1, .inr (8, [.ref (a 2), .int 20])), (a 2, .inl (t 1, 1600, .inl u))]) u) t9.heap ∧ va_D (va_A [(a 1, .inr (8, [.ref (a 2), .int 16])), (a 2, .inl (t 1, 1600, .inl f))] sz) ((fun u : Nat → Int32 => [(a 1, .inr (8, [.ref (a 2), .int 20])), (a 2, .inl (t 1, 1600, .inl u))]) u)) (va_A [(a 1, .inr (8, [.ref (a 2), .int 16])), (a 2, .inl (t 1, 1600, .inl f))] sz)) 0 0 (va_A [(a 1, .inr (8, [.ref (a 2), .int 16])), (a 2, .inl (t 1, 1600, .inl f))] sz) := by
  refine Met.ofW (cc := cX8_add) (maxL := 3) (ret := none) (by decide) rfl ?_
  intro p e s m args below meth c s₁ B hml hv
  obtain ⟨rfl, hsz, hP, hK, hD0, hN⟩ := hv
  have hx := B.exec
  have hb := B.bytes
  have hr := B.returns
  have hts : ∀ w ∈ TB, w.before _ s = true := fun w h => atoms_spec (ws := wd yX8_add cX8_add 3 none) B.pre w (List.mem_cons_of_mem _ h)
  have hown : s.vm.findClass RX8 = some m.cls := findClass_of_methodNamed B.named
  have hlocks := B.notSynchronized
  have hF : CallFix p m c cX8_add 3 s _ TB RX8 := ⟨hx, hb, hml, hown, hts⟩
  have hl := lv_entry ([.ref (a 1), .int x]) (n := 3) (Nat.le_of_ble_eq_true rfl)
  rw [lg_entry_eq]
  generalize (lg_sl ([.ref (a 1), .int x]) ++ List.replicate (3 - (lg_sl ([.ref (a 1), .int x])).length) Slot.unset).toArray = ls at hl ⊢
  have hl : lv_has ls 3 [(0, .ref (a 1)), (1, .int x)] := hl
  subst hsz
  have hD := hD0.self (sz := s.heap.size)
  generalize hAe : va_A [(a 1, .inr (8, [.ref (a 2), .int 16])), (a 2, .inl (t 1, 1600, .inl f))] s.heap.size = A at hD ⊢
  have hA : ∀ q : Nat, s.heap.size ≤ q → A q := fun q h => by rw [← hAe]; exact Or.inr h
  have hS : va_S A s.heap s.heap [] := va_S.rf
  have hP : va_P D classes [(a 1, .inr (8, [.ref (a 2), .int 16])), (a 2, .inl (t 1, 1600, .inl f))] s.heap := hP
  refine lv_bipush (v := 24) hx hb dX8_add_0 (by decide) ?_
  refine lv_istore_n (lv' := [(2, .int 24), (0, .ref (a 1)), (1, .int x)]) hx hb dX8_add_2 rfl hl (by decide) rfl (fun ls hl => ?_)
  refine lv_iload_n hx hb dX8_add_3 rfl (lv_at hl 0 rfl) ?_
  refine lv_if_lt (tgt := 46) hx hb dX8_add_4 (by decide) (fun c9 => absurd c9 (by decide)) (fun _ => ?_)
  refine lv_aload_n hx hb dX8_add_7 rfl (lv_at hl 1 rfl) ?_
  refine va_get (D := D) (ci := 8) (v := .int 16) (C := RX8) (T := TX8) (N := 2) hx hb hts iX8 hown hK hP 0 rfl rfl 1 (by decide) (hts _ m_37) (fun _ h9 => h9) rfl dX8_add_8 ?_
  refine lv_sipush (v := 1600) hx hb dX8_add_11 (by decide) ?_
  refine lv_icmp_ge (tgt := 46) hx hb dX8_add_14 (by decide) (fun c9 => absurd c9 (by decide)) (fun _ => ?_)
  refine lv_aload_n hx hb dX8_add_17 rfl (lv_at hl 1 rfl) ?_
  refine va_get (D := D) (ci := 8) (v := .ref (a 2)) (C := RX8) (T := TX8) (N := 2) hx hb hts iX8 hown hK hP 0 rfl rfl 0 (by decide) (hts _ m_36) (fun _ h9 => h9) rfl dX8_add_18 ?_
  refine lv_aload_n hx hb dX8_add_21 rfl (lv_at hl 1 rfl) ?_
  refine va_get (D := D) (ci := 8) (v := .int 16) (C := RX8) (T := TX8) (N := 2) hx hb hts iX8 hown hK hP 0 rfl rfl 1 (by decide) (hts _ m_37) (fun _ h9 => h9) rfl dX8_add_22 ?_
  refine lv_iload_n hx hb dX8_add_25 rfl (lv_at hl 2 rfl) ?_
  refine lv_iload_n hx hb dX8_add_26 rfl (lv_at hl 0 rfl) ?_
  refine lv_ishr hx hb dX8_add_27 ?_
  refine lv_topi (fun x_1 ex_1 => ?_)
  refine lv_i2b hx hb dX8_add_28 rfl ?_
  refine lv_topi (fun x_2 ex_2 => ?_)
  refine x_bast hx hb hK hP hD hS 1 1 rfl rfl (vp_in_nI (n := 16) (by decide) (by decide)) dX8_add_29 (fun g_3 H locs hP hD hS => ?_)
  have hP : va_P D classes [(a 1, .inr (8, [.ref (a 2), .int 16])), (a 2, .inl (t 1, 1600, .inl g_3))] H := hP
  have hD : va_D A [(a 1, .inr (8, [.ref (a 2), .int 16])), (a 2, .inl (t 1, 1600, .inl g_3))] := hD
  refine lv_aload_n hx hb dX8_add_30 rfl (lv_at hl 1 rfl) ?_
  refine lv_dup hx hb dX8_add_31 rfl ?_
  refine va_get (D := D) (ci := 8) (v := .int 16) (C := RX8) (T := TX8) (N := 2) hx hb hts iX8 hown hK hP 0 rfl rfl 1 (by decide) (hts _ m_37) (fun _ h9 => h9) rfl dX8_add_32 ?_
  refine lv_iconst (v := 1) hx hb dX8_add_35 (by decide) ?_
  refine lv_iadd hx hb dX8_add_36 ?_
  refine x_seti 17 (by decide) ?_
  refine va_put (D := D) (ci := 8) (v := .int 17) (ty := .int) (C := RX8) (T := TX8) (N := 2) hx hb hts iX8 tyX8 tyX8_ok nmX8 hown hK hP hD hS 0 rfl rfl 1 (by decide) (hts _ m_37) (fun _ h9 => h9) rfl (tyX8_ok 1 (by decide)) rfl rfl (Nat.le_of_ble_eq_true rfl) dX8_add_37 (fun H locs hP hD hS => ?_)
  have hP : va_P D classes [(a 1, .inr (8, [.ref (a 2), .int 17])), (a 2, .inl (t 1, 1600, .inl g_3))] H := hP
  have hD : va_D A [(a 1, .inr (8, [.ref (a 2), .int 17])), (a 2, .inl (t 1, 1600, .inl g_3))] := hD
  refine lv_iinc (v := 16) (lv' := [(2, .int 16), (0, .ref (a 1)), (1, .int x)]) hx hb dX8_add_40 hl (k := 0) rfl (by decide) (by decide) rfl (fun ls hl => ?_)
  refine lv_goto (tgt := 3) hx hb dX8_add_43 (by decide) ?_
  refine lv_iload_n hx hb dX8_add_3 rfl (lv_at hl 0 rfl) ?_
  refine lv_if_lt (tgt := 46) hx hb dX8_add_4 (by decide) (fun c9 => absurd c9 (by decide)) (fun _ => ?_)
  refine lv_aload_n hx hb dX8_add_7 rfl (lv_at hl 1 rfl) ?_
  refine va_get (D := D) (ci := 8) (v := .int 17) (C := RX8) (T := TX8) (N := 2) hx hb hts iX8 hown hK hP 0 rfl rfl 1 (by decide) (hts _ m_37) (fun _ h9 => h9) rfl dX8_add_8 ?_
  refine lv_sipush (v := 1600) hx hb dX8_add_11 (by decide) ?_
  refine lv_icmp_ge (tgt := 46) hx hb dX8_add_14 (by decide) (fun c9 => absurd c9 (by decide)) (fun _ => ?_)
  refine lv_aload_n hx hb dX8_add_17 rfl (lv_at hl 1 rfl) ?_
  refine va_get (D := D) (ci := 8) (v := .ref (a 2)) (C := RX8) (T := TX8) (N := 2) hx hb hts iX8 hown hK hP 0 rfl rfl 0 (by decide) (hts _ m_36) (fun _ h9 => h9) rfl dX8_add_18 ?_
  refine lv_aload_n hx hb dX8_add_21 rfl (lv_at hl 1 rfl) ?_
  refine va_get (D := D) (ci := 8) (v := .int 17) (C := RX8) (T := TX8) (N := 2) hx hb hts iX8 hown hK hP 0 rfl rfl 1 (by decide) (hts _ m_37) (fun _ h9 => h9) rfl dX8_add_22 ?_
  refine lv_iload_n hx hb dX8_add_25 rfl (lv_at hl 2 rfl) ?_
  refine lv_iload_n hx hb dX8_add_26 rfl (lv_at hl 0 rfl) ?_
  refine lv_ishr hx hb dX8_add_27 ?_
  refine lv_topi (fun x_4 ex_4 => ?_)
  refine lv_i2b hx hb dX8_add_28 rfl ?_
  refine lv_topi (fun x_5 ex_5 => ?_)
  refine x_bast hx hb hK hP hD hS 1 1 rfl rfl (vp_in_nI (n := 17) (by decide) (by decide)) dX8_add_29 (fun g_6 H locs hP hD hS => ?_)
  have hP : va_P D classes [(a 1, .inr (8, [.ref (a 2), .int 17])), (a 2, .inl (t 1, 1600, .inl g_6))] H := hP
  have hD : va_D A [(a 1, .inr (8, [.ref (a 2), .int 17])), (a 2, .inl (t 1, 1600, .inl g_6))] := hD
  refine lv_aload_n hx hb dX8_add_30 rfl (lv_at hl 1 rfl) ?_
  refine lv_dup hx hb dX8_add_31 rfl ?_
  refine va_get (D := D) (ci := 8) (v := .int 17) (C := RX8) (T := TX8) (N := 2) hx hb hts iX8 hown hK hP 0 rfl rfl 1 (by decide) (hts _ m_37) (fun _ h9 => h9) rfl dX8_add_32 ?_
  refine lv_iconst (v := 1) hx hb dX8_add_35 (by decide) ?_
  refine lv_iadd hx hb dX8_add_36 ?_
  refine x_seti 18 (by decide) ?_
  refine va_put (D := D) (ci := 8) (v := .int 18) (ty := .int) (C := RX8) (T := TX8) (N := 2) hx hb hts iX8 tyX8 tyX8_ok nmX8 hown hK hP hD hS 0 rfl rfl 1 (by decide) (hts _ m_37) (fun _ h9 => h9) rfl (tyX8_ok 1 (by decide)) rfl rfl (Nat.le_of_ble_eq_true rfl) dX8_add_37 (fun H locs hP hD hS => ?_)
  have hP : va_P D classes [(a 1, .inr (8, [.ref (a 2), .int 18])), (a 2, .inl (t 1, 1600, .inl g_6))] H := hP
  have hD : va_D A [(a 1, .inr (8, [.ref (a 2), .int 18])), (a 2, .inl (t 1, 1600, .inl g_6))] := hD
  refine lv_iinc (v := 8) (lv' := [(2, .int 8), (0, .ref (a 1)), (1, .int x)]) hx hb dX8_add_40 hl (k := 0) rfl (by decide) (by decide) rfl (fun ls hl => ?_)
  refine lv_goto (tgt := 3) hx hb dX8_add_43 (by decide) ?_
  refine lv_iload_n hx hb dX8_add_3 rfl (lv_at hl 0 rfl) ?_
  refine lv_if_lt (tgt := 46) hx hb dX8_add_4 (by decide) (fun c9 => absurd c9 (by decide)) (fun _ => ?_)
  refine lv_aload_n hx hb dX8_add_7 rfl (lv_at hl 1 rfl) ?_
  refine va_get (D := D) (ci := 8) (v := .int 18) (C := RX8) (T := TX8) (N := 2) hx hb hts iX8 hown hK hP 0 rfl rfl 1 (by decide) (hts _ m_37) (fun _ h9 => h9) rfl dX8_add_8 ?_
  refine lv_sipush (v := 1600) hx hb dX8_add_11 (by decide) ?_
  refine lv_icmp_ge (tgt := 46) hx hb dX8_add_14 (by decide) (fun c9 => absurd c9 (by decide)) (fun _ => ?_)
  refine lv_aload_n hx hb dX8_add_17 rfl (lv_at hl 1 rfl) ?_
  refine va_get (D := D) (ci := 8) (v := .ref (a 2)) (C := RX8) (T := TX8) (N := 2) hx hb hts iX8 hown hK hP 0 rfl rfl 0 (by decide) (hts _ m_36) (fun _ h9 => h9) rfl dX8_add_18 ?_
  refine lv_aload_n hx hb dX8_add_21 rfl (lv_at hl 1 rfl) ?_
  refine va_get (D := D) (ci := 8) (v := .int 18) (C := RX8) (T := TX8) (N := 2) hx hb hts iX8 hown hK hP 0 rfl rfl 1 (by decide) (hts _ m_37) (fun _ h9 => h9) rfl dX8_add_22 ?_
  refine lv_iload_n hx hb dX8_add_25 rfl (lv_at hl 2 rfl) ?_
  refine lv_iload_n hx hb dX8_add_26 rfl (lv_at hl 0 rfl) ?_
  refine lv_ishr hx hb dX8_add_27 ?_
  refine lv_topi (fun x_7 ex_7 => ?_)
  refine lv_i2b hx hb dX8_add_28 rfl ?_
  refine lv_topi (fun x_8 ex_8 => ?_)
  refine x_bast hx hb hK hP hD hS 1 1 rfl rfl (vp_in_nI (n := 18) (by decide) (by decide)) dX8_add_29 (fun g_9 H locs hP hD hS => ?_)
  have hP : va_P D classes [(a 1, .inr (8, [.ref (a 2), .int 18])), (a 2, .inl (t 1, 1600, .inl g_9))] H := hP
  have hD : va_D A [(a 1, .inr (8, [.ref (a 2), .int 18])), (a 2, .inl (t 1, 1600, .inl g_9))] := hD
  refine lv_aload_n hx hb dX8_add_30 rfl (lv_at hl 1 rfl) ?_
  refine lv_dup hx hb dX8_add_31 rfl ?_
  refine va_get (D := D) (ci := 8) (v := .int 18) (C := RX8) (T := TX8) (N := 2) hx hb hts iX8 hown hK hP 0 rfl rfl 1 (by decide) (hts _ m_37) (fun _ h9 => h9) rfl dX8_add_32 ?_
  refine lv_iconst (v := 1) hx hb dX8_add_35 (by decide) ?_
  refine lv_iadd hx hb dX8_add_36 ?_
  refine x_seti 19 (by decide) ?_
  refine va_put (D := D) (ci := 8) (v := .int 19) (ty := .int) (C := RX8) (T := TX8) (N := 2) hx hb hts iX8 tyX8 tyX8_ok nmX8 hown hK hP hD hS 0 rfl rfl 1 (by decide) (hts _ m_37) (fun _ h9 => h9) rfl (tyX8_ok 1 (by decide)) rfl rfl (Nat.le_of_ble_eq_true rfl) dX8_add_37 (fun H locs hP hD hS => ?_)
  have hP : va_P D classes [(a 1, .inr (8, [.ref (a 2), .int 19])), (a 2, .inl (t 1, 1600, .inl g_9))] H := hP
  have hD : va_D A [(a 1, .inr (8, [.ref (a 2), .int 19])), (a 2, .inl (t 1, 1600, .inl g_9))] := hD
  refine lv_iinc (v := 0) (lv' := [(2, .int 0), (0, .ref (a 1)), (1, .int x)]) hx hb dX8_add_40 hl (k := 0) rfl (by decide) (by decide) rfl (fun ls hl => ?_)
  refine lv_goto (tgt := 3) hx hb dX8_add_43 (by decide) ?_
  refine lv_iload_n hx hb dX8_add_3 rfl (lv_at hl 0 rfl) ?_
  refine lv_if_lt (tgt := 46) hx hb dX8_add_4 (by decide) (fun c9 => absurd c9 (by decide)) (fun _ => ?_)
  refine lv_aload_n hx hb dX8_add_7 rfl (lv_at hl 1 rfl) ?_
  refine va_get (D := D) (ci := 8) (v := .int 19) (C := RX8) (T := TX8) (N := 2) hx hb hts iX8 hown hK hP 0 rfl rfl 1 (by decide) (hts _ m_37) (fun _ h9 => h9) rfl dX8_add_8 ?_
  refine lv_sipush (v := 1600) hx hb dX8_add_11 (by decide) ?_
  refine lv_icmp_ge (tgt := 46) hx hb dX8_add_14 (by decide) (fun c9 => absurd c9 (by decide)) (fun _ => ?_)
  refine lv_aload_n hx hb dX8_add_17 rfl (lv_at hl 1 rfl) ?_
  refine va_get (D := D) (ci := 8) (v := .ref (a 2)) (C := RX8) (T := TX8) (N := 2) hx hb hts iX8 hown hK hP 0 rfl rfl 0 (by decide) (hts _ m_36) (fun _ h9 => h9) rfl dX8_add_18 ?_
  refine lv_aload_n hx hb dX8_add_21 rfl (lv_at hl 1 rfl) ?_
  refine va_get (D := D) (ci := 8) (v := .int 19) (C := RX8) (T := TX8) (N := 2) hx hb hts iX8 hown hK hP 0 rfl rfl 1 (by decide) (hts _ m_37) (fun _ h9 => h9) rfl dX8_add_22 ?_
  refine lv_iload_n hx hb dX8_add_25 rfl (lv_at hl 2 rfl) ?_
  refine lv_iload_n hx hb dX8_add_26 rfl (lv_at hl 0 rfl) ?_
  refine lv_ishr hx hb dX8_add_27 ?_
  refine lv_topi (fun x_10 ex_10 => ?_)
  refine lv_i2b hx hb dX8_add_28 rfl ?_
  refine lv_topi (fun x_11 ex_11 => ?_)
  refine x_bast hx hb hK hP hD hS 1 1 rfl rfl (vp_in_nI (n := 19) (by decide) (by decide)) dX8_add_29 (fun g_12 H locs hP hD hS => ?_)
  have hP : va_P D classes [(a 1, .inr (8, [.ref (a 2), .int 19])), (a 2, .inl (t 1, 1600, .inl g_12))] H := hP
  have hD : va_D A [(a 1, .inr (8, [.ref (a 2), .int 19])), (a 2, .inl (t 1, 1600, .inl g_12))] := hD
  refine lv_aload_n hx hb dX8_add_30 rfl (lv_at hl 1 rfl) ?_
  refine lv_dup hx hb dX8_add_31 rfl ?_
  refine va_get (D := D) (ci := 8) (v := .int 19) (C := RX8) (T := TX8) (N := 2) hx hb hts iX8 hown hK hP 0 rfl rfl 1 (by decide) (hts _ m_37) (fun _ h9 => h9) rfl dX8_add_32 ?_
  refine lv_iconst (v := 1) hx hb dX8_add_35 (by decide) ?_
  refine lv_iadd hx hb dX8_add_36 ?_
  refine x_seti 20 (by decide) ?_
  refine va_put (D := D) (ci := 8) (v := .int 20) (ty := .int) (C := RX8) (T := TX8) (N := 2) hx hb hts iX8 tyX8 tyX8_ok nmX8 hown hK hP hD hS 0 rfl rfl 1 (by decide) (hts _ m_37) (fun _ h9 => h9) rfl (tyX8_ok 1 (by decide)) rfl rfl (Nat.le_of_ble_eq_true rfl) dX8_add_37 (fun H locs hP hD hS => ?_)
  have hP : va_P D classes [(a 1, .inr (8, [.ref (a 2), .int 20])), (a 2, .inl (t 1, 1600, .inl g_12))] H := hP
  have hD : va_D A [(a 1, .inr (8, [.ref (a 2), .int 20])), (a 2, .inl (t 1, 1600, .inl g_12))] := hD
  refine lv_iinc (v := (-8)) (lv' := [(2, .int (-8)), (0, .ref (a 1)), (1, .int x)]) hx hb dX8_add_40 hl (k := 0) rfl (by decide) (by decide) rfl (fun ls hl => ?_)
  refine lv_goto (tgt := 3) hx hb dX8_add_43 (by decide) ?_
  refine lv_iload_n hx hb dX8_add_3 rfl (lv_at hl 0 rfl) ?_
  refine lv_if_lt (tgt := 46) hx hb dX8_add_4 (by decide) (fun _ => ?_) (fun c9 => absurd (by decide) c9)
  have hP9 := hP.sub (ws' := [(a 1, .inr (8, [.ref (a 2), .int 20])), (a 2, .inl (t 1, 1600, .inl g_12))]) [0, 1] rfl
  have hD9 := hD.sub (ws' := [(a 1, .inr (8, [.ref (a 2), .int 20])), (a 2, .inl (t 1, 1600, .inl g_12))]) [0, 1] (by decide) rfl
  exact W.vret hx hb hr (fun t9 ht hW => ⟨⟨g_12, rfl, trivial, by rw [ht]; exact hP9, hD9⟩, hS.F ht⟩) hS.2.2 dX8_add_46

set_option maxHeartbeats 4000000 in
set_option maxRecDepth 100000 in
theorem c_X8_hasRoom (l : Launch) (D : va_G) (t : Nat → ClassId) (a : Nat → Nat) : Met l yX8_hasRoom (wd yX8_hasRoom cX8_hasRoom 1 (some .boolean)) (RM 0 0 0) (PreP D (TY t) [.ref (a 1)] [(a 1, .inr (8, [.ref (a 2), .int 0]))]) (QI 1) 0 0 NoF := by
  refine Met.ofW (cc := cX8_hasRoom) (maxL := 1) (ret := (some .boolean)) (by decide) rfl ?_
  intro p e s m args below meth c s₁ B hml hv
  obtain ⟨rfl, hP, hK, hN⟩ := hv
  have hx := B.exec
  have hb := B.bytes
  have hr := B.returns
  have hts : ∀ w ∈ TB, w.before _ s = true := fun w h => atoms_spec (ws := wd yX8_hasRoom cX8_hasRoom 1 (some .boolean)) B.pre w (List.mem_cons_of_mem _ h)
  have hown : s.vm.findClass RX8 = some m.cls := findClass_of_methodNamed B.named
  have hlocks := B.notSynchronized
  have hF : CallFix p m c cX8_hasRoom 1 s _ TB RX8 := ⟨hx, hb, hml, hown, hts⟩
  have hl := lv_entry ([.ref (a 1)]) (n := 1) (Nat.le_of_ble_eq_true rfl)
  rw [lg_entry_eq]
  generalize (lg_sl ([.ref (a 1)]) ++ List.replicate (1 - (lg_sl ([.ref (a 1)])).length) Slot.unset).toArray = ls at hl ⊢
  have hl : lv_has ls 1 [(0, .ref (a 1))] := hl
  have hS : va_S NoF s.heap s.heap [] := va_S.rf
  have hP : va_P D classes [(a 1, .inr (8, [.ref (a 2), .int 0]))] s.heap := hP
  refine lv_aload_n hx hb dX8_hasRoom_0 rfl (lv_at hl 0 rfl) ?_
  refine va_get (D := D) (ci := 8) (v := .int 0) (C := RX8) (T := TX8) (N := 2) hx hb hts iX8 hown hK hP 0 rfl rfl 1 (by decide) (hts _ m_37) (fun _ h9 => h9) rfl dX8_hasRoom_1 ?_
  refine lv_bipush (v := 20) hx hb dX8_hasRoom_4 (by decide) ?_
  refine lv_iadd hx hb dX8_hasRoom_6 ?_
  refine x_seti 20 (by decide) ?_
  refine lv_sipush (v := 1600) hx hb dX8_hasRoom_7 (by decide) ?_
  refine lv_icmp_gt (tgt := 17) hx hb dX8_hasRoom_10 (by decide) (fun c9 => absurd c9 (by decide)) (fun _ => ?_)
  refine lv_iconst (v := 1) hx hb dX8_hasRoom_13 (by decide) ?_
  refine lv_goto (tgt := 18) hx hb dX8_hasRoom_14 (by decide) ?_
  exact W.zret (v := 1) hx hb hr rfl (fun t9 ht hW => ⟨⟨1, (), rfl, rfl, trivial⟩, hS.F ht⟩) hS.2.2 dX8_hasRoom_18

set_option maxHeartbeats 4000000 in
set_option maxRecDepth 100000 in
theorem c_X11_feed (l : Launch) (D : va_G) (t : Nat → ClassId) (a : Nat → Nat) (x : Int32) (y : Int32) (z : Int32) (v : Int32) (w : Int32) (sz : Nat) : Met l yX11_feed (wd yX11_feed cX11_feed 6 (some .int)) (RM 1 0 0) (PreW D (TY t) [.ref (a 0), .int x, .int y, .int z, .int v, .int w] [(a 0, .inr (11, [.ref (a 1), .ref (a 20), .ref (a 3), .ref (a 40), .ref (a 4), .int 0, .ref (a 5), .ref (a 14), .ref (a 15), .ref (a 16), .ref (a 17), .ref (a 18)])), (a 1, .inr (8, [.ref (a 2), .int 0])), (a 2, .inl (t 1, 1600, .inl (fun _ => 0)))] sz) (va_Qi (fun (r : Int32) (_ : Unit) => r = 20) (fun _ _ => True) (va_A [(a 0, .inr (11, [.ref (a 1), .ref (a 20), .ref (a 3), .ref (a 40), .ref (a 4), .int 0, .ref (a 5), .ref (a 14), .ref (a 15), .ref (a 16), .ref (a 17), .ref (a 18)])), (a 1, .inr (8, [.ref (a 2), .int 0])), (a 2, .inl (t 1, 1600, .inl (fun _ => 0)))] sz)) 0 0 (va_A [(a 0, .inr (11, [.ref (a 1), .ref (a 20), .ref (a 3), .ref (a 40), .ref (a 4), .int 0, .ref (a 5), .ref (a 14), .ref (a 15), .ref (a 16), .ref (a 17), .ref (a 18)])), (a 1, .inr (8, [.ref (a 2), .int 0])), (a 2, .inl (t 1, 1600, .inl (fun _ => 0)))] sz) := by
  refine Met.ofW (cc := cX11_feed) (maxL := 6) (ret := (some .int)) (by decide) rfl ?_
  intro p e s m args below meth c s₁ B hml hv
  obtain ⟨rfl, hsz, hP, hK, hD0, hN⟩ := hv
  have hx := B.exec
  have hb := B.bytes
  have hr := B.returns
  have hts : ∀ w ∈ TB, w.before _ s = true := fun w h => atoms_spec (ws := wd yX11_feed cX11_feed 6 (some .int)) B.pre w (List.mem_cons_of_mem _ h)
  have hown : s.vm.findClass RX11 = some m.cls := findClass_of_methodNamed B.named
  have hlocks := B.notSynchronized
  have hF : CallFix p m c cX11_feed 6 s _ TB RX11 := ⟨hx, hb, hml, hown, hts⟩
  have hl := lv_entry ([.ref (a 0), .int x, .int y, .int z, .int v, .int w]) (n := 6) (Nat.le_of_ble_eq_true rfl)
  rw [lg_entry_eq]
  generalize (lg_sl ([.ref (a 0), .int x, .int y, .int z, .int v, .int w]) ++ List.replicate (6 - (lg_sl ([.ref (a 0), .int x, .int y, .int z, .int v, .int w])).length) Slot.unset).toArray = ls at hl ⊢
  have hl : lv_has ls 6 [(0, .ref (a 0)), (1, .int x), (2, .int y), (3, .int z), (4, .int v), (5, .int w)] := hl
  subst hsz
  have hD := hD0.self (sz := s.heap.size)
  generalize hAe : va_A [(a 0, .inr (11, [.ref (a 1), .ref (a 20), .ref (a 3), .ref (a 40), .ref (a 4), .int 0, .ref (a 5), .ref (a 14), .ref (a 15), .ref (a 16), .ref (a 17), .ref (a 18)])), (a 1, .inr (8, [.ref (a 2), .int 0])), (a 2, .inl (t 1, 1600, .inl (fun _ => 0)))] s.heap.size = A at hD ⊢
  have hA : ∀ q : Nat, s.heap.size ≤ q → A q := fun q h => by rw [← hAe]; exact Or.inr h
  have hS : va_S A s.heap s.heap [] := va_S.rf
  have hP : va_P D classes [(a 0, .inr (11, [.ref (a 1), .ref (a 20), .ref (a 3), .ref (a 40), .ref (a 4), .int 0, .ref (a 5), .ref (a 14), .ref (a 15), .ref (a 16), .ref (a 17), .ref (a 18)])), (a 1, .inr (8, [.ref (a 2), .int 0])), (a 2, .inl (t 1, 1600, .inl (fun _ => 0)))] s.heap := hP
  refine lv_aload_n hx hb dX11_feed_0 rfl (lv_at hl 0 rfl) ?_
  refine va_get (D := D) (ci := 11) (v := .ref (a 1)) (C := RX11) (T := TX11) (N := 12) hx hb hts iX11 hown hK hP 0 rfl rfl 0 (by decide) (hts _ m_433) (fun _ h9 => h9) rfl dX11_feed_1 ?_
  refine x_pV hF (c_X8_hasRoom l D t a) m_474 m_475 m_476 m_2 m_477 hd_X8_hasRoom ⟨Nat.le_of_ble_eq_true rfl, Nat.le_of_ble_eq_true rfl⟩ hK hN hP hS [1] rfl 0 (ci := 8) rfl rfl rfl hl.1 rfl (Nat.le_of_ble_eq_true rfl) dX11_feed_4 ⟨Nat.zero_le _, Nat.zero_le _⟩ (fun H locs hP hS => ?_)
  refine lv_if_ne (tgt := 12) hx hb dX11_feed_7 (by decide) (fun _ => ?_) (fun c9 => absurd c9 (by decide))
  refine lv_aload_n hx hb dX11_feed_12 rfl (lv_at hl 0 rfl) ?_
  refine va_get (D := D) (ci := 11) (v := .ref (a 1)) (C := RX11) (T := TX11) (N := 12) hx hb hts iX11 hown hK hP 0 rfl rfl 0 (by decide) (hts _ m_433) (fun _ h9 => h9) rfl dX11_feed_13 ?_
  refine lv_iload_n hx hb dX11_feed_16 rfl (lv_at hl 1 rfl) ?_
  refine x_wV (wr := [(a 0, .inr (11, [.ref (a 1), .ref (a 20), .ref (a 3), .ref (a 40), .ref (a 4), .int 0, .ref (a 5), .ref (a 14), .ref (a 15), .ref (a 16), .ref (a 17), .ref (a 18)]))]) hF (c_X8_add0 l D t a (fun _ => 0) x H.size) m_478 m_479 m_480 m_2 m_481 hd_X8_add ⟨Nat.le_of_ble_eq_true rfl, Nat.le_of_ble_eq_true rfl⟩ hK hN hP hD hS hA 0 (ci := 8) rfl rfl rfl [1, 2] [0] rfl rfl (by decide) (by decide) (by decide) hl.1 rfl (Nat.le_of_ble_eq_true rfl) dX11_feed_17 ⟨Nat.le_of_ble_eq_true rfl, Nat.le_of_ble_eq_true rfl⟩ (fun u_1 H locs hP hD hS => ?_)
  have hP : va_P D classes [(a 0, .inr (11, [.ref (a 1), .ref (a 20), .ref (a 3), .ref (a 40), .ref (a 4), .int 0, .ref (a 5), .ref (a 14), .ref (a 15), .ref (a 16), .ref (a 17), .ref (a 18)])), (a 1, .inr (8, [.ref (a 2), .int 4])), (a 2, .inl (t 1, 1600, .inl u_1))] H := hP
  have hD : va_D A [(a 0, .inr (11, [.ref (a 1), .ref (a 20), .ref (a 3), .ref (a 40), .ref (a 4), .int 0, .ref (a 5), .ref (a 14), .ref (a 15), .ref (a 16), .ref (a 17), .ref (a 18)])), (a 1, .inr (8, [.ref (a 2), .int 4])), (a 2, .inl (t 1, 1600, .inl u_1))] := hD
  refine W.widen (k := 0) (n := 0) (Nat.le_of_ble_eq_true rfl) (Nat.le_of_ble_eq_true rfl) ?_
  refine lv_aload_n hx hb dX11_feed_20 rfl (lv_at hl 0 rfl) ?_
  refine va_get (D := D) (ci := 11) (v := .ref (a 1)) (C := RX11) (T := TX11) (N := 12) hx hb hts iX11 hown hK hP 0 rfl rfl 0 (by decide) (hts _ m_433) (fun _ h9 => h9) rfl dX11_feed_21 ?_
  refine lv_iload_n hx hb dX11_feed_24 rfl (lv_at hl 2 rfl) ?_
  refine x_wV (wr := [(a 0, .inr (11, [.ref (a 1), .ref (a 20), .ref (a 3), .ref (a 40), .ref (a 4), .int 0, .ref (a 5), .ref (a 14), .ref (a 15), .ref (a 16), .ref (a 17), .ref (a 18)]))]) hF (c_X8_add4 l D t a u_1 y H.size) m_478 m_479 m_480 m_2 m_481 hd_X8_add ⟨Nat.le_of_ble_eq_true rfl, Nat.le_of_ble_eq_true rfl⟩ hK hN hP hD hS hA 0 (ci := 8) rfl rfl rfl [1, 2] [0] rfl rfl (by decide) (by decide) (by decide) hl.1 rfl (Nat.le_of_ble_eq_true rfl) dX11_feed_25 ⟨Nat.le_of_ble_eq_true rfl, Nat.le_of_ble_eq_true rfl⟩ (fun u_2 H locs hP hD hS => ?_)
  have hP : va_P D classes [(a 0, .inr (11, [.ref (a 1), .ref (a 20), .ref (a 3), .ref (a 40), .ref (a 4), .int 0, .ref (a 5), .ref (a 14), .ref (a 15), .ref (a 16), .ref (a 17), .ref (a 18)])), (a 1, .inr (8, [.ref (a 2), .int 8])), (a 2, .inl (t 1, 1600, .inl u_2))] H := hP
  have hD : va_D A [(a 0, .inr (11, [.ref (a 1), .ref (a 20), .ref (a 3), .ref (a 40), .ref (a 4), .int 0, .ref (a 5), .ref (a 14), .ref (a 15), .ref (a 16), .ref (a 17), .ref (a 18)])), (a 1, .inr (8, [.ref (a 2), .int 8])), (a 2, .inl (t 1, 1600, .inl u_2))] := hD
  refine W.widen (k := 0) (n := 0) (Nat.le_of_ble_eq_true rfl) (Nat.le_of_ble_eq_true rfl) ?_
  refine lv_aload_n hx hb dX11_feed_28 rfl (lv_at hl 0 rfl) ?_
  refine va_get (D := D) (ci := 11) (v := .ref (a 1)) (C := RX11) (T := TX11) (N := 12) hx hb hts iX11 hown hK hP 0 rfl rfl 0 (by decide) (hts _ m_433) (fun _ h9 => h9) rfl dX11_feed_29 ?_
  refine lv_iload_n hx hb dX11_feed_32 rfl (lv_at hl 3 rfl) ?_
  refine x_wV (wr := [(a 0, .inr (11, [.ref (a 1), .ref (a 20), .ref (a 3), .ref (a 40), .ref (a 4), .int 0, .ref (a 5), .ref (a 14), .ref (a 15), .ref (a 16), .ref (a 17), .ref (a 18)]))]) hF (c_X8_add8 l D t a u_2 z H.size) m_478 m_479 m_480 m_2 m_481 hd_X8_add ⟨Nat.le_of_ble_eq_true rfl, Nat.le_of_ble_eq_true rfl⟩ hK hN hP hD hS hA 0 (ci := 8) rfl rfl rfl [1, 2] [0] rfl rfl (by decide) (by decide) (by decide) hl.1 rfl (Nat.le_of_ble_eq_true rfl) dX11_feed_33 ⟨Nat.le_of_ble_eq_true rfl, Nat.le_of_ble_eq_true rfl⟩ (fun u_3 H locs hP hD hS => ?_)
  have hP : va_P D classes [(a 0, .inr (11, [.ref (a 1), .ref (a 20), .ref (a 3), .ref (a 40), .ref (a 4), .int 0, .ref (a 5), .ref (a 14), .ref (a 15), .ref (a 16), .ref (a 17), .ref (a 18)])), (a 1, .inr (8, [.ref (a 2), .int 12])), (a 2, .inl (t 1, 1600, .inl u_3))] H := hP
  have hD : va_D A [(a 0, .inr (11, [.ref (a 1), .ref (a 20), .ref (a 3), .ref (a 40), .ref (a 4), .int 0, .ref (a 5), .ref (a 14), .ref (a 15), .ref (a 16), .ref (a 17), .ref (a 18)])), (a 1, .inr (8, [.ref (a 2), .int 12])), (a 2, .inl (t 1, 1600, .inl u_3))] := hD
  refine W.widen (k := 0) (n := 0) (Nat.le_of_ble_eq_true rfl) (Nat.le_of_ble_eq_true rfl) ?_
  refine lv_aload_n hx hb dX11_feed_36 rfl (lv_at hl 0 rfl) ?_
  refine va_get (D := D) (ci := 11) (v := .ref (a 1)) (C := RX11) (T := TX11) (N := 12) hx hb hts iX11 hown hK hP 0 rfl rfl 0 (by decide) (hts _ m_433) (fun _ h9 => h9) rfl dX11_feed_37 ?_
  refine lv_iload hx hb dX11_feed_40 (lv_at hl 4 rfl) ?_
  refine x_wV (wr := [(a 0, .inr (11, [.ref (a 1), .ref (a 20), .ref (a 3), .ref (a 40), .ref (a 4), .int 0, .ref (a 5), .ref (a 14), .ref (a 15), .ref (a 16), .ref (a 17), .ref (a 18)]))]) hF (c_X8_add12 l D t a u_3 v H.size) m_478 m_479 m_480 m_2 m_481 hd_X8_add ⟨Nat.le_of_ble_eq_true rfl, Nat.le_of_ble_eq_true rfl⟩ hK hN hP hD hS hA 0 (ci := 8) rfl rfl rfl [1, 2] [0] rfl rfl (by decide) (by decide) (by decide) hl.1 rfl (Nat.le_of_ble_eq_true rfl) dX11_feed_42 ⟨Nat.le_of_ble_eq_true rfl, Nat.le_of_ble_eq_true rfl⟩ (fun u_4 H locs hP hD hS => ?_)
  have hP : va_P D classes [(a 0, .inr (11, [.ref (a 1), .ref (a 20), .ref (a 3), .ref (a 40), .ref (a 4), .int 0, .ref (a 5), .ref (a 14), .ref (a 15), .ref (a 16), .ref (a 17), .ref (a 18)])), (a 1, .inr (8, [.ref (a 2), .int 16])), (a 2, .inl (t 1, 1600, .inl u_4))] H := hP
  have hD : va_D A [(a 0, .inr (11, [.ref (a 1), .ref (a 20), .ref (a 3), .ref (a 40), .ref (a 4), .int 0, .ref (a 5), .ref (a 14), .ref (a 15), .ref (a 16), .ref (a 17), .ref (a 18)])), (a 1, .inr (8, [.ref (a 2), .int 16])), (a 2, .inl (t 1, 1600, .inl u_4))] := hD
  refine W.widen (k := 0) (n := 0) (Nat.le_of_ble_eq_true rfl) (Nat.le_of_ble_eq_true rfl) ?_
  refine lv_aload_n hx hb dX11_feed_45 rfl (lv_at hl 0 rfl) ?_
  refine va_get (D := D) (ci := 11) (v := .ref (a 1)) (C := RX11) (T := TX11) (N := 12) hx hb hts iX11 hown hK hP 0 rfl rfl 0 (by decide) (hts _ m_433) (fun _ h9 => h9) rfl dX11_feed_46 ?_
  refine lv_iload hx hb dX11_feed_49 (lv_at hl 5 rfl) ?_
  refine x_wV (wr := [(a 0, .inr (11, [.ref (a 1), .ref (a 20), .ref (a 3), .ref (a 40), .ref (a 4), .int 0, .ref (a 5), .ref (a 14), .ref (a 15), .ref (a 16), .ref (a 17), .ref (a 18)]))]) hF (c_X8_add16 l D t a u_4 w H.size) m_478 m_479 m_480 m_2 m_481 hd_X8_add ⟨Nat.le_of_ble_eq_true rfl, Nat.le_of_ble_eq_true rfl⟩ hK hN hP hD hS hA 0 (ci := 8) rfl rfl rfl [1, 2] [0] rfl rfl (by decide) (by decide) (by decide) hl.1 rfl (Nat.le_of_ble_eq_true rfl) dX11_feed_51 ⟨Nat.le_of_ble_eq_true rfl, Nat.le_of_ble_eq_true rfl⟩ (fun u_5 H locs hP hD hS => ?_)
  have hP : va_P D classes [(a 0, .inr (11, [.ref (a 1), .ref (a 20), .ref (a 3), .ref (a 40), .ref (a 4), .int 0, .ref (a 5), .ref (a 14), .ref (a 15), .ref (a 16), .ref (a 17), .ref (a 18)])), (a 1, .inr (8, [.ref (a 2), .int 20])), (a 2, .inl (t 1, 1600, .inl u_5))] H := hP
  have hD : va_D A [(a 0, .inr (11, [.ref (a 1), .ref (a 20), .ref (a 3), .ref (a 40), .ref (a 4), .int 0, .ref (a 5), .ref (a 14), .ref (a 15), .ref (a 16), .ref (a 17), .ref (a 18)])), (a 1, .inr (8, [.ref (a 2), .int 20])), (a 2, .inl (t 1, 1600, .inl u_5))] := hD
  refine W.widen (k := 0) (n := 0) (Nat.le_of_ble_eq_true rfl) (Nat.le_of_ble_eq_true rfl) ?_
  refine lv_aload_n hx hb dX11_feed_54 rfl (lv_at hl 0 rfl) ?_
  refine va_get (D := D) (ci := 11) (v := .ref (a 1)) (C := RX11) (T := TX11) (N := 12) hx hb hts iX11 hown hK hP 0 rfl rfl 0 (by decide) (hts _ m_433) (fun _ h9 => h9) rfl dX11_feed_55 ?_
  refine va_getN (D := D) (ci := 8) (v := .int 20) (C := RX8) (T := TX8) (N := 2) (host := "WordSeats") hx hb hts iX8 hown hK hP 1 rfl rfl 1 (by decide) (va_Nw.use rfl (hN _ n_38)) (fun _ h9 => h9) rfl dX11_feed_58 ?_
  exact W.iret (v := 20) hx hb hr (fun t9 ht hW => ⟨⟨20, (), rfl, rfl, trivial⟩, hS.F ht⟩) hS.2.2 dX11_feed_61

set_option maxHeartbeats 4000000 in
set_option maxRecDepth 100000 in
theorem c_X11_end (l : Launch) (D : va_G) (t : Nat → ClassId) (a : Nat → Nat) (x : Int32) (sz : Nat) : Met l yX11_end (wd yX11_end cX11_end 2 (some .int)) (RM 0 0 0) (PreW D (TY t) [.ref (a 0), .int x] [(a 0, .inr (11, [.ref (a 1), .ref (a 20), .ref (a 3), .ref (a 40), .ref (a 4), .int 0, .ref (a 5), .ref (a 14), .ref (a 15), .ref (a 16), .ref (a 17), .ref (a 18)])), (a 1, .inr (8, [.ref (a 2), .int 0]))] sz) (va_Qi (fun (r : Int32) (_ : Unit) => r = (sp_end x)) (fun _ _ => True) (va_A [(a 0, .inr (11, [.ref (a 1), .ref (a 20), .ref (a 3), .ref (a 40), .ref (a 4), .int 0, .ref (a 5), .ref (a 14), .ref (a 15), .ref (a 16), .ref (a 17), .ref (a 18)])), (a 1, .inr (8, [.ref (a 2), .int 0]))] sz)) 0 0 (va_A [(a 0, .inr (11, [.ref (a 1), .ref (a 20), .ref (a 3), .ref (a 40), .ref (a 4), .int 0, .ref (a 5), .ref (a 14), .ref (a 15), .ref (a 16), .ref (a 17), .ref (a 18)])), (a 1, .inr (8, [.ref (a 2), .int 0]))] sz) := by
  refine Met.ofW (cc := cX11_end) (maxL := 2) (ret := (some .int)) (by decide) rfl ?_
  intro p e s m args below meth c s₁ B hml hv
  obtain ⟨rfl, hsz, hP, hK, hD0, hN⟩ := hv
  have hx := B.exec
  have hb := B.bytes
  have hr := B.returns
  have hts : ∀ w ∈ TB, w.before _ s = true := fun w h => atoms_spec (ws := wd yX11_end cX11_end 2 (some .int)) B.pre w (List.mem_cons_of_mem _ h)
  have hown : s.vm.findClass RX11 = some m.cls := findClass_of_methodNamed B.named
  have hlocks := B.notSynchronized
  have hF : CallFix p m c cX11_end 2 s _ TB RX11 := ⟨hx, hb, hml, hown, hts⟩
  have hl := lv_entry ([.ref (a 0), .int x]) (n := 2) (Nat.le_of_ble_eq_true rfl)
  rw [lg_entry_eq]
  generalize (lg_sl ([.ref (a 0), .int x]) ++ List.replicate (2 - (lg_sl ([.ref (a 0), .int x])).length) Slot.unset).toArray = ls at hl ⊢
  have hl : lv_has ls 2 [(0, .ref (a 0)), (1, .int x)] := hl
  subst hsz
  have hD := hD0.self (sz := s.heap.size)
  generalize hAe : va_A [(a 0, .inr (11, [.ref (a 1), .ref (a 20), .ref (a 3), .ref (a 40), .ref (a 4), .int 0, .ref (a 5), .ref (a 14), .ref (a 15), .ref (a 16), .ref (a 17), .ref (a 18)])), (a 1, .inr (8, [.ref (a 2), .int 0]))] s.heap.size = A at hD ⊢
  have hA : ∀ q : Nat, s.heap.size ≤ q → A q := fun q h => by rw [← hAe]; exact Or.inr h
  have hS : va_S A s.heap s.heap [] := va_S.rf
  have hP : va_P D classes [(a 0, .inr (11, [.ref (a 1), .ref (a 20), .ref (a 3), .ref (a 40), .ref (a 4), .int 0, .ref (a 5), .ref (a 14), .ref (a 15), .ref (a 16), .ref (a 17), .ref (a 18)])), (a 1, .inr (8, [.ref (a 2), .int 0]))] s.heap := hP
  refine lv_iload_n hx hb dX11_end_0 rfl (lv_at hl 1 rfl) ?_
  refine lv_if_lt (tgt := 15) hx hb dX11_end_1 (by decide) (fun c_1 => ?_) (fun c_1 => ?_)
  · refine lv_iconst (v := (-1)) hx hb dX11_end_15 (by decide) ?_
    exact W.iret (v := (-1)) hx hb hr (fun t9 ht hW => ⟨⟨(-1), (), rfl, (by unfold sp_end; rw [if_pos (ib0 (by have q0 := t_lt c_1; have e0 : (0 : Int32).toInt = 0 := (by decide); omega))]), trivial⟩, hS.F ht⟩) hS.2.2 dX11_end_16
  · refine lv_iload_n hx hb dX11_end_4 rfl (lv_at hl 1 rfl) ?_
    refine lv_aload_n hx hb dX11_end_5 rfl (lv_at hl 0 rfl) ?_
    refine va_get (D := D) (ci := 11) (v := .ref (a 1)) (C := RX11) (T := TX11) (N := 12) hx hb hts iX11 hown hK hP 0 rfl rfl 0 (by decide) (hts _ m_433) (fun _ h9 => h9) rfl dX11_end_6 ?_
    refine va_getN (D := D) (ci := 8) (v := .int 0) (C := RX8) (T := TX8) (N := 2) (host := "WordSeats") hx hb hts iX8 hown hK hP 1 rfl rfl 1 (by decide) (va_Nw.use rfl (hN _ n_38)) (fun _ h9 => h9) rfl dX11_end_9 ?_
    refine lv_icmp_le (tgt := 17) hx hb dX11_end_12 (by decide) (fun c_2 => ?_) (fun c_2 => ?_)
    · refine lv_aload_n hx hb dX11_end_17 rfl (lv_at hl 0 rfl) ?_
      refine va_get (D := D) (ci := 11) (v := .ref (a 1)) (C := RX11) (T := TX11) (N := 12) hx hb hts iX11 hown hK hP 0 rfl rfl 0 (by decide) (hts _ m_433) (fun _ h9 => h9) rfl dX11_end_18 ?_
      refine lv_iload_n hx hb dX11_end_21 rfl (lv_at hl 1 rfl) ?_
      refine va_putN (D := D) (ci := 8) (v := .int x) (ty := .int) (C := RX8) (T := TX8) (N := 2) (host := "WordSeats") hx hb hts iX8 tyX8 tyX8_ok nmX8 hown hK hP hD hS 1 rfl rfl 1 (by decide) (va_Nw.use rfl (hN _ n_38)) (fun _ h9 => h9) rfl (tyX8_ok 1 (by decide)) rfl rfl (Nat.le_of_ble_eq_true rfl) dX11_end_22 (fun H locs hP hD hS => ?_)
      have hP : va_P D classes [(a 0, .inr (11, [.ref (a 1), .ref (a 20), .ref (a 3), .ref (a 40), .ref (a 4), .int 0, .ref (a 5), .ref (a 14), .ref (a 15), .ref (a 16), .ref (a 17), .ref (a 18)])), (a 1, .inr (8, [.ref (a 2), .int x]))] H := hP
      have hD : va_D A [(a 0, .inr (11, [.ref (a 1), .ref (a 20), .ref (a 3), .ref (a 40), .ref (a 4), .int 0, .ref (a 5), .ref (a 14), .ref (a 15), .ref (a 16), .ref (a 17), .ref (a 18)])), (a 1, .inr (8, [.ref (a 2), .int x]))] := hD
      refine lv_iload_n hx hb dX11_end_25 rfl (lv_at hl 1 rfl) ?_
      exact W.iret (v := x) hx hb hr (fun t9 ht hW => ⟨⟨x, (), rfl, (by unfold sp_end; rw [if_neg (ib_n1 (ib1 (by have q0 := t_nlt c_1; have e0 : (0 : Int32).toInt = 0 := (by decide); have q1 := t_le c_2; have e1 : (0 : Int32).toInt = 0 := (by decide); omega)))]), trivial⟩, hS.F ht⟩) hS.2.2 dX11_end_26
    · refine lv_iconst (v := (-1)) hx hb dX11_end_15 (by decide) ?_
      exact W.iret (v := (-1)) hx hb hr (fun t9 ht hW => ⟨⟨(-1), (), rfl, (by unfold sp_end; rw [if_pos (ib0 (by have q0 := t_nlt c_1; have e0 : (0 : Int32).toInt = 0 := (by decide); have q1 := t_nle c_2; have e1 : (0 : Int32).toInt = 0 := (by decide); omega))]), trivial⟩, hS.F ht⟩) hS.2.2 dX11_end_16

set_option maxHeartbeats 4000000 in
set_option maxRecDepth 100000 in
theorem c_X4_advance (l : Launch) (D : va_G) (t : Nat → ClassId) (a : Nat → Nat) (sz : Nat) : Met l yX4_advance (wd yX4_advance cX4_advance 1 none) (RM 0 0 0) (PreW D (TY t) [.ref (a 3)] [(a 3, .inr (4, [.ref (a 1), .ref (a 20), .int 0, .int (-1), .int 0, .int 0, .int 0, .int 0])), (a 1, .inr (8, [.ref (a 2), .int 0]))] sz) (va_Qv (fun _ : Nat → Nat => True) (fun (u : Nat → Nat) t9 => va_P D classes ((fun u : Nat → Nat => [(a 3, .inr (4, [.ref (a 1), .ref (a 20), .int 0, .int (-1), .int 0, .int 0, .int 0, .int 0])), (a 1, .inr (8, [.ref (a 2), .int 0]))]) u) t9.heap ∧ va_D (va_A [(a 3, .inr (4, [.ref (a 1), .ref (a 20), .int 0, .int (-1), .int 0, .int 0, .int 0, .int 0])), (a 1, .inr (8, [.ref (a 2), .int 0]))] sz) ((fun u : Nat → Nat => [(a 3, .inr (4, [.ref (a 1), .ref (a 20), .int 0, .int (-1), .int 0, .int 0, .int 0, .int 0])), (a 1, .inr (8, [.ref (a 2), .int 0]))]) u)) (va_A [(a 3, .inr (4, [.ref (a 1), .ref (a 20), .int 0, .int (-1), .int 0, .int 0, .int 0, .int 0])), (a 1, .inr (8, [.ref (a 2), .int 0]))] sz)) 0 0 (va_A [(a 3, .inr (4, [.ref (a 1), .ref (a 20), .int 0, .int (-1), .int 0, .int 0, .int 0, .int 0])), (a 1, .inr (8, [.ref (a 2), .int 0]))] sz) := by
  refine Met.ofW (cc := cX4_advance) (maxL := 1) (ret := none) (by decide) rfl ?_
  intro p e s m args below meth c s₁ B hml hv
  obtain ⟨rfl, hsz, hP, hK, hD0, hN⟩ := hv
  have hx := B.exec
  have hb := B.bytes
  have hr := B.returns
  have hts : ∀ w ∈ TB, w.before _ s = true := fun w h => atoms_spec (ws := wd yX4_advance cX4_advance 1 none) B.pre w (List.mem_cons_of_mem _ h)
  have hown : s.vm.findClass RX4 = some m.cls := findClass_of_methodNamed B.named
  have hlocks := B.notSynchronized
  have hF : CallFix p m c cX4_advance 1 s _ TB RX4 := ⟨hx, hb, hml, hown, hts⟩
  have hl := lv_entry ([.ref (a 3)]) (n := 1) (Nat.le_of_ble_eq_true rfl)
  rw [lg_entry_eq]
  generalize (lg_sl ([.ref (a 3)]) ++ List.replicate (1 - (lg_sl ([.ref (a 3)])).length) Slot.unset).toArray = ls at hl ⊢
  have hl : lv_has ls 1 [(0, .ref (a 3))] := hl
  subst hsz
  have hD := hD0.self (sz := s.heap.size)
  generalize hAe : va_A [(a 3, .inr (4, [.ref (a 1), .ref (a 20), .int 0, .int (-1), .int 0, .int 0, .int 0, .int 0])), (a 1, .inr (8, [.ref (a 2), .int 0]))] s.heap.size = A at hD ⊢
  have hA : ∀ q : Nat, s.heap.size ≤ q → A q := fun q h => by rw [← hAe]; exact Or.inr h
  have hS : va_S A s.heap s.heap [] := va_S.rf
  have hP : va_P D classes [(a 3, .inr (4, [.ref (a 1), .ref (a 20), .int 0, .int (-1), .int 0, .int 0, .int 0, .int 0])), (a 1, .inr (8, [.ref (a 2), .int 0]))] s.heap := hP
  refine lv_aload_n hx hb dX4_advance_0 rfl (lv_at hl 0 rfl) ?_
  refine lv_aload_n hx hb dX4_advance_1 rfl (lv_at hl 0 rfl) ?_
  refine va_get (D := D) (ci := 4) (v := .int 0) (C := RX4) (T := TX4) (N := 8) hx hb hts iX4 hown hK hP 0 rfl rfl 6 (by decide) (hts _ m_247) (fun _ h9 => h9) rfl dX4_advance_2 ?_
  refine va_put (D := D) (ci := 4) (v := .int 0) (ty := .int) (C := RX4) (T := TX4) (N := 8) hx hb hts iX4 tyX4 tyX4_ok nmX4 hown hK hP hD hS 0 rfl rfl 5 (by decide) (hts _ m_246) (fun _ h9 => h9) rfl (tyX4_ok 5 (by decide)) rfl rfl (Nat.le_of_ble_eq_true rfl) dX4_advance_5 (fun H locs hP hD hS => ?_)
  have hP : va_P D classes [(a 3, .inr (4, [.ref (a 1), .ref (a 20), .int 0, .int (-1), .int 0, .int 0, .int 0, .int 0])), (a 1, .inr (8, [.ref (a 2), .int 0]))] H := hP
  have hD : va_D A [(a 3, .inr (4, [.ref (a 1), .ref (a 20), .int 0, .int (-1), .int 0, .int 0, .int 0, .int 0])), (a 1, .inr (8, [.ref (a 2), .int 0]))] := hD
  refine lv_aload_n hx hb dX4_advance_8 rfl (lv_at hl 0 rfl) ?_
  refine va_get (D := D) (ci := 4) (v := .int 0) (C := RX4) (T := TX4) (N := 8) hx hb hts iX4 hown hK hP 0 rfl rfl 5 (by decide) (hts _ m_246) (fun _ h9 => h9) rfl dX4_advance_9 ?_
  refine lv_aload_n hx hb dX4_advance_12 rfl (lv_at hl 0 rfl) ?_
  refine va_get (D := D) (ci := 4) (v := .ref (a 1)) (C := RX4) (T := TX4) (N := 8) hx hb hts iX4 hown hK hP 0 rfl rfl 0 (by decide) (hts _ m_239) (fun _ h9 => h9) rfl dX4_advance_13 ?_
  refine va_getN (D := D) (ci := 8) (v := .int 0) (C := RX8) (T := TX8) (N := 2) (host := "WordSeats") hx hb hts iX8 hown hK hP 1 rfl rfl 1 (by decide) (va_Nw.use rfl (hN _ n_39)) (fun _ h9 => h9) rfl dX4_advance_16 ?_
  refine lv_icmp_ge (tgt := 52) hx hb dX4_advance_19 (by decide) (fun _ => ?_) (fun c9 => absurd (by decide) c9)
  refine lv_aload_n hx hb dX4_advance_52 rfl (lv_at hl 0 rfl) ?_
  refine lv_aload_n hx hb dX4_advance_53 rfl (lv_at hl 0 rfl) ?_
  refine va_get (D := D) (ci := 4) (v := .int 0) (C := RX4) (T := TX4) (N := 8) hx hb hts iX4 hown hK hP 0 rfl rfl 5 (by decide) (hts _ m_246) (fun _ h9 => h9) rfl dX4_advance_54 ?_
  refine va_put (D := D) (ci := 4) (v := .int 0) (ty := .int) (C := RX4) (T := TX4) (N := 8) hx hb hts iX4 tyX4 tyX4_ok nmX4 hown hK hP hD hS 0 rfl rfl 6 (by decide) (hts _ m_247) (fun _ h9 => h9) rfl (tyX4_ok 6 (by decide)) rfl rfl (Nat.le_of_ble_eq_true rfl) dX4_advance_57 (fun H locs hP hD hS => ?_)
  have hP : va_P D classes [(a 3, .inr (4, [.ref (a 1), .ref (a 20), .int 0, .int (-1), .int 0, .int 0, .int 0, .int 0])), (a 1, .inr (8, [.ref (a 2), .int 0]))] H := hP
  have hD : va_D A [(a 3, .inr (4, [.ref (a 1), .ref (a 20), .int 0, .int (-1), .int 0, .int 0, .int 0, .int 0])), (a 1, .inr (8, [.ref (a 2), .int 0]))] := hD
  refine lv_aload_n hx hb dX4_advance_60 rfl (lv_at hl 0 rfl) ?_
  refine va_get (D := D) (ci := 4) (v := .int 0) (C := RX4) (T := TX4) (N := 8) hx hb hts iX4 hown hK hP 0 rfl rfl 5 (by decide) (hts _ m_246) (fun _ h9 => h9) rfl dX4_advance_61 ?_
  refine lv_aload_n hx hb dX4_advance_64 rfl (lv_at hl 0 rfl) ?_
  refine va_get (D := D) (ci := 4) (v := .ref (a 1)) (C := RX4) (T := TX4) (N := 8) hx hb hts iX4 hown hK hP 0 rfl rfl 0 (by decide) (hts _ m_239) (fun _ h9 => h9) rfl dX4_advance_65 ?_
  refine va_getN (D := D) (ci := 8) (v := .int 0) (C := RX8) (T := TX8) (N := 2) (host := "WordSeats") hx hb hts iX8 hown hK hP 1 rfl rfl 1 (by decide) (va_Nw.use rfl (hN _ n_39)) (fun _ h9 => h9) rfl dX4_advance_68 ?_
  refine lv_icmp_lt (tgt := 82) hx hb dX4_advance_71 (by decide) (fun c9 => absurd c9 (by decide)) (fun _ => ?_)
  refine lv_aload_n hx hb dX4_advance_74 rfl (lv_at hl 0 rfl) ?_
  refine lv_iconst (v := 0) hx hb dX4_advance_75 (by decide) ?_
  refine va_put (D := D) (ci := 4) (v := .int 0) (ty := .int) (C := RX4) (T := TX4) (N := 8) hx hb hts iX4 tyX4 tyX4_ok nmX4 hown hK hP hD hS 0 rfl rfl 4 (by decide) (hts _ m_245) (fun _ h9 => h9) rfl (tyX4_ok 4 (by decide)) rfl rfl (Nat.le_of_ble_eq_true rfl) dX4_advance_76 (fun H locs hP hD hS => ?_)
  have hP : va_P D classes [(a 3, .inr (4, [.ref (a 1), .ref (a 20), .int 0, .int (-1), .int 0, .int 0, .int 0, .int 0])), (a 1, .inr (8, [.ref (a 2), .int 0]))] H := hP
  have hD : va_D A [(a 3, .inr (4, [.ref (a 1), .ref (a 20), .int 0, .int (-1), .int 0, .int 0, .int 0, .int 0])), (a 1, .inr (8, [.ref (a 2), .int 0]))] := hD
  refine lv_goto (tgt := 286) hx hb dX4_advance_79 (by decide) ?_
  have hP9 := hP.sub (ws' := [(a 3, .inr (4, [.ref (a 1), .ref (a 20), .int 0, .int (-1), .int 0, .int 0, .int 0, .int 0])), (a 1, .inr (8, [.ref (a 2), .int 0]))]) [0, 1] rfl
  have hD9 := hD.sub (ws' := [(a 3, .inr (4, [.ref (a 1), .ref (a 20), .int 0, .int (-1), .int 0, .int 0, .int 0, .int 0])), (a 1, .inr (8, [.ref (a 2), .int 0]))]) [0, 1] (by decide) rfl
  exact W.vret hx hb hr (fun t9 ht hW => ⟨⟨(fun k => [].getD k 0), rfl, trivial, by rw [ht]; exact hP9, hD9⟩, hS.F ht⟩) hS.2.2 dX4_advance_286

set_option maxHeartbeats 4000000 in
set_option maxRecDepth 100000 in
theorem c_X0_open20 (l : Launch) (D : va_G) (t : Nat → ClassId) (a : Nat → Nat) (sz : Nat) : Met l yX0_open (wd yX0_open cX0_open 5 none) (RM 0 0 0) (PreW D (TY t) [.ref (a 20), .int 0, .int 0, .int 0, .int 0] [(a 20, .inr (0, [.int 0, .int 0, .int 0, .int 0, .int 0, .int 0, .int 0, .int 0, .ref (a 21), .ref (a 22), .ref (a 23), .ref (a 24), .ref (a 25), .ref (a 26), .ref (a 27), .ref (a 28), .ref (a 29), .ref (a 30), .ref (a 34)]))] sz) (va_Qv (fun _ : Nat → Nat => True) (fun (u : Nat → Nat) t9 => va_P D classes ((fun u : Nat → Nat => [(a 20, .inr (0, [.int 0, .int 0, .int 0, .int 0, .int 0, .int 0, .int 0, .int 0, .ref (a 21), .ref (a 22), .ref (a 23), .ref (a 24), .ref (a 25), .ref (a 26), .ref (a 27), .ref (a 28), .ref (a 29), .ref (a 30), .ref (a 34)]))]) u) t9.heap ∧ va_D (va_A [(a 20, .inr (0, [.int 0, .int 0, .int 0, .int 0, .int 0, .int 0, .int 0, .int 0, .ref (a 21), .ref (a 22), .ref (a 23), .ref (a 24), .ref (a 25), .ref (a 26), .ref (a 27), .ref (a 28), .ref (a 29), .ref (a 30), .ref (a 34)]))] sz) ((fun u : Nat → Nat => [(a 20, .inr (0, [.int 0, .int 0, .int 0, .int 0, .int 0, .int 0, .int 0, .int 0, .ref (a 21), .ref (a 22), .ref (a 23), .ref (a 24), .ref (a 25), .ref (a 26), .ref (a 27), .ref (a 28), .ref (a 29), .ref (a 30), .ref (a 34)]))]) u)) (va_A [(a 20, .inr (0, [.int 0, .int 0, .int 0, .int 0, .int 0, .int 0, .int 0, .int 0, .ref (a 21), .ref (a 22), .ref (a 23), .ref (a 24), .ref (a 25), .ref (a 26), .ref (a 27), .ref (a 28), .ref (a 29), .ref (a 30), .ref (a 34)]))] sz)) 0 0 (va_A [(a 20, .inr (0, [.int 0, .int 0, .int 0, .int 0, .int 0, .int 0, .int 0, .int 0, .ref (a 21), .ref (a 22), .ref (a 23), .ref (a 24), .ref (a 25), .ref (a 26), .ref (a 27), .ref (a 28), .ref (a 29), .ref (a 30), .ref (a 34)]))] sz) := by
  refine Met.ofW (cc := cX0_open) (maxL := 5) (ret := none) (by decide) rfl ?_
  intro p e s m args below meth c s₁ B hml hv
  obtain ⟨rfl, hsz, hP, hK, hD0, hN⟩ := hv
  have hx := B.exec
  have hb := B.bytes
  have hr := B.returns
  have hts : ∀ w ∈ TB, w.before _ s = true := fun w h => atoms_spec (ws := wd yX0_open cX0_open 5 none) B.pre w (List.mem_cons_of_mem _ h)
  have hown : s.vm.findClass RX0 = some m.cls := findClass_of_methodNamed B.named
  have hlocks := B.notSynchronized
  have hF : CallFix p m c cX0_open 5 s _ TB RX0 := ⟨hx, hb, hml, hown, hts⟩
  have hl := lv_entry ([.ref (a 20), .int 0, .int 0, .int 0, .int 0]) (n := 5) (Nat.le_of_ble_eq_true rfl)
  rw [lg_entry_eq]
  generalize (lg_sl ([.ref (a 20), .int 0, .int 0, .int 0, .int 0]) ++ List.replicate (5 - (lg_sl ([.ref (a 20), .int 0, .int 0, .int 0, .int 0])).length) Slot.unset).toArray = ls at hl ⊢
  have hl : lv_has ls 5 [(0, .ref (a 20)), (1, .int 0), (2, .int 0), (3, .int 0), (4, .int 0)] := hl
  subst hsz
  have hD := hD0.self (sz := s.heap.size)
  generalize hAe : va_A [(a 20, .inr (0, [.int 0, .int 0, .int 0, .int 0, .int 0, .int 0, .int 0, .int 0, .ref (a 21), .ref (a 22), .ref (a 23), .ref (a 24), .ref (a 25), .ref (a 26), .ref (a 27), .ref (a 28), .ref (a 29), .ref (a 30), .ref (a 34)]))] s.heap.size = A at hD ⊢
  have hA : ∀ q : Nat, s.heap.size ≤ q → A q := fun q h => by rw [← hAe]; exact Or.inr h
  have hS : va_S A s.heap s.heap [] := va_S.rf
  have hP : va_P D classes [(a 20, .inr (0, [.int 0, .int 0, .int 0, .int 0, .int 0, .int 0, .int 0, .int 0, .ref (a 21), .ref (a 22), .ref (a 23), .ref (a 24), .ref (a 25), .ref (a 26), .ref (a 27), .ref (a 28), .ref (a 29), .ref (a 30), .ref (a 34)]))] s.heap := hP
  refine lv_aload_n hx hb dX0_open_0 rfl (lv_at hl 0 rfl) ?_
  refine lv_iload_n hx hb dX0_open_1 rfl (lv_at hl 1 rfl) ?_
  refine va_put (D := D) (ci := 0) (v := .int 0) (ty := .int) (C := RX0) (T := TX0) (N := 19) hx hb hts iX0 tyX0 tyX0_ok nmX0 hown hK hP hD hS 0 rfl rfl 1 (by decide) (hts _ m_121) (fun _ h9 => h9) rfl (tyX0_ok 1 (by decide)) rfl rfl (Nat.le_of_ble_eq_true rfl) dX0_open_2 (fun H locs hP hD hS => ?_)
  have hP : va_P D classes [(a 20, .inr (0, [.int 0, .int 0, .int 0, .int 0, .int 0, .int 0, .int 0, .int 0, .ref (a 21), .ref (a 22), .ref (a 23), .ref (a 24), .ref (a 25), .ref (a 26), .ref (a 27), .ref (a 28), .ref (a 29), .ref (a 30), .ref (a 34)]))] H := hP
  have hD : va_D A [(a 20, .inr (0, [.int 0, .int 0, .int 0, .int 0, .int 0, .int 0, .int 0, .int 0, .ref (a 21), .ref (a 22), .ref (a 23), .ref (a 24), .ref (a 25), .ref (a 26), .ref (a 27), .ref (a 28), .ref (a 29), .ref (a 30), .ref (a 34)]))] := hD
  refine lv_aload_n hx hb dX0_open_5 rfl (lv_at hl 0 rfl) ?_
  refine lv_iload_n hx hb dX0_open_6 rfl (lv_at hl 2 rfl) ?_
  refine va_put (D := D) (ci := 0) (v := .int 0) (ty := .int) (C := RX0) (T := TX0) (N := 19) hx hb hts iX0 tyX0 tyX0_ok nmX0 hown hK hP hD hS 0 rfl rfl 2 (by decide) (hts _ m_125) (fun _ h9 => h9) rfl (tyX0_ok 2 (by decide)) rfl rfl (Nat.le_of_ble_eq_true rfl) dX0_open_7 (fun H locs hP hD hS => ?_)
  have hP : va_P D classes [(a 20, .inr (0, [.int 0, .int 0, .int 0, .int 0, .int 0, .int 0, .int 0, .int 0, .ref (a 21), .ref (a 22), .ref (a 23), .ref (a 24), .ref (a 25), .ref (a 26), .ref (a 27), .ref (a 28), .ref (a 29), .ref (a 30), .ref (a 34)]))] H := hP
  have hD : va_D A [(a 20, .inr (0, [.int 0, .int 0, .int 0, .int 0, .int 0, .int 0, .int 0, .int 0, .ref (a 21), .ref (a 22), .ref (a 23), .ref (a 24), .ref (a 25), .ref (a 26), .ref (a 27), .ref (a 28), .ref (a 29), .ref (a 30), .ref (a 34)]))] := hD
  refine lv_aload_n hx hb dX0_open_10 rfl (lv_at hl 0 rfl) ?_
  refine lv_iload_n hx hb dX0_open_11 rfl (lv_at hl 3 rfl) ?_
  refine va_put (D := D) (ci := 0) (v := .int 0) (ty := .int) (C := RX0) (T := TX0) (N := 19) hx hb hts iX0 tyX0 tyX0_ok nmX0 hown hK hP hD hS 0 rfl rfl 3 (by decide) (hts _ m_129) (fun _ h9 => h9) rfl (tyX0_ok 3 (by decide)) rfl rfl (Nat.le_of_ble_eq_true rfl) dX0_open_12 (fun H locs hP hD hS => ?_)
  have hP : va_P D classes [(a 20, .inr (0, [.int 0, .int 0, .int 0, .int 0, .int 0, .int 0, .int 0, .int 0, .ref (a 21), .ref (a 22), .ref (a 23), .ref (a 24), .ref (a 25), .ref (a 26), .ref (a 27), .ref (a 28), .ref (a 29), .ref (a 30), .ref (a 34)]))] H := hP
  have hD : va_D A [(a 20, .inr (0, [.int 0, .int 0, .int 0, .int 0, .int 0, .int 0, .int 0, .int 0, .ref (a 21), .ref (a 22), .ref (a 23), .ref (a 24), .ref (a 25), .ref (a 26), .ref (a 27), .ref (a 28), .ref (a 29), .ref (a 30), .ref (a 34)]))] := hD
  refine lv_aload_n hx hb dX0_open_15 rfl (lv_at hl 0 rfl) ?_
  refine lv_iload hx hb dX0_open_16 (lv_at hl 4 rfl) ?_
  refine va_put (D := D) (ci := 0) (v := .int 0) (ty := .int) (C := RX0) (T := TX0) (N := 19) hx hb hts iX0 tyX0 tyX0_ok nmX0 hown hK hP hD hS 0 rfl rfl 4 (by decide) (hts _ m_132) (fun _ h9 => h9) rfl (tyX0_ok 4 (by decide)) rfl rfl (Nat.le_of_ble_eq_true rfl) dX0_open_18 (fun H locs hP hD hS => ?_)
  have hP : va_P D classes [(a 20, .inr (0, [.int 0, .int 0, .int 0, .int 0, .int 0, .int 0, .int 0, .int 0, .ref (a 21), .ref (a 22), .ref (a 23), .ref (a 24), .ref (a 25), .ref (a 26), .ref (a 27), .ref (a 28), .ref (a 29), .ref (a 30), .ref (a 34)]))] H := hP
  have hD : va_D A [(a 20, .inr (0, [.int 0, .int 0, .int 0, .int 0, .int 0, .int 0, .int 0, .int 0, .ref (a 21), .ref (a 22), .ref (a 23), .ref (a 24), .ref (a 25), .ref (a 26), .ref (a 27), .ref (a 28), .ref (a 29), .ref (a 30), .ref (a 34)]))] := hD
  have hP9 := hP.sub (ws' := [(a 20, .inr (0, [.int 0, .int 0, .int 0, .int 0, .int 0, .int 0, .int 0, .int 0, .ref (a 21), .ref (a 22), .ref (a 23), .ref (a 24), .ref (a 25), .ref (a 26), .ref (a 27), .ref (a 28), .ref (a 29), .ref (a 30), .ref (a 34)]))]) [0] rfl
  have hD9 := hD.sub (ws' := [(a 20, .inr (0, [.int 0, .int 0, .int 0, .int 0, .int 0, .int 0, .int 0, .int 0, .ref (a 21), .ref (a 22), .ref (a 23), .ref (a 24), .ref (a 25), .ref (a 26), .ref (a 27), .ref (a 28), .ref (a 29), .ref (a 30), .ref (a 34)]))]) [0] (by decide) rfl
  exact W.vret hx hb hr (fun t9 ht hW => ⟨⟨(fun k => [].getD k 0), rfl, trivial, by rw [ht]; exact hP9, hD9⟩, hS.F ht⟩) hS.2.2 dX0_open_21

set_option maxHeartbeats 4000000 in
set_option maxRecDepth 100000 in
theorem c_X0_open40 (l : Launch) (D : va_G) (t : Nat → ClassId) (a : Nat → Nat) (sz : Nat) : Met l yX0_open (wd yX0_open cX0_open 5 none) (RM 0 0 0) (PreW D (TY t) [.ref (a 40), .int 0, .int 0, .int 0, .int 0] [(a 40, .inr (0, [.int 0, .int 0, .int 0, .int 0, .int 0, .int 0, .int 0, .int 0, .ref (a 41), .ref (a 42), .ref (a 43), .ref (a 44), .ref (a 45), .ref (a 46), .ref (a 47), .ref (a 48), .ref (a 49), .ref (a 50), .ref (a 54)]))] sz) (va_Qv (fun _ : Nat → Nat => True) (fun (u : Nat → Nat) t9 => va_P D classes ((fun u : Nat → Nat => [(a 40, .inr (0, [.int 0, .int 0, .int 0, .int 0, .int 0, .int 0, .int 0, .int 0, .ref (a 41), .ref (a 42), .ref (a 43), .ref (a 44), .ref (a 45), .ref (a 46), .ref (a 47), .ref (a 48), .ref (a 49), .ref (a 50), .ref (a 54)]))]) u) t9.heap ∧ va_D (va_A [(a 40, .inr (0, [.int 0, .int 0, .int 0, .int 0, .int 0, .int 0, .int 0, .int 0, .ref (a 41), .ref (a 42), .ref (a 43), .ref (a 44), .ref (a 45), .ref (a 46), .ref (a 47), .ref (a 48), .ref (a 49), .ref (a 50), .ref (a 54)]))] sz) ((fun u : Nat → Nat => [(a 40, .inr (0, [.int 0, .int 0, .int 0, .int 0, .int 0, .int 0, .int 0, .int 0, .ref (a 41), .ref (a 42), .ref (a 43), .ref (a 44), .ref (a 45), .ref (a 46), .ref (a 47), .ref (a 48), .ref (a 49), .ref (a 50), .ref (a 54)]))]) u)) (va_A [(a 40, .inr (0, [.int 0, .int 0, .int 0, .int 0, .int 0, .int 0, .int 0, .int 0, .ref (a 41), .ref (a 42), .ref (a 43), .ref (a 44), .ref (a 45), .ref (a 46), .ref (a 47), .ref (a 48), .ref (a 49), .ref (a 50), .ref (a 54)]))] sz)) 0 0 (va_A [(a 40, .inr (0, [.int 0, .int 0, .int 0, .int 0, .int 0, .int 0, .int 0, .int 0, .ref (a 41), .ref (a 42), .ref (a 43), .ref (a 44), .ref (a 45), .ref (a 46), .ref (a 47), .ref (a 48), .ref (a 49), .ref (a 50), .ref (a 54)]))] sz) := by
  refine Met.ofW (cc := cX0_open) (maxL := 5) (ret := none) (by decide) rfl ?_
  intro p e s m args below meth c s₁ B hml hv
  obtain ⟨rfl, hsz, hP, hK, hD0, hN⟩ := hv
  have hx := B.exec
  have hb := B.bytes
  have hr := B.returns
  have hts : ∀ w ∈ TB, w.before _ s = true := fun w h => atoms_spec (ws := wd yX0_open cX0_open 5 none) B.pre w (List.mem_cons_of_mem _ h)
  have hown : s.vm.findClass RX0 = some m.cls := findClass_of_methodNamed B.named
  have hlocks := B.notSynchronized
  have hF : CallFix p m c cX0_open 5 s _ TB RX0 := ⟨hx, hb, hml, hown, hts⟩
  have hl := lv_entry ([.ref (a 40), .int 0, .int 0, .int 0, .int 0]) (n := 5) (Nat.le_of_ble_eq_true rfl)
  rw [lg_entry_eq]
  generalize (lg_sl ([.ref (a 40), .int 0, .int 0, .int 0, .int 0]) ++ List.replicate (5 - (lg_sl ([.ref (a 40), .int 0, .int 0, .int 0, .int 0])).length) Slot.unset).toArray = ls at hl ⊢
  have hl : lv_has ls 5 [(0, .ref (a 40)), (1, .int 0), (2, .int 0), (3, .int 0), (4, .int 0)] := hl
  subst hsz
  have hD := hD0.self (sz := s.heap.size)
  generalize hAe : va_A [(a 40, .inr (0, [.int 0, .int 0, .int 0, .int 0, .int 0, .int 0, .int 0, .int 0, .ref (a 41), .ref (a 42), .ref (a 43), .ref (a 44), .ref (a 45), .ref (a 46), .ref (a 47), .ref (a 48), .ref (a 49), .ref (a 50), .ref (a 54)]))] s.heap.size = A at hD ⊢
  have hA : ∀ q : Nat, s.heap.size ≤ q → A q := fun q h => by rw [← hAe]; exact Or.inr h
  have hS : va_S A s.heap s.heap [] := va_S.rf
  have hP : va_P D classes [(a 40, .inr (0, [.int 0, .int 0, .int 0, .int 0, .int 0, .int 0, .int 0, .int 0, .ref (a 41), .ref (a 42), .ref (a 43), .ref (a 44), .ref (a 45), .ref (a 46), .ref (a 47), .ref (a 48), .ref (a 49), .ref (a 50), .ref (a 54)]))] s.heap := hP
  refine lv_aload_n hx hb dX0_open_0 rfl (lv_at hl 0 rfl) ?_
  refine lv_iload_n hx hb dX0_open_1 rfl (lv_at hl 1 rfl) ?_
  refine va_put (D := D) (ci := 0) (v := .int 0) (ty := .int) (C := RX0) (T := TX0) (N := 19) hx hb hts iX0 tyX0 tyX0_ok nmX0 hown hK hP hD hS 0 rfl rfl 1 (by decide) (hts _ m_121) (fun _ h9 => h9) rfl (tyX0_ok 1 (by decide)) rfl rfl (Nat.le_of_ble_eq_true rfl) dX0_open_2 (fun H locs hP hD hS => ?_)
  have hP : va_P D classes [(a 40, .inr (0, [.int 0, .int 0, .int 0, .int 0, .int 0, .int 0, .int 0, .int 0, .ref (a 41), .ref (a 42), .ref (a 43), .ref (a 44), .ref (a 45), .ref (a 46), .ref (a 47), .ref (a 48), .ref (a 49), .ref (a 50), .ref (a 54)]))] H := hP
  have hD : va_D A [(a 40, .inr (0, [.int 0, .int 0, .int 0, .int 0, .int 0, .int 0, .int 0, .int 0, .ref (a 41), .ref (a 42), .ref (a 43), .ref (a 44), .ref (a 45), .ref (a 46), .ref (a 47), .ref (a 48), .ref (a 49), .ref (a 50), .ref (a 54)]))] := hD
  refine lv_aload_n hx hb dX0_open_5 rfl (lv_at hl 0 rfl) ?_
  refine lv_iload_n hx hb dX0_open_6 rfl (lv_at hl 2 rfl) ?_
  refine va_put (D := D) (ci := 0) (v := .int 0) (ty := .int) (C := RX0) (T := TX0) (N := 19) hx hb hts iX0 tyX0 tyX0_ok nmX0 hown hK hP hD hS 0 rfl rfl 2 (by decide) (hts _ m_125) (fun _ h9 => h9) rfl (tyX0_ok 2 (by decide)) rfl rfl (Nat.le_of_ble_eq_true rfl) dX0_open_7 (fun H locs hP hD hS => ?_)
  have hP : va_P D classes [(a 40, .inr (0, [.int 0, .int 0, .int 0, .int 0, .int 0, .int 0, .int 0, .int 0, .ref (a 41), .ref (a 42), .ref (a 43), .ref (a 44), .ref (a 45), .ref (a 46), .ref (a 47), .ref (a 48), .ref (a 49), .ref (a 50), .ref (a 54)]))] H := hP
  have hD : va_D A [(a 40, .inr (0, [.int 0, .int 0, .int 0, .int 0, .int 0, .int 0, .int 0, .int 0, .ref (a 41), .ref (a 42), .ref (a 43), .ref (a 44), .ref (a 45), .ref (a 46), .ref (a 47), .ref (a 48), .ref (a 49), .ref (a 50), .ref (a 54)]))] := hD
  refine lv_aload_n hx hb dX0_open_10 rfl (lv_at hl 0 rfl) ?_
  refine lv_iload_n hx hb dX0_open_11 rfl (lv_at hl 3 rfl) ?_
  refine va_put (D := D) (ci := 0) (v := .int 0) (ty := .int) (C := RX0) (T := TX0) (N := 19) hx hb hts iX0 tyX0 tyX0_ok nmX0 hown hK hP hD hS 0 rfl rfl 3 (by decide) (hts _ m_129) (fun _ h9 => h9) rfl (tyX0_ok 3 (by decide)) rfl rfl (Nat.le_of_ble_eq_true rfl) dX0_open_12 (fun H locs hP hD hS => ?_)
  have hP : va_P D classes [(a 40, .inr (0, [.int 0, .int 0, .int 0, .int 0, .int 0, .int 0, .int 0, .int 0, .ref (a 41), .ref (a 42), .ref (a 43), .ref (a 44), .ref (a 45), .ref (a 46), .ref (a 47), .ref (a 48), .ref (a 49), .ref (a 50), .ref (a 54)]))] H := hP
  have hD : va_D A [(a 40, .inr (0, [.int 0, .int 0, .int 0, .int 0, .int 0, .int 0, .int 0, .int 0, .ref (a 41), .ref (a 42), .ref (a 43), .ref (a 44), .ref (a 45), .ref (a 46), .ref (a 47), .ref (a 48), .ref (a 49), .ref (a 50), .ref (a 54)]))] := hD
  refine lv_aload_n hx hb dX0_open_15 rfl (lv_at hl 0 rfl) ?_
  refine lv_iload hx hb dX0_open_16 (lv_at hl 4 rfl) ?_
  refine va_put (D := D) (ci := 0) (v := .int 0) (ty := .int) (C := RX0) (T := TX0) (N := 19) hx hb hts iX0 tyX0 tyX0_ok nmX0 hown hK hP hD hS 0 rfl rfl 4 (by decide) (hts _ m_132) (fun _ h9 => h9) rfl (tyX0_ok 4 (by decide)) rfl rfl (Nat.le_of_ble_eq_true rfl) dX0_open_18 (fun H locs hP hD hS => ?_)
  have hP : va_P D classes [(a 40, .inr (0, [.int 0, .int 0, .int 0, .int 0, .int 0, .int 0, .int 0, .int 0, .ref (a 41), .ref (a 42), .ref (a 43), .ref (a 44), .ref (a 45), .ref (a 46), .ref (a 47), .ref (a 48), .ref (a 49), .ref (a 50), .ref (a 54)]))] H := hP
  have hD : va_D A [(a 40, .inr (0, [.int 0, .int 0, .int 0, .int 0, .int 0, .int 0, .int 0, .int 0, .ref (a 41), .ref (a 42), .ref (a 43), .ref (a 44), .ref (a 45), .ref (a 46), .ref (a 47), .ref (a 48), .ref (a 49), .ref (a 50), .ref (a 54)]))] := hD
  have hP9 := hP.sub (ws' := [(a 40, .inr (0, [.int 0, .int 0, .int 0, .int 0, .int 0, .int 0, .int 0, .int 0, .ref (a 41), .ref (a 42), .ref (a 43), .ref (a 44), .ref (a 45), .ref (a 46), .ref (a 47), .ref (a 48), .ref (a 49), .ref (a 50), .ref (a 54)]))]) [0] rfl
  have hD9 := hD.sub (ws' := [(a 40, .inr (0, [.int 0, .int 0, .int 0, .int 0, .int 0, .int 0, .int 0, .int 0, .ref (a 41), .ref (a 42), .ref (a 43), .ref (a 44), .ref (a 45), .ref (a 46), .ref (a 47), .ref (a 48), .ref (a 49), .ref (a 50), .ref (a 54)]))]) [0] (by decide) rfl
  exact W.vret hx hb hr (fun t9 ht hW => ⟨⟨(fun k => [].getD k 0), rfl, trivial, by rw [ht]; exact hP9, hD9⟩, hS.F ht⟩) hS.2.2 dX0_open_21

set_option maxHeartbeats 4000000 in
set_option maxRecDepth 100000 in
theorem c_X0_open60 (l : Launch) (D : va_G) (t : Nat → ClassId) (a : Nat → Nat) (sz : Nat) : Met l yX0_open (wd yX0_open cX0_open 5 none) (RM 0 0 0) (PreW D (TY t) [.ref (a 60), .int 0, .int 0, .int 0, .int 0] [(a 60, .inr (0, [.int 0, .int 0, .int 0, .int 0, .int 0, .int 0, .int 0, .int 0, .ref (a 61), .ref (a 62), .ref (a 63), .ref (a 64), .ref (a 65), .ref (a 66), .ref (a 67), .ref (a 68), .ref (a 69), .ref (a 70), .ref (a 74)]))] sz) (va_Qv (fun _ : Nat → Nat => True) (fun (u : Nat → Nat) t9 => va_P D classes ((fun u : Nat → Nat => [(a 60, .inr (0, [.int 0, .int 0, .int 0, .int 0, .int 0, .int 0, .int 0, .int 0, .ref (a 61), .ref (a 62), .ref (a 63), .ref (a 64), .ref (a 65), .ref (a 66), .ref (a 67), .ref (a 68), .ref (a 69), .ref (a 70), .ref (a 74)]))]) u) t9.heap ∧ va_D (va_A [(a 60, .inr (0, [.int 0, .int 0, .int 0, .int 0, .int 0, .int 0, .int 0, .int 0, .ref (a 61), .ref (a 62), .ref (a 63), .ref (a 64), .ref (a 65), .ref (a 66), .ref (a 67), .ref (a 68), .ref (a 69), .ref (a 70), .ref (a 74)]))] sz) ((fun u : Nat → Nat => [(a 60, .inr (0, [.int 0, .int 0, .int 0, .int 0, .int 0, .int 0, .int 0, .int 0, .ref (a 61), .ref (a 62), .ref (a 63), .ref (a 64), .ref (a 65), .ref (a 66), .ref (a 67), .ref (a 68), .ref (a 69), .ref (a 70), .ref (a 74)]))]) u)) (va_A [(a 60, .inr (0, [.int 0, .int 0, .int 0, .int 0, .int 0, .int 0, .int 0, .int 0, .ref (a 61), .ref (a 62), .ref (a 63), .ref (a 64), .ref (a 65), .ref (a 66), .ref (a 67), .ref (a 68), .ref (a 69), .ref (a 70), .ref (a 74)]))] sz)) 0 0 (va_A [(a 60, .inr (0, [.int 0, .int 0, .int 0, .int 0, .int 0, .int 0, .int 0, .int 0, .ref (a 61), .ref (a 62), .ref (a 63), .ref (a 64), .ref (a 65), .ref (a 66), .ref (a 67), .ref (a 68), .ref (a 69), .ref (a 70), .ref (a 74)]))] sz) := by
  refine Met.ofW (cc := cX0_open) (maxL := 5) (ret := none) (by decide) rfl ?_
  intro p e s m args below meth c s₁ B hml hv
  obtain ⟨rfl, hsz, hP, hK, hD0, hN⟩ := hv
  have hx := B.exec
  have hb := B.bytes
  have hr := B.returns
  have hts : ∀ w ∈ TB, w.before _ s = true := fun w h => atoms_spec (ws := wd yX0_open cX0_open 5 none) B.pre w (List.mem_cons_of_mem _ h)
  have hown : s.vm.findClass RX0 = some m.cls := findClass_of_methodNamed B.named
  have hlocks := B.notSynchronized
  have hF : CallFix p m c cX0_open 5 s _ TB RX0 := ⟨hx, hb, hml, hown, hts⟩
  have hl := lv_entry ([.ref (a 60), .int 0, .int 0, .int 0, .int 0]) (n := 5) (Nat.le_of_ble_eq_true rfl)
  rw [lg_entry_eq]
  generalize (lg_sl ([.ref (a 60), .int 0, .int 0, .int 0, .int 0]) ++ List.replicate (5 - (lg_sl ([.ref (a 60), .int 0, .int 0, .int 0, .int 0])).length) Slot.unset).toArray = ls at hl ⊢
  have hl : lv_has ls 5 [(0, .ref (a 60)), (1, .int 0), (2, .int 0), (3, .int 0), (4, .int 0)] := hl
  subst hsz
  have hD := hD0.self (sz := s.heap.size)
  generalize hAe : va_A [(a 60, .inr (0, [.int 0, .int 0, .int 0, .int 0, .int 0, .int 0, .int 0, .int 0, .ref (a 61), .ref (a 62), .ref (a 63), .ref (a 64), .ref (a 65), .ref (a 66), .ref (a 67), .ref (a 68), .ref (a 69), .ref (a 70), .ref (a 74)]))] s.heap.size = A at hD ⊢
  have hA : ∀ q : Nat, s.heap.size ≤ q → A q := fun q h => by rw [← hAe]; exact Or.inr h
  have hS : va_S A s.heap s.heap [] := va_S.rf
  have hP : va_P D classes [(a 60, .inr (0, [.int 0, .int 0, .int 0, .int 0, .int 0, .int 0, .int 0, .int 0, .ref (a 61), .ref (a 62), .ref (a 63), .ref (a 64), .ref (a 65), .ref (a 66), .ref (a 67), .ref (a 68), .ref (a 69), .ref (a 70), .ref (a 74)]))] s.heap := hP
  refine lv_aload_n hx hb dX0_open_0 rfl (lv_at hl 0 rfl) ?_
  refine lv_iload_n hx hb dX0_open_1 rfl (lv_at hl 1 rfl) ?_
  refine va_put (D := D) (ci := 0) (v := .int 0) (ty := .int) (C := RX0) (T := TX0) (N := 19) hx hb hts iX0 tyX0 tyX0_ok nmX0 hown hK hP hD hS 0 rfl rfl 1 (by decide) (hts _ m_121) (fun _ h9 => h9) rfl (tyX0_ok 1 (by decide)) rfl rfl (Nat.le_of_ble_eq_true rfl) dX0_open_2 (fun H locs hP hD hS => ?_)
  have hP : va_P D classes [(a 60, .inr (0, [.int 0, .int 0, .int 0, .int 0, .int 0, .int 0, .int 0, .int 0, .ref (a 61), .ref (a 62), .ref (a 63), .ref (a 64), .ref (a 65), .ref (a 66), .ref (a 67), .ref (a 68), .ref (a 69), .ref (a 70), .ref (a 74)]))] H := hP
  have hD : va_D A [(a 60, .inr (0, [.int 0, .int 0, .int 0, .int 0, .int 0, .int 0, .int 0, .int 0, .ref (a 61), .ref (a 62), .ref (a 63), .ref (a 64), .ref (a 65), .ref (a 66), .ref (a 67), .ref (a 68), .ref (a 69), .ref (a 70), .ref (a 74)]))] := hD
  refine lv_aload_n hx hb dX0_open_5 rfl (lv_at hl 0 rfl) ?_
  refine lv_iload_n hx hb dX0_open_6 rfl (lv_at hl 2 rfl) ?_
  refine va_put (D := D) (ci := 0) (v := .int 0) (ty := .int) (C := RX0) (T := TX0) (N := 19) hx hb hts iX0 tyX0 tyX0_ok nmX0 hown hK hP hD hS 0 rfl rfl 2 (by decide) (hts _ m_125) (fun _ h9 => h9) rfl (tyX0_ok 2 (by decide)) rfl rfl (Nat.le_of_ble_eq_true rfl) dX0_open_7 (fun H locs hP hD hS => ?_)
  have hP : va_P D classes [(a 60, .inr (0, [.int 0, .int 0, .int 0, .int 0, .int 0, .int 0, .int 0, .int 0, .ref (a 61), .ref (a 62), .ref (a 63), .ref (a 64), .ref (a 65), .ref (a 66), .ref (a 67), .ref (a 68), .ref (a 69), .ref (a 70), .ref (a 74)]))] H := hP
  have hD : va_D A [(a 60, .inr (0, [.int 0, .int 0, .int 0, .int 0, .int 0, .int 0, .int 0, .int 0, .ref (a 61), .ref (a 62), .ref (a 63), .ref (a 64), .ref (a 65), .ref (a 66), .ref (a 67), .ref (a 68), .ref (a 69), .ref (a 70), .ref (a 74)]))] := hD
  refine lv_aload_n hx hb dX0_open_10 rfl (lv_at hl 0 rfl) ?_
  refine lv_iload_n hx hb dX0_open_11 rfl (lv_at hl 3 rfl) ?_
  refine va_put (D := D) (ci := 0) (v := .int 0) (ty := .int) (C := RX0) (T := TX0) (N := 19) hx hb hts iX0 tyX0 tyX0_ok nmX0 hown hK hP hD hS 0 rfl rfl 3 (by decide) (hts _ m_129) (fun _ h9 => h9) rfl (tyX0_ok 3 (by decide)) rfl rfl (Nat.le_of_ble_eq_true rfl) dX0_open_12 (fun H locs hP hD hS => ?_)
  have hP : va_P D classes [(a 60, .inr (0, [.int 0, .int 0, .int 0, .int 0, .int 0, .int 0, .int 0, .int 0, .ref (a 61), .ref (a 62), .ref (a 63), .ref (a 64), .ref (a 65), .ref (a 66), .ref (a 67), .ref (a 68), .ref (a 69), .ref (a 70), .ref (a 74)]))] H := hP
  have hD : va_D A [(a 60, .inr (0, [.int 0, .int 0, .int 0, .int 0, .int 0, .int 0, .int 0, .int 0, .ref (a 61), .ref (a 62), .ref (a 63), .ref (a 64), .ref (a 65), .ref (a 66), .ref (a 67), .ref (a 68), .ref (a 69), .ref (a 70), .ref (a 74)]))] := hD
  refine lv_aload_n hx hb dX0_open_15 rfl (lv_at hl 0 rfl) ?_
  refine lv_iload hx hb dX0_open_16 (lv_at hl 4 rfl) ?_
  refine va_put (D := D) (ci := 0) (v := .int 0) (ty := .int) (C := RX0) (T := TX0) (N := 19) hx hb hts iX0 tyX0 tyX0_ok nmX0 hown hK hP hD hS 0 rfl rfl 4 (by decide) (hts _ m_132) (fun _ h9 => h9) rfl (tyX0_ok 4 (by decide)) rfl rfl (Nat.le_of_ble_eq_true rfl) dX0_open_18 (fun H locs hP hD hS => ?_)
  have hP : va_P D classes [(a 60, .inr (0, [.int 0, .int 0, .int 0, .int 0, .int 0, .int 0, .int 0, .int 0, .ref (a 61), .ref (a 62), .ref (a 63), .ref (a 64), .ref (a 65), .ref (a 66), .ref (a 67), .ref (a 68), .ref (a 69), .ref (a 70), .ref (a 74)]))] H := hP
  have hD : va_D A [(a 60, .inr (0, [.int 0, .int 0, .int 0, .int 0, .int 0, .int 0, .int 0, .int 0, .ref (a 61), .ref (a 62), .ref (a 63), .ref (a 64), .ref (a 65), .ref (a 66), .ref (a 67), .ref (a 68), .ref (a 69), .ref (a 70), .ref (a 74)]))] := hD
  have hP9 := hP.sub (ws' := [(a 60, .inr (0, [.int 0, .int 0, .int 0, .int 0, .int 0, .int 0, .int 0, .int 0, .ref (a 61), .ref (a 62), .ref (a 63), .ref (a 64), .ref (a 65), .ref (a 66), .ref (a 67), .ref (a 68), .ref (a 69), .ref (a 70), .ref (a 74)]))]) [0] rfl
  have hD9 := hD.sub (ws' := [(a 60, .inr (0, [.int 0, .int 0, .int 0, .int 0, .int 0, .int 0, .int 0, .int 0, .ref (a 61), .ref (a 62), .ref (a 63), .ref (a 64), .ref (a 65), .ref (a 66), .ref (a 67), .ref (a 68), .ref (a 69), .ref (a 70), .ref (a 74)]))]) [0] (by decide) rfl
  exact W.vret hx hb hr (fun t9 ht hW => ⟨⟨(fun k => [].getD k 0), rfl, trivial, by rw [ht]; exact hP9, hD9⟩, hS.F ht⟩) hS.2.2 dX0_open_21

set_option maxHeartbeats 4000000 in
set_option maxRecDepth 100000 in
theorem c_X0_open80 (l : Launch) (D : va_G) (t : Nat → ClassId) (a : Nat → Nat) (sz : Nat) : Met l yX0_open (wd yX0_open cX0_open 5 none) (RM 0 0 0) (PreW D (TY t) [.ref (a 80), .int 0, .int 0, .int 0, .int 0] [(a 80, .inr (0, [.int 0, .int 0, .int 0, .int 0, .int 0, .int 0, .int 0, .int 0, .ref (a 81), .ref (a 82), .ref (a 83), .ref (a 84), .ref (a 85), .ref (a 86), .ref (a 87), .ref (a 88), .ref (a 89), .ref (a 90), .ref (a 94)]))] sz) (va_Qv (fun _ : Nat → Nat => True) (fun (u : Nat → Nat) t9 => va_P D classes ((fun u : Nat → Nat => [(a 80, .inr (0, [.int 0, .int 0, .int 0, .int 0, .int 0, .int 0, .int 0, .int 0, .ref (a 81), .ref (a 82), .ref (a 83), .ref (a 84), .ref (a 85), .ref (a 86), .ref (a 87), .ref (a 88), .ref (a 89), .ref (a 90), .ref (a 94)]))]) u) t9.heap ∧ va_D (va_A [(a 80, .inr (0, [.int 0, .int 0, .int 0, .int 0, .int 0, .int 0, .int 0, .int 0, .ref (a 81), .ref (a 82), .ref (a 83), .ref (a 84), .ref (a 85), .ref (a 86), .ref (a 87), .ref (a 88), .ref (a 89), .ref (a 90), .ref (a 94)]))] sz) ((fun u : Nat → Nat => [(a 80, .inr (0, [.int 0, .int 0, .int 0, .int 0, .int 0, .int 0, .int 0, .int 0, .ref (a 81), .ref (a 82), .ref (a 83), .ref (a 84), .ref (a 85), .ref (a 86), .ref (a 87), .ref (a 88), .ref (a 89), .ref (a 90), .ref (a 94)]))]) u)) (va_A [(a 80, .inr (0, [.int 0, .int 0, .int 0, .int 0, .int 0, .int 0, .int 0, .int 0, .ref (a 81), .ref (a 82), .ref (a 83), .ref (a 84), .ref (a 85), .ref (a 86), .ref (a 87), .ref (a 88), .ref (a 89), .ref (a 90), .ref (a 94)]))] sz)) 0 0 (va_A [(a 80, .inr (0, [.int 0, .int 0, .int 0, .int 0, .int 0, .int 0, .int 0, .int 0, .ref (a 81), .ref (a 82), .ref (a 83), .ref (a 84), .ref (a 85), .ref (a 86), .ref (a 87), .ref (a 88), .ref (a 89), .ref (a 90), .ref (a 94)]))] sz) := by
  refine Met.ofW (cc := cX0_open) (maxL := 5) (ret := none) (by decide) rfl ?_
  intro p e s m args below meth c s₁ B hml hv
  obtain ⟨rfl, hsz, hP, hK, hD0, hN⟩ := hv
  have hx := B.exec
  have hb := B.bytes
  have hr := B.returns
  have hts : ∀ w ∈ TB, w.before _ s = true := fun w h => atoms_spec (ws := wd yX0_open cX0_open 5 none) B.pre w (List.mem_cons_of_mem _ h)
  have hown : s.vm.findClass RX0 = some m.cls := findClass_of_methodNamed B.named
  have hlocks := B.notSynchronized
  have hF : CallFix p m c cX0_open 5 s _ TB RX0 := ⟨hx, hb, hml, hown, hts⟩
  have hl := lv_entry ([.ref (a 80), .int 0, .int 0, .int 0, .int 0]) (n := 5) (Nat.le_of_ble_eq_true rfl)
  rw [lg_entry_eq]
  generalize (lg_sl ([.ref (a 80), .int 0, .int 0, .int 0, .int 0]) ++ List.replicate (5 - (lg_sl ([.ref (a 80), .int 0, .int 0, .int 0, .int 0])).length) Slot.unset).toArray = ls at hl ⊢
  have hl : lv_has ls 5 [(0, .ref (a 80)), (1, .int 0), (2, .int 0), (3, .int 0), (4, .int 0)] := hl
  subst hsz
  have hD := hD0.self (sz := s.heap.size)
  generalize hAe : va_A [(a 80, .inr (0, [.int 0, .int 0, .int 0, .int 0, .int 0, .int 0, .int 0, .int 0, .ref (a 81), .ref (a 82), .ref (a 83), .ref (a 84), .ref (a 85), .ref (a 86), .ref (a 87), .ref (a 88), .ref (a 89), .ref (a 90), .ref (a 94)]))] s.heap.size = A at hD ⊢
  have hA : ∀ q : Nat, s.heap.size ≤ q → A q := fun q h => by rw [← hAe]; exact Or.inr h
  have hS : va_S A s.heap s.heap [] := va_S.rf
  have hP : va_P D classes [(a 80, .inr (0, [.int 0, .int 0, .int 0, .int 0, .int 0, .int 0, .int 0, .int 0, .ref (a 81), .ref (a 82), .ref (a 83), .ref (a 84), .ref (a 85), .ref (a 86), .ref (a 87), .ref (a 88), .ref (a 89), .ref (a 90), .ref (a 94)]))] s.heap := hP
  refine lv_aload_n hx hb dX0_open_0 rfl (lv_at hl 0 rfl) ?_
  refine lv_iload_n hx hb dX0_open_1 rfl (lv_at hl 1 rfl) ?_
  refine va_put (D := D) (ci := 0) (v := .int 0) (ty := .int) (C := RX0) (T := TX0) (N := 19) hx hb hts iX0 tyX0 tyX0_ok nmX0 hown hK hP hD hS 0 rfl rfl 1 (by decide) (hts _ m_121) (fun _ h9 => h9) rfl (tyX0_ok 1 (by decide)) rfl rfl (Nat.le_of_ble_eq_true rfl) dX0_open_2 (fun H locs hP hD hS => ?_)
  have hP : va_P D classes [(a 80, .inr (0, [.int 0, .int 0, .int 0, .int 0, .int 0, .int 0, .int 0, .int 0, .ref (a 81), .ref (a 82), .ref (a 83), .ref (a 84), .ref (a 85), .ref (a 86), .ref (a 87), .ref (a 88), .ref (a 89), .ref (a 90), .ref (a 94)]))] H := hP
  have hD : va_D A [(a 80, .inr (0, [.int 0, .int 0, .int 0, .int 0, .int 0, .int 0, .int 0, .int 0, .ref (a 81), .ref (a 82), .ref (a 83), .ref (a 84), .ref (a 85), .ref (a 86), .ref (a 87), .ref (a 88), .ref (a 89), .ref (a 90), .ref (a 94)]))] := hD
  refine lv_aload_n hx hb dX0_open_5 rfl (lv_at hl 0 rfl) ?_
  refine lv_iload_n hx hb dX0_open_6 rfl (lv_at hl 2 rfl) ?_
  refine va_put (D := D) (ci := 0) (v := .int 0) (ty := .int) (C := RX0) (T := TX0) (N := 19) hx hb hts iX0 tyX0 tyX0_ok nmX0 hown hK hP hD hS 0 rfl rfl 2 (by decide) (hts _ m_125) (fun _ h9 => h9) rfl (tyX0_ok 2 (by decide)) rfl rfl (Nat.le_of_ble_eq_true rfl) dX0_open_7 (fun H locs hP hD hS => ?_)
  have hP : va_P D classes [(a 80, .inr (0, [.int 0, .int 0, .int 0, .int 0, .int 0, .int 0, .int 0, .int 0, .ref (a 81), .ref (a 82), .ref (a 83), .ref (a 84), .ref (a 85), .ref (a 86), .ref (a 87), .ref (a 88), .ref (a 89), .ref (a 90), .ref (a 94)]))] H := hP
  have hD : va_D A [(a 80, .inr (0, [.int 0, .int 0, .int 0, .int 0, .int 0, .int 0, .int 0, .int 0, .ref (a 81), .ref (a 82), .ref (a 83), .ref (a 84), .ref (a 85), .ref (a 86), .ref (a 87), .ref (a 88), .ref (a 89), .ref (a 90), .ref (a 94)]))] := hD
  refine lv_aload_n hx hb dX0_open_10 rfl (lv_at hl 0 rfl) ?_
  refine lv_iload_n hx hb dX0_open_11 rfl (lv_at hl 3 rfl) ?_
  refine va_put (D := D) (ci := 0) (v := .int 0) (ty := .int) (C := RX0) (T := TX0) (N := 19) hx hb hts iX0 tyX0 tyX0_ok nmX0 hown hK hP hD hS 0 rfl rfl 3 (by decide) (hts _ m_129) (fun _ h9 => h9) rfl (tyX0_ok 3 (by decide)) rfl rfl (Nat.le_of_ble_eq_true rfl) dX0_open_12 (fun H locs hP hD hS => ?_)
  have hP : va_P D classes [(a 80, .inr (0, [.int 0, .int 0, .int 0, .int 0, .int 0, .int 0, .int 0, .int 0, .ref (a 81), .ref (a 82), .ref (a 83), .ref (a 84), .ref (a 85), .ref (a 86), .ref (a 87), .ref (a 88), .ref (a 89), .ref (a 90), .ref (a 94)]))] H := hP
  have hD : va_D A [(a 80, .inr (0, [.int 0, .int 0, .int 0, .int 0, .int 0, .int 0, .int 0, .int 0, .ref (a 81), .ref (a 82), .ref (a 83), .ref (a 84), .ref (a 85), .ref (a 86), .ref (a 87), .ref (a 88), .ref (a 89), .ref (a 90), .ref (a 94)]))] := hD
  refine lv_aload_n hx hb dX0_open_15 rfl (lv_at hl 0 rfl) ?_
  refine lv_iload hx hb dX0_open_16 (lv_at hl 4 rfl) ?_
  refine va_put (D := D) (ci := 0) (v := .int 0) (ty := .int) (C := RX0) (T := TX0) (N := 19) hx hb hts iX0 tyX0 tyX0_ok nmX0 hown hK hP hD hS 0 rfl rfl 4 (by decide) (hts _ m_132) (fun _ h9 => h9) rfl (tyX0_ok 4 (by decide)) rfl rfl (Nat.le_of_ble_eq_true rfl) dX0_open_18 (fun H locs hP hD hS => ?_)
  have hP : va_P D classes [(a 80, .inr (0, [.int 0, .int 0, .int 0, .int 0, .int 0, .int 0, .int 0, .int 0, .ref (a 81), .ref (a 82), .ref (a 83), .ref (a 84), .ref (a 85), .ref (a 86), .ref (a 87), .ref (a 88), .ref (a 89), .ref (a 90), .ref (a 94)]))] H := hP
  have hD : va_D A [(a 80, .inr (0, [.int 0, .int 0, .int 0, .int 0, .int 0, .int 0, .int 0, .int 0, .ref (a 81), .ref (a 82), .ref (a 83), .ref (a 84), .ref (a 85), .ref (a 86), .ref (a 87), .ref (a 88), .ref (a 89), .ref (a 90), .ref (a 94)]))] := hD
  have hP9 := hP.sub (ws' := [(a 80, .inr (0, [.int 0, .int 0, .int 0, .int 0, .int 0, .int 0, .int 0, .int 0, .ref (a 81), .ref (a 82), .ref (a 83), .ref (a 84), .ref (a 85), .ref (a 86), .ref (a 87), .ref (a 88), .ref (a 89), .ref (a 90), .ref (a 94)]))]) [0] rfl
  have hD9 := hD.sub (ws' := [(a 80, .inr (0, [.int 0, .int 0, .int 0, .int 0, .int 0, .int 0, .int 0, .int 0, .ref (a 81), .ref (a 82), .ref (a 83), .ref (a 84), .ref (a 85), .ref (a 86), .ref (a 87), .ref (a 88), .ref (a 89), .ref (a 90), .ref (a 94)]))]) [0] (by decide) rfl
  exact W.vret hx hb hr (fun t9 ht hW => ⟨⟨(fun k => [].getD k 0), rfl, trivial, by rw [ht]; exact hP9, hD9⟩, hS.F ht⟩) hS.2.2 dX0_open_21

set_option maxHeartbeats 4000000 in
set_option maxRecDepth 100000 in
theorem c_X0_open100 (l : Launch) (D : va_G) (t : Nat → ClassId) (a : Nat → Nat) (sz : Nat) : Met l yX0_open (wd yX0_open cX0_open 5 none) (RM 0 0 0) (PreW D (TY t) [.ref (a 100), .int 0, .int 0, .int 0, .int 0] [(a 100, .inr (0, [.int 0, .int 0, .int 0, .int 0, .int 0, .int 0, .int 0, .int 0, .ref (a 101), .ref (a 102), .ref (a 103), .ref (a 104), .ref (a 105), .ref (a 106), .ref (a 107), .ref (a 108), .ref (a 109), .ref (a 110), .ref (a 114)]))] sz) (va_Qv (fun _ : Nat → Nat => True) (fun (u : Nat → Nat) t9 => va_P D classes ((fun u : Nat → Nat => [(a 100, .inr (0, [.int 0, .int 0, .int 0, .int 0, .int 0, .int 0, .int 0, .int 0, .ref (a 101), .ref (a 102), .ref (a 103), .ref (a 104), .ref (a 105), .ref (a 106), .ref (a 107), .ref (a 108), .ref (a 109), .ref (a 110), .ref (a 114)]))]) u) t9.heap ∧ va_D (va_A [(a 100, .inr (0, [.int 0, .int 0, .int 0, .int 0, .int 0, .int 0, .int 0, .int 0, .ref (a 101), .ref (a 102), .ref (a 103), .ref (a 104), .ref (a 105), .ref (a 106), .ref (a 107), .ref (a 108), .ref (a 109), .ref (a 110), .ref (a 114)]))] sz) ((fun u : Nat → Nat => [(a 100, .inr (0, [.int 0, .int 0, .int 0, .int 0, .int 0, .int 0, .int 0, .int 0, .ref (a 101), .ref (a 102), .ref (a 103), .ref (a 104), .ref (a 105), .ref (a 106), .ref (a 107), .ref (a 108), .ref (a 109), .ref (a 110), .ref (a 114)]))]) u)) (va_A [(a 100, .inr (0, [.int 0, .int 0, .int 0, .int 0, .int 0, .int 0, .int 0, .int 0, .ref (a 101), .ref (a 102), .ref (a 103), .ref (a 104), .ref (a 105), .ref (a 106), .ref (a 107), .ref (a 108), .ref (a 109), .ref (a 110), .ref (a 114)]))] sz)) 0 0 (va_A [(a 100, .inr (0, [.int 0, .int 0, .int 0, .int 0, .int 0, .int 0, .int 0, .int 0, .ref (a 101), .ref (a 102), .ref (a 103), .ref (a 104), .ref (a 105), .ref (a 106), .ref (a 107), .ref (a 108), .ref (a 109), .ref (a 110), .ref (a 114)]))] sz) := by
  refine Met.ofW (cc := cX0_open) (maxL := 5) (ret := none) (by decide) rfl ?_
  intro p e s m args below meth c s₁ B hml hv
  obtain ⟨rfl, hsz, hP, hK, hD0, hN⟩ := hv
  have hx := B.exec
  have hb := B.bytes
  have hr := B.returns
  have hts : ∀ w ∈ TB, w.before _ s = true := fun w h => atoms_spec (ws := wd yX0_open cX0_open 5 none) B.pre w (List.mem_cons_of_mem _ h)
  have hown : s.vm.findClass RX0 = some m.cls := findClass_of_methodNamed B.named
  have hlocks := B.notSynchronized
  have hF : CallFix p m c cX0_open 5 s _ TB RX0 := ⟨hx, hb, hml, hown, hts⟩
  have hl := lv_entry ([.ref (a 100), .int 0, .int 0, .int 0, .int 0]) (n := 5) (Nat.le_of_ble_eq_true rfl)
  rw [lg_entry_eq]
  generalize (lg_sl ([.ref (a 100), .int 0, .int 0, .int 0, .int 0]) ++ List.replicate (5 - (lg_sl ([.ref (a 100), .int 0, .int 0, .int 0, .int 0])).length) Slot.unset).toArray = ls at hl ⊢
  have hl : lv_has ls 5 [(0, .ref (a 100)), (1, .int 0), (2, .int 0), (3, .int 0), (4, .int 0)] := hl
  subst hsz
  have hD := hD0.self (sz := s.heap.size)
  generalize hAe : va_A [(a 100, .inr (0, [.int 0, .int 0, .int 0, .int 0, .int 0, .int 0, .int 0, .int 0, .ref (a 101), .ref (a 102), .ref (a 103), .ref (a 104), .ref (a 105), .ref (a 106), .ref (a 107), .ref (a 108), .ref (a 109), .ref (a 110), .ref (a 114)]))] s.heap.size = A at hD ⊢
  have hA : ∀ q : Nat, s.heap.size ≤ q → A q := fun q h => by rw [← hAe]; exact Or.inr h
  have hS : va_S A s.heap s.heap [] := va_S.rf
  have hP : va_P D classes [(a 100, .inr (0, [.int 0, .int 0, .int 0, .int 0, .int 0, .int 0, .int 0, .int 0, .ref (a 101), .ref (a 102), .ref (a 103), .ref (a 104), .ref (a 105), .ref (a 106), .ref (a 107), .ref (a 108), .ref (a 109), .ref (a 110), .ref (a 114)]))] s.heap := hP
  refine lv_aload_n hx hb dX0_open_0 rfl (lv_at hl 0 rfl) ?_
  refine lv_iload_n hx hb dX0_open_1 rfl (lv_at hl 1 rfl) ?_
  refine va_put (D := D) (ci := 0) (v := .int 0) (ty := .int) (C := RX0) (T := TX0) (N := 19) hx hb hts iX0 tyX0 tyX0_ok nmX0 hown hK hP hD hS 0 rfl rfl 1 (by decide) (hts _ m_121) (fun _ h9 => h9) rfl (tyX0_ok 1 (by decide)) rfl rfl (Nat.le_of_ble_eq_true rfl) dX0_open_2 (fun H locs hP hD hS => ?_)
  have hP : va_P D classes [(a 100, .inr (0, [.int 0, .int 0, .int 0, .int 0, .int 0, .int 0, .int 0, .int 0, .ref (a 101), .ref (a 102), .ref (a 103), .ref (a 104), .ref (a 105), .ref (a 106), .ref (a 107), .ref (a 108), .ref (a 109), .ref (a 110), .ref (a 114)]))] H := hP
  have hD : va_D A [(a 100, .inr (0, [.int 0, .int 0, .int 0, .int 0, .int 0, .int 0, .int 0, .int 0, .ref (a 101), .ref (a 102), .ref (a 103), .ref (a 104), .ref (a 105), .ref (a 106), .ref (a 107), .ref (a 108), .ref (a 109), .ref (a 110), .ref (a 114)]))] := hD
  refine lv_aload_n hx hb dX0_open_5 rfl (lv_at hl 0 rfl) ?_
  refine lv_iload_n hx hb dX0_open_6 rfl (lv_at hl 2 rfl) ?_
  refine va_put (D := D) (ci := 0) (v := .int 0) (ty := .int) (C := RX0) (T := TX0) (N := 19) hx hb hts iX0 tyX0 tyX0_ok nmX0 hown hK hP hD hS 0 rfl rfl 2 (by decide) (hts _ m_125) (fun _ h9 => h9) rfl (tyX0_ok 2 (by decide)) rfl rfl (Nat.le_of_ble_eq_true rfl) dX0_open_7 (fun H locs hP hD hS => ?_)
  have hP : va_P D classes [(a 100, .inr (0, [.int 0, .int 0, .int 0, .int 0, .int 0, .int 0, .int 0, .int 0, .ref (a 101), .ref (a 102), .ref (a 103), .ref (a 104), .ref (a 105), .ref (a 106), .ref (a 107), .ref (a 108), .ref (a 109), .ref (a 110), .ref (a 114)]))] H := hP
  have hD : va_D A [(a 100, .inr (0, [.int 0, .int 0, .int 0, .int 0, .int 0, .int 0, .int 0, .int 0, .ref (a 101), .ref (a 102), .ref (a 103), .ref (a 104), .ref (a 105), .ref (a 106), .ref (a 107), .ref (a 108), .ref (a 109), .ref (a 110), .ref (a 114)]))] := hD
  refine lv_aload_n hx hb dX0_open_10 rfl (lv_at hl 0 rfl) ?_
  refine lv_iload_n hx hb dX0_open_11 rfl (lv_at hl 3 rfl) ?_
  refine va_put (D := D) (ci := 0) (v := .int 0) (ty := .int) (C := RX0) (T := TX0) (N := 19) hx hb hts iX0 tyX0 tyX0_ok nmX0 hown hK hP hD hS 0 rfl rfl 3 (by decide) (hts _ m_129) (fun _ h9 => h9) rfl (tyX0_ok 3 (by decide)) rfl rfl (Nat.le_of_ble_eq_true rfl) dX0_open_12 (fun H locs hP hD hS => ?_)
  have hP : va_P D classes [(a 100, .inr (0, [.int 0, .int 0, .int 0, .int 0, .int 0, .int 0, .int 0, .int 0, .ref (a 101), .ref (a 102), .ref (a 103), .ref (a 104), .ref (a 105), .ref (a 106), .ref (a 107), .ref (a 108), .ref (a 109), .ref (a 110), .ref (a 114)]))] H := hP
  have hD : va_D A [(a 100, .inr (0, [.int 0, .int 0, .int 0, .int 0, .int 0, .int 0, .int 0, .int 0, .ref (a 101), .ref (a 102), .ref (a 103), .ref (a 104), .ref (a 105), .ref (a 106), .ref (a 107), .ref (a 108), .ref (a 109), .ref (a 110), .ref (a 114)]))] := hD
  refine lv_aload_n hx hb dX0_open_15 rfl (lv_at hl 0 rfl) ?_
  refine lv_iload hx hb dX0_open_16 (lv_at hl 4 rfl) ?_
  refine va_put (D := D) (ci := 0) (v := .int 0) (ty := .int) (C := RX0) (T := TX0) (N := 19) hx hb hts iX0 tyX0 tyX0_ok nmX0 hown hK hP hD hS 0 rfl rfl 4 (by decide) (hts _ m_132) (fun _ h9 => h9) rfl (tyX0_ok 4 (by decide)) rfl rfl (Nat.le_of_ble_eq_true rfl) dX0_open_18 (fun H locs hP hD hS => ?_)
  have hP : va_P D classes [(a 100, .inr (0, [.int 0, .int 0, .int 0, .int 0, .int 0, .int 0, .int 0, .int 0, .ref (a 101), .ref (a 102), .ref (a 103), .ref (a 104), .ref (a 105), .ref (a 106), .ref (a 107), .ref (a 108), .ref (a 109), .ref (a 110), .ref (a 114)]))] H := hP
  have hD : va_D A [(a 100, .inr (0, [.int 0, .int 0, .int 0, .int 0, .int 0, .int 0, .int 0, .int 0, .ref (a 101), .ref (a 102), .ref (a 103), .ref (a 104), .ref (a 105), .ref (a 106), .ref (a 107), .ref (a 108), .ref (a 109), .ref (a 110), .ref (a 114)]))] := hD
  have hP9 := hP.sub (ws' := [(a 100, .inr (0, [.int 0, .int 0, .int 0, .int 0, .int 0, .int 0, .int 0, .int 0, .ref (a 101), .ref (a 102), .ref (a 103), .ref (a 104), .ref (a 105), .ref (a 106), .ref (a 107), .ref (a 108), .ref (a 109), .ref (a 110), .ref (a 114)]))]) [0] rfl
  have hD9 := hD.sub (ws' := [(a 100, .inr (0, [.int 0, .int 0, .int 0, .int 0, .int 0, .int 0, .int 0, .int 0, .ref (a 101), .ref (a 102), .ref (a 103), .ref (a 104), .ref (a 105), .ref (a 106), .ref (a 107), .ref (a 108), .ref (a 109), .ref (a 110), .ref (a 114)]))]) [0] (by decide) rfl
  exact W.vret hx hb hr (fun t9 ht hW => ⟨⟨(fun k => [].getD k 0), rfl, trivial, by rw [ht]; exact hP9, hD9⟩, hS.F ht⟩) hS.2.2 dX0_open_21

set_option maxHeartbeats 4000000 in
set_option maxRecDepth 100000 in
theorem c_X9_clear (l : Launch) (D : va_G) (t : Nat → ClassId) (a : Nat → Nat) (sz : Nat) : Met l yX9_clear (wd yX9_clear cX9_clear 1 none) (RM 1 0 0) (PreW D (TY t) [.ref (a 34)] [(a 34, .inr (9, [.int 0, .int 0, .int 0, .ref (a 35), .ref (a 36), .ref (a 37), .ref (a 38)])), (a 35, .inl (t 0, 9, .inl (fun _ => 0)))] sz) (va_Qv (fun _ : Nat → Nat => True) (fun (u : Nat → Nat) t9 => va_P D classes ((fun u : Nat → Nat => [(a 34, .inr (9, [.int 0, .int 0, .int 0, .ref (a 35), .ref (a 36), .ref (a 37), .ref (a 38)])), (a 35, .inl (t 0, 9, .inl (fun _ => 0)))]) u) t9.heap ∧ va_D (va_A [(a 34, .inr (9, [.int 0, .int 0, .int 0, .ref (a 35), .ref (a 36), .ref (a 37), .ref (a 38)])), (a 35, .inl (t 0, 9, .inl (fun _ => 0)))] sz) ((fun u : Nat → Nat => [(a 34, .inr (9, [.int 0, .int 0, .int 0, .ref (a 35), .ref (a 36), .ref (a 37), .ref (a 38)])), (a 35, .inl (t 0, 9, .inl (fun _ => 0)))]) u)) (va_A [(a 34, .inr (9, [.int 0, .int 0, .int 0, .ref (a 35), .ref (a 36), .ref (a 37), .ref (a 38)])), (a 35, .inl (t 0, 9, .inl (fun _ => 0)))] sz)) 0 0 (va_A [(a 34, .inr (9, [.int 0, .int 0, .int 0, .ref (a 35), .ref (a 36), .ref (a 37), .ref (a 38)])), (a 35, .inl (t 0, 9, .inl (fun _ => 0)))] sz) := by
  refine Met.ofW (cc := cX9_clear) (maxL := 1) (ret := none) (by decide) rfl ?_
  intro p e s m args below meth c s₁ B hml hv
  obtain ⟨rfl, hsz, hP, hK, hD0, hN⟩ := hv
  have hx := B.exec
  have hb := B.bytes
  have hr := B.returns
  have hts : ∀ w ∈ TB, w.before _ s = true := fun w h => atoms_spec (ws := wd yX9_clear cX9_clear 1 none) B.pre w (List.mem_cons_of_mem _ h)
  have hown : s.vm.findClass RX9 = some m.cls := findClass_of_methodNamed B.named
  have hlocks := B.notSynchronized
  have hF : CallFix p m c cX9_clear 1 s _ TB RX9 := ⟨hx, hb, hml, hown, hts⟩
  have hl := lv_entry ([.ref (a 34)]) (n := 1) (Nat.le_of_ble_eq_true rfl)
  rw [lg_entry_eq]
  generalize (lg_sl ([.ref (a 34)]) ++ List.replicate (1 - (lg_sl ([.ref (a 34)])).length) Slot.unset).toArray = ls at hl ⊢
  have hl : lv_has ls 1 [(0, .ref (a 34))] := hl
  subst hsz
  have hD := hD0.self (sz := s.heap.size)
  generalize hAe : va_A [(a 34, .inr (9, [.int 0, .int 0, .int 0, .ref (a 35), .ref (a 36), .ref (a 37), .ref (a 38)])), (a 35, .inl (t 0, 9, .inl (fun _ => 0)))] s.heap.size = A at hD ⊢
  have hA : ∀ q : Nat, s.heap.size ≤ q → A q := fun q h => by rw [← hAe]; exact Or.inr h
  have hS : va_S A s.heap s.heap [] := va_S.rf
  have hP : va_P D classes [(a 34, .inr (9, [.int 0, .int 0, .int 0, .ref (a 35), .ref (a 36), .ref (a 37), .ref (a 38)])), (a 35, .inl (t 0, 9, .inl (fun _ => 0)))] s.heap := hP
  refine lv_aload_n hx hb dX9_clear_0 rfl (lv_at hl 0 rfl) ?_
  refine lv_iconst (v := 0) hx hb dX9_clear_1 (by decide) ?_
  refine va_put (D := D) (ci := 9) (v := .int 0) (ty := .int) (C := RX9) (T := TX9) (N := 7) hx hb hts iX9 tyX9 tyX9_ok nmX9 hown hK hP hD hS 0 rfl rfl 0 (by decide) (hts _ m_85) (fun _ h9 => h9) rfl (tyX9_ok 0 (by decide)) rfl rfl (Nat.le_of_ble_eq_true rfl) dX9_clear_2 (fun H locs hP hD hS => ?_)
  have hP : va_P D classes [(a 34, .inr (9, [.int 0, .int 0, .int 0, .ref (a 35), .ref (a 36), .ref (a 37), .ref (a 38)])), (a 35, .inl (t 0, 9, .inl (fun _ => 0)))] H := hP
  have hD : va_D A [(a 34, .inr (9, [.int 0, .int 0, .int 0, .ref (a 35), .ref (a 36), .ref (a 37), .ref (a 38)])), (a 35, .inl (t 0, 9, .inl (fun _ => 0)))] := hD
  refine lv_aload_n hx hb dX9_clear_5 rfl (lv_at hl 0 rfl) ?_
  refine lv_iconst (v := 0) hx hb dX9_clear_6 (by decide) ?_
  refine va_put (D := D) (ci := 9) (v := .int 0) (ty := .int) (C := RX9) (T := TX9) (N := 7) hx hb hts iX9 tyX9 tyX9_ok nmX9 hown hK hP hD hS 0 rfl rfl 1 (by decide) (hts _ m_87) (fun _ h9 => h9) rfl (tyX9_ok 1 (by decide)) rfl rfl (Nat.le_of_ble_eq_true rfl) dX9_clear_7 (fun H locs hP hD hS => ?_)
  have hP : va_P D classes [(a 34, .inr (9, [.int 0, .int 0, .int 0, .ref (a 35), .ref (a 36), .ref (a 37), .ref (a 38)])), (a 35, .inl (t 0, 9, .inl (fun _ => 0)))] H := hP
  have hD : va_D A [(a 34, .inr (9, [.int 0, .int 0, .int 0, .ref (a 35), .ref (a 36), .ref (a 37), .ref (a 38)])), (a 35, .inl (t 0, 9, .inl (fun _ => 0)))] := hD
  refine lv_aload_n hx hb dX9_clear_10 rfl (lv_at hl 0 rfl) ?_
  refine lv_iconst (v := 0) hx hb dX9_clear_11 (by decide) ?_
  refine va_put (D := D) (ci := 9) (v := .int 0) (ty := .int) (C := RX9) (T := TX9) (N := 7) hx hb hts iX9 tyX9 tyX9_ok nmX9 hown hK hP hD hS 0 rfl rfl 2 (by decide) (hts _ m_91) (fun _ h9 => h9) rfl (tyX9_ok 2 (by decide)) rfl rfl (Nat.le_of_ble_eq_true rfl) dX9_clear_12 (fun H locs hP hD hS => ?_)
  have hP : va_P D classes [(a 34, .inr (9, [.int 0, .int 0, .int 0, .ref (a 35), .ref (a 36), .ref (a 37), .ref (a 38)])), (a 35, .inl (t 0, 9, .inl (fun _ => 0)))] H := hP
  have hD : va_D A [(a 34, .inr (9, [.int 0, .int 0, .int 0, .ref (a 35), .ref (a 36), .ref (a 37), .ref (a 38)])), (a 35, .inl (t 0, 9, .inl (fun _ => 0)))] := hD
  refine lv_aload_n hx hb dX9_clear_15 rfl (lv_at hl 0 rfl) ?_
  refine va_get (D := D) (ci := 9) (v := .ref (a 35)) (C := RX9) (T := TX9) (N := 7) hx hb hts iX9 hown hK hP 0 rfl rfl 3 (by decide) (hts _ m_96) (fun _ h9 => h9) rfl dX9_clear_16 ?_
  refine lv_iconst (v := 0) hx hb dX9_clear_19 (by decide) ?_
  refine x_wS (wr := [(a 34, .inr (9, [.int 0, .int 0, .int 0, .ref (a 35), .ref (a 36), .ref (a 37), .ref (a 38)]))]) hF (c_J7_fill_53178 l D t (a 35) H.size) m_506 m_507 m_14 m_508 hd_J7_fill_53178 ⟨Nat.le_of_ble_eq_true rfl, Nat.le_of_ble_eq_true rfl⟩ hK hN hP hD hS hA [1] [0] rfl rfl (by decide) (by decide) (by decide) hl.1 rfl (Nat.le_of_ble_eq_true rfl) dX9_clear_20 ⟨Nat.le_of_ble_eq_true rfl, Nat.le_of_ble_eq_true rfl⟩ (fun u_1 H locs hP hD hS => ?_)
  have hP : va_P D classes [(a 34, .inr (9, [.int 0, .int 0, .int 0, .ref (a 35), .ref (a 36), .ref (a 37), .ref (a 38)])), (a 35, .inl (t 0, 9, .inl (fun _ => 0)))] H := hP
  have hD : va_D A [(a 34, .inr (9, [.int 0, .int 0, .int 0, .ref (a 35), .ref (a 36), .ref (a 37), .ref (a 38)])), (a 35, .inl (t 0, 9, .inl (fun _ => 0)))] := hD
  refine W.widen (k := 0) (n := 0) (Nat.le_of_ble_eq_true rfl) (Nat.le_of_ble_eq_true rfl) ?_
  have hP9 := hP.sub (ws' := [(a 34, .inr (9, [.int 0, .int 0, .int 0, .ref (a 35), .ref (a 36), .ref (a 37), .ref (a 38)])), (a 35, .inl (t 0, 9, .inl (fun _ => 0)))]) [0, 1] rfl
  have hD9 := hD.sub (ws' := [(a 34, .inr (9, [.int 0, .int 0, .int 0, .ref (a 35), .ref (a 36), .ref (a 37), .ref (a 38)])), (a 35, .inl (t 0, 9, .inl (fun _ => 0)))]) [0, 1] (by decide) rfl
  exact W.vret hx hb hr (fun t9 ht hW => ⟨⟨(fun k => [].getD k 0), rfl, trivial, by rw [ht]; exact hP9, hD9⟩, hS.F ht⟩) hS.2.2 dX9_clear_23

set_option maxHeartbeats 4000000 in
set_option maxRecDepth 100000 in
theorem c_X0_clear (l : Launch) (D : va_G) (t : Nat → ClassId) (a : Nat → Nat) (sz : Nat) : Met l yX0_clear (wd yX0_clear cX0_clear 1 none) (RM 2 0 0) (PreW D (TY t) [.ref (a 20)] [(a 20, .inr (0, [.int 0, .int 0, .int 0, .int 0, .int 0, .int 0, .int 0, .int 0, .ref (a 21), .ref (a 22), .ref (a 23), .ref (a 24), .ref (a 25), .ref (a 26), .ref (a 27), .ref (a 28), .ref (a 29), .ref (a 30), .ref (a 34)])), (a 30, .inr (5, [.int 0, .ref (a 31), .ref (a 32), .ref (a 33)])), (a 34, .inr (9, [.int 0, .int 0, .int 0, .ref (a 35), .ref (a 36), .ref (a 37), .ref (a 38)])), (a 35, .inl (t 0, 9, .inl (fun _ => 0)))] sz) (va_Qv (fun _ : Nat → Nat => True) (fun (u : Nat → Nat) t9 => va_P D classes ((fun u : Nat → Nat => [(a 30, .inr (5, [.int 0, .ref (a 31), .ref (a 32), .ref (a 33)])), (a 20, .inr (0, [.int 0, .int 0, .int 0, .int 0, .int 0, .int 0, .int 0, .int 0, .ref (a 21), .ref (a 22), .ref (a 23), .ref (a 24), .ref (a 25), .ref (a 26), .ref (a 27), .ref (a 28), .ref (a 29), .ref (a 30), .ref (a 34)])), (a 34, .inr (9, [.int 0, .int 0, .int 0, .ref (a 35), .ref (a 36), .ref (a 37), .ref (a 38)])), (a 35, .inl (t 0, 9, .inl (fun _ => 0)))]) u) t9.heap ∧ va_D (va_A [(a 20, .inr (0, [.int 0, .int 0, .int 0, .int 0, .int 0, .int 0, .int 0, .int 0, .ref (a 21), .ref (a 22), .ref (a 23), .ref (a 24), .ref (a 25), .ref (a 26), .ref (a 27), .ref (a 28), .ref (a 29), .ref (a 30), .ref (a 34)])), (a 30, .inr (5, [.int 0, .ref (a 31), .ref (a 32), .ref (a 33)])), (a 34, .inr (9, [.int 0, .int 0, .int 0, .ref (a 35), .ref (a 36), .ref (a 37), .ref (a 38)])), (a 35, .inl (t 0, 9, .inl (fun _ => 0)))] sz) ((fun u : Nat → Nat => [(a 30, .inr (5, [.int 0, .ref (a 31), .ref (a 32), .ref (a 33)])), (a 20, .inr (0, [.int 0, .int 0, .int 0, .int 0, .int 0, .int 0, .int 0, .int 0, .ref (a 21), .ref (a 22), .ref (a 23), .ref (a 24), .ref (a 25), .ref (a 26), .ref (a 27), .ref (a 28), .ref (a 29), .ref (a 30), .ref (a 34)])), (a 34, .inr (9, [.int 0, .int 0, .int 0, .ref (a 35), .ref (a 36), .ref (a 37), .ref (a 38)])), (a 35, .inl (t 0, 9, .inl (fun _ => 0)))]) u)) (va_A [(a 20, .inr (0, [.int 0, .int 0, .int 0, .int 0, .int 0, .int 0, .int 0, .int 0, .ref (a 21), .ref (a 22), .ref (a 23), .ref (a 24), .ref (a 25), .ref (a 26), .ref (a 27), .ref (a 28), .ref (a 29), .ref (a 30), .ref (a 34)])), (a 30, .inr (5, [.int 0, .ref (a 31), .ref (a 32), .ref (a 33)])), (a 34, .inr (9, [.int 0, .int 0, .int 0, .ref (a 35), .ref (a 36), .ref (a 37), .ref (a 38)])), (a 35, .inl (t 0, 9, .inl (fun _ => 0)))] sz)) 0 0 (va_A [(a 20, .inr (0, [.int 0, .int 0, .int 0, .int 0, .int 0, .int 0, .int 0, .int 0, .ref (a 21), .ref (a 22), .ref (a 23), .ref (a 24), .ref (a 25), .ref (a 26), .ref (a 27), .ref (a 28), .ref (a 29), .ref (a 30), .ref (a 34)])), (a 30, .inr (5, [.int 0, .ref (a 31), .ref (a 32), .ref (a 33)])), (a 34, .inr (9, [.int 0, .int 0, .int 0, .ref (a 35), .ref (a 36), .ref (a 37), .ref (a 38)])), (a 35, .inl (t 0, 9, .inl (fun _ => 0)))] sz) := by
  refine Met.ofW (cc := cX0_clear) (maxL := 1) (ret := none) (by decide) rfl ?_
  intro p e s m args below meth c s₁ B hml hv
  obtain ⟨rfl, hsz, hP, hK, hD0, hN⟩ := hv
  have hx := B.exec
  have hb := B.bytes
  have hr := B.returns
  have hts : ∀ w ∈ TB, w.before _ s = true := fun w h => atoms_spec (ws := wd yX0_clear cX0_clear 1 none) B.pre w (List.mem_cons_of_mem _ h)
  have hown : s.vm.findClass RX0 = some m.cls := findClass_of_methodNamed B.named
  have hlocks := B.notSynchronized
  have hF : CallFix p m c cX0_clear 1 s _ TB RX0 := ⟨hx, hb, hml, hown, hts⟩
  have hl := lv_entry ([.ref (a 20)]) (n := 1) (Nat.le_of_ble_eq_true rfl)
  rw [lg_entry_eq]
  generalize (lg_sl ([.ref (a 20)]) ++ List.replicate (1 - (lg_sl ([.ref (a 20)])).length) Slot.unset).toArray = ls at hl ⊢
  have hl : lv_has ls 1 [(0, .ref (a 20))] := hl
  subst hsz
  have hD := hD0.self (sz := s.heap.size)
  generalize hAe : va_A [(a 20, .inr (0, [.int 0, .int 0, .int 0, .int 0, .int 0, .int 0, .int 0, .int 0, .ref (a 21), .ref (a 22), .ref (a 23), .ref (a 24), .ref (a 25), .ref (a 26), .ref (a 27), .ref (a 28), .ref (a 29), .ref (a 30), .ref (a 34)])), (a 30, .inr (5, [.int 0, .ref (a 31), .ref (a 32), .ref (a 33)])), (a 34, .inr (9, [.int 0, .int 0, .int 0, .ref (a 35), .ref (a 36), .ref (a 37), .ref (a 38)])), (a 35, .inl (t 0, 9, .inl (fun _ => 0)))] s.heap.size = A at hD ⊢
  have hA : ∀ q : Nat, s.heap.size ≤ q → A q := fun q h => by rw [← hAe]; exact Or.inr h
  have hS : va_S A s.heap s.heap [] := va_S.rf
  have hP : va_P D classes [(a 20, .inr (0, [.int 0, .int 0, .int 0, .int 0, .int 0, .int 0, .int 0, .int 0, .ref (a 21), .ref (a 22), .ref (a 23), .ref (a 24), .ref (a 25), .ref (a 26), .ref (a 27), .ref (a 28), .ref (a 29), .ref (a 30), .ref (a 34)])), (a 30, .inr (5, [.int 0, .ref (a 31), .ref (a 32), .ref (a 33)])), (a 34, .inr (9, [.int 0, .int 0, .int 0, .ref (a 35), .ref (a 36), .ref (a 37), .ref (a 38)])), (a 35, .inl (t 0, 9, .inl (fun _ => 0)))] s.heap := hP
  refine lv_aload_n hx hb dX0_clear_0 rfl (lv_at hl 0 rfl) ?_
  refine lv_iconst (v := 0) hx hb dX0_clear_1 (by decide) ?_
  refine va_put (D := D) (ci := 0) (v := .int 0) (ty := .int) (C := RX0) (T := TX0) (N := 19) hx hb hts iX0 tyX0 tyX0_ok nmX0 hown hK hP hD hS 0 rfl rfl 0 (by decide) (hts _ m_117) (fun _ h9 => h9) rfl (tyX0_ok 0 (by decide)) rfl rfl (Nat.le_of_ble_eq_true rfl) dX0_clear_2 (fun H locs hP hD hS => ?_)
  have hP : va_P D classes [(a 20, .inr (0, [.int 0, .int 0, .int 0, .int 0, .int 0, .int 0, .int 0, .int 0, .ref (a 21), .ref (a 22), .ref (a 23), .ref (a 24), .ref (a 25), .ref (a 26), .ref (a 27), .ref (a 28), .ref (a 29), .ref (a 30), .ref (a 34)])), (a 30, .inr (5, [.int 0, .ref (a 31), .ref (a 32), .ref (a 33)])), (a 34, .inr (9, [.int 0, .int 0, .int 0, .ref (a 35), .ref (a 36), .ref (a 37), .ref (a 38)])), (a 35, .inl (t 0, 9, .inl (fun _ => 0)))] H := hP
  have hD : va_D A [(a 20, .inr (0, [.int 0, .int 0, .int 0, .int 0, .int 0, .int 0, .int 0, .int 0, .ref (a 21), .ref (a 22), .ref (a 23), .ref (a 24), .ref (a 25), .ref (a 26), .ref (a 27), .ref (a 28), .ref (a 29), .ref (a 30), .ref (a 34)])), (a 30, .inr (5, [.int 0, .ref (a 31), .ref (a 32), .ref (a 33)])), (a 34, .inr (9, [.int 0, .int 0, .int 0, .ref (a 35), .ref (a 36), .ref (a 37), .ref (a 38)])), (a 35, .inl (t 0, 9, .inl (fun _ => 0)))] := hD
  refine lv_aload_n hx hb dX0_clear_5 rfl (lv_at hl 0 rfl) ?_
  refine lv_iconst (v := 0) hx hb dX0_clear_6 (by decide) ?_
  refine lv_iconst (v := 0) hx hb dX0_clear_7 (by decide) ?_
  refine lv_iconst (v := 0) hx hb dX0_clear_8 (by decide) ?_
  refine lv_iconst (v := 0) hx hb dX0_clear_9 (by decide) ?_
  refine x_wV (wr := [(a 30, .inr (5, [.int 0, .ref (a 31), .ref (a 32), .ref (a 33)])), (a 34, .inr (9, [.int 0, .int 0, .int 0, .ref (a 35), .ref (a 36), .ref (a 37), .ref (a 38)])), (a 35, .inl (t 0, 9, .inl (fun _ => 0)))]) hF (c_X0_open20 l D t a H.size) m_498 m_499 m_500 m_3 m_501 hd_X0_open ⟨Nat.le_of_ble_eq_true rfl, Nat.le_of_ble_eq_true rfl⟩ hK hN hP hD hS hA 0 (ci := 0) rfl rfl rfl [0] [1, 2, 3] rfl rfl (by decide) (by decide) (by decide) hl.1 rfl (Nat.le_of_ble_eq_true rfl) dX0_clear_10 ⟨Nat.le_of_ble_eq_true rfl, Nat.le_of_ble_eq_true rfl⟩ (fun u_1 H locs hP hD hS => ?_)
  have hP : va_P D classes [(a 30, .inr (5, [.int 0, .ref (a 31), .ref (a 32), .ref (a 33)])), (a 34, .inr (9, [.int 0, .int 0, .int 0, .ref (a 35), .ref (a 36), .ref (a 37), .ref (a 38)])), (a 35, .inl (t 0, 9, .inl (fun _ => 0))), (a 20, .inr (0, [.int 0, .int 0, .int 0, .int 0, .int 0, .int 0, .int 0, .int 0, .ref (a 21), .ref (a 22), .ref (a 23), .ref (a 24), .ref (a 25), .ref (a 26), .ref (a 27), .ref (a 28), .ref (a 29), .ref (a 30), .ref (a 34)]))] H := hP
  have hD : va_D A [(a 30, .inr (5, [.int 0, .ref (a 31), .ref (a 32), .ref (a 33)])), (a 34, .inr (9, [.int 0, .int 0, .int 0, .ref (a 35), .ref (a 36), .ref (a 37), .ref (a 38)])), (a 35, .inl (t 0, 9, .inl (fun _ => 0))), (a 20, .inr (0, [.int 0, .int 0, .int 0, .int 0, .int 0, .int 0, .int 0, .int 0, .ref (a 21), .ref (a 22), .ref (a 23), .ref (a 24), .ref (a 25), .ref (a 26), .ref (a 27), .ref (a 28), .ref (a 29), .ref (a 30), .ref (a 34)]))] := hD
  refine W.widen (k := 0) (n := 0) (Nat.le_of_ble_eq_true rfl) (Nat.le_of_ble_eq_true rfl) ?_
  refine lv_aload_n hx hb dX0_clear_13 rfl (lv_at hl 0 rfl) ?_
  refine lv_iconst (v := 0) hx hb dX0_clear_14 (by decide) ?_
  refine va_put (D := D) (ci := 0) (v := .int 0) (ty := .int) (C := RX0) (T := TX0) (N := 19) hx hb hts iX0 tyX0 tyX0_ok nmX0 hown hK hP hD hS 3 rfl rfl 5 (by decide) (hts _ m_135) (fun _ h9 => h9) rfl (tyX0_ok 5 (by decide)) rfl rfl (Nat.le_of_ble_eq_true rfl) dX0_clear_15 (fun H locs hP hD hS => ?_)
  have hP : va_P D classes [(a 30, .inr (5, [.int 0, .ref (a 31), .ref (a 32), .ref (a 33)])), (a 34, .inr (9, [.int 0, .int 0, .int 0, .ref (a 35), .ref (a 36), .ref (a 37), .ref (a 38)])), (a 35, .inl (t 0, 9, .inl (fun _ => 0))), (a 20, .inr (0, [.int 0, .int 0, .int 0, .int 0, .int 0, .int 0, .int 0, .int 0, .ref (a 21), .ref (a 22), .ref (a 23), .ref (a 24), .ref (a 25), .ref (a 26), .ref (a 27), .ref (a 28), .ref (a 29), .ref (a 30), .ref (a 34)]))] H := hP
  have hD : va_D A [(a 30, .inr (5, [.int 0, .ref (a 31), .ref (a 32), .ref (a 33)])), (a 34, .inr (9, [.int 0, .int 0, .int 0, .ref (a 35), .ref (a 36), .ref (a 37), .ref (a 38)])), (a 35, .inl (t 0, 9, .inl (fun _ => 0))), (a 20, .inr (0, [.int 0, .int 0, .int 0, .int 0, .int 0, .int 0, .int 0, .int 0, .ref (a 21), .ref (a 22), .ref (a 23), .ref (a 24), .ref (a 25), .ref (a 26), .ref (a 27), .ref (a 28), .ref (a 29), .ref (a 30), .ref (a 34)]))] := hD
  refine lv_aload_n hx hb dX0_clear_18 rfl (lv_at hl 0 rfl) ?_
  refine lv_iconst (v := 0) hx hb dX0_clear_19 (by decide) ?_
  refine va_put (D := D) (ci := 0) (v := .int 0) (ty := .int) (C := RX0) (T := TX0) (N := 19) hx hb hts iX0 tyX0 tyX0_ok nmX0 hown hK hP hD hS 3 rfl rfl 6 (by decide) (hts _ m_142) (fun _ h9 => h9) rfl (tyX0_ok 6 (by decide)) rfl rfl (Nat.le_of_ble_eq_true rfl) dX0_clear_20 (fun H locs hP hD hS => ?_)
  have hP : va_P D classes [(a 30, .inr (5, [.int 0, .ref (a 31), .ref (a 32), .ref (a 33)])), (a 34, .inr (9, [.int 0, .int 0, .int 0, .ref (a 35), .ref (a 36), .ref (a 37), .ref (a 38)])), (a 35, .inl (t 0, 9, .inl (fun _ => 0))), (a 20, .inr (0, [.int 0, .int 0, .int 0, .int 0, .int 0, .int 0, .int 0, .int 0, .ref (a 21), .ref (a 22), .ref (a 23), .ref (a 24), .ref (a 25), .ref (a 26), .ref (a 27), .ref (a 28), .ref (a 29), .ref (a 30), .ref (a 34)]))] H := hP
  have hD : va_D A [(a 30, .inr (5, [.int 0, .ref (a 31), .ref (a 32), .ref (a 33)])), (a 34, .inr (9, [.int 0, .int 0, .int 0, .ref (a 35), .ref (a 36), .ref (a 37), .ref (a 38)])), (a 35, .inl (t 0, 9, .inl (fun _ => 0))), (a 20, .inr (0, [.int 0, .int 0, .int 0, .int 0, .int 0, .int 0, .int 0, .int 0, .ref (a 21), .ref (a 22), .ref (a 23), .ref (a 24), .ref (a 25), .ref (a 26), .ref (a 27), .ref (a 28), .ref (a 29), .ref (a 30), .ref (a 34)]))] := hD
  refine lv_aload_n hx hb dX0_clear_23 rfl (lv_at hl 0 rfl) ?_
  refine lv_iconst (v := 0) hx hb dX0_clear_24 (by decide) ?_
  refine va_put (D := D) (ci := 0) (v := .int 0) (ty := .int) (C := RX0) (T := TX0) (N := 19) hx hb hts iX0 tyX0 tyX0_ok nmX0 hown hK hP hD hS 3 rfl rfl 7 (by decide) (hts _ m_149) (fun _ h9 => h9) rfl (tyX0_ok 7 (by decide)) rfl rfl (Nat.le_of_ble_eq_true rfl) dX0_clear_25 (fun H locs hP hD hS => ?_)
  have hP : va_P D classes [(a 30, .inr (5, [.int 0, .ref (a 31), .ref (a 32), .ref (a 33)])), (a 34, .inr (9, [.int 0, .int 0, .int 0, .ref (a 35), .ref (a 36), .ref (a 37), .ref (a 38)])), (a 35, .inl (t 0, 9, .inl (fun _ => 0))), (a 20, .inr (0, [.int 0, .int 0, .int 0, .int 0, .int 0, .int 0, .int 0, .int 0, .ref (a 21), .ref (a 22), .ref (a 23), .ref (a 24), .ref (a 25), .ref (a 26), .ref (a 27), .ref (a 28), .ref (a 29), .ref (a 30), .ref (a 34)]))] H := hP
  have hD : va_D A [(a 30, .inr (5, [.int 0, .ref (a 31), .ref (a 32), .ref (a 33)])), (a 34, .inr (9, [.int 0, .int 0, .int 0, .ref (a 35), .ref (a 36), .ref (a 37), .ref (a 38)])), (a 35, .inl (t 0, 9, .inl (fun _ => 0))), (a 20, .inr (0, [.int 0, .int 0, .int 0, .int 0, .int 0, .int 0, .int 0, .int 0, .ref (a 21), .ref (a 22), .ref (a 23), .ref (a 24), .ref (a 25), .ref (a 26), .ref (a 27), .ref (a 28), .ref (a 29), .ref (a 30), .ref (a 34)]))] := hD
  refine lv_aload_n hx hb dX0_clear_28 rfl (lv_at hl 0 rfl) ?_
  refine va_get (D := D) (ci := 0) (v := .ref (a 30)) (C := RX0) (T := TX0) (N := 19) hx hb hts iX0 hown hK hP 3 rfl rfl 17 (by decide) (hts _ m_185) (fun _ h9 => h9) rfl dX0_clear_29 ?_
  refine lv_iconst (v := 0) hx hb dX0_clear_32 (by decide) ?_
  refine va_putN (D := D) (ci := 5) (v := .int 0) (ty := .int) (C := RX5) (T := TX5) (N := 4) (host := "WordSeats") hx hb hts iX5 tyX5 tyX5_ok nmX5 hown hK hP hD hS 0 rfl rfl 0 (by decide) (va_Nw.use rfl (hN _ n_59)) (fun _ h9 => h9) rfl (tyX5_ok 0 (by decide)) rfl rfl (Nat.le_of_ble_eq_true rfl) dX0_clear_33 (fun H locs hP hD hS => ?_)
  have hP : va_P D classes [(a 30, .inr (5, [.int 0, .ref (a 31), .ref (a 32), .ref (a 33)])), (a 34, .inr (9, [.int 0, .int 0, .int 0, .ref (a 35), .ref (a 36), .ref (a 37), .ref (a 38)])), (a 35, .inl (t 0, 9, .inl (fun _ => 0))), (a 20, .inr (0, [.int 0, .int 0, .int 0, .int 0, .int 0, .int 0, .int 0, .int 0, .ref (a 21), .ref (a 22), .ref (a 23), .ref (a 24), .ref (a 25), .ref (a 26), .ref (a 27), .ref (a 28), .ref (a 29), .ref (a 30), .ref (a 34)]))] H := hP
  have hD : va_D A [(a 30, .inr (5, [.int 0, .ref (a 31), .ref (a 32), .ref (a 33)])), (a 34, .inr (9, [.int 0, .int 0, .int 0, .ref (a 35), .ref (a 36), .ref (a 37), .ref (a 38)])), (a 35, .inl (t 0, 9, .inl (fun _ => 0))), (a 20, .inr (0, [.int 0, .int 0, .int 0, .int 0, .int 0, .int 0, .int 0, .int 0, .ref (a 21), .ref (a 22), .ref (a 23), .ref (a 24), .ref (a 25), .ref (a 26), .ref (a 27), .ref (a 28), .ref (a 29), .ref (a 30), .ref (a 34)]))] := hD
  refine lv_aload_n hx hb dX0_clear_36 rfl (lv_at hl 0 rfl) ?_
  refine va_get (D := D) (ci := 0) (v := .ref (a 34)) (C := RX0) (T := TX0) (N := 19) hx hb hts iX0 hown hK hP 3 rfl rfl 18 (by decide) (hts _ m_189) (fun _ h9 => h9) rfl dX0_clear_37 ?_
  refine x_wV (wr := [(a 30, .inr (5, [.int 0, .ref (a 31), .ref (a 32), .ref (a 33)])), (a 20, .inr (0, [.int 0, .int 0, .int 0, .int 0, .int 0, .int 0, .int 0, .int 0, .ref (a 21), .ref (a 22), .ref (a 23), .ref (a 24), .ref (a 25), .ref (a 26), .ref (a 27), .ref (a 28), .ref (a 29), .ref (a 30), .ref (a 34)]))]) hF (c_X9_clear l D t a H.size) m_502 m_503 m_504 m_5 m_505 hd_X9_clear ⟨Nat.le_of_ble_eq_true rfl, Nat.le_of_ble_eq_true rfl⟩ hK hN hP hD hS hA 0 (ci := 9) rfl rfl rfl [1, 2] [0, 3] rfl rfl (by decide) (by decide) (by decide) hl.1 rfl (Nat.le_of_ble_eq_true rfl) dX0_clear_40 ⟨Nat.le_of_ble_eq_true rfl, Nat.le_of_ble_eq_true rfl⟩ (fun u_2 H locs hP hD hS => ?_)
  have hP : va_P D classes [(a 30, .inr (5, [.int 0, .ref (a 31), .ref (a 32), .ref (a 33)])), (a 20, .inr (0, [.int 0, .int 0, .int 0, .int 0, .int 0, .int 0, .int 0, .int 0, .ref (a 21), .ref (a 22), .ref (a 23), .ref (a 24), .ref (a 25), .ref (a 26), .ref (a 27), .ref (a 28), .ref (a 29), .ref (a 30), .ref (a 34)])), (a 34, .inr (9, [.int 0, .int 0, .int 0, .ref (a 35), .ref (a 36), .ref (a 37), .ref (a 38)])), (a 35, .inl (t 0, 9, .inl (fun _ => 0)))] H := hP
  have hD : va_D A [(a 30, .inr (5, [.int 0, .ref (a 31), .ref (a 32), .ref (a 33)])), (a 20, .inr (0, [.int 0, .int 0, .int 0, .int 0, .int 0, .int 0, .int 0, .int 0, .ref (a 21), .ref (a 22), .ref (a 23), .ref (a 24), .ref (a 25), .ref (a 26), .ref (a 27), .ref (a 28), .ref (a 29), .ref (a 30), .ref (a 34)])), (a 34, .inr (9, [.int 0, .int 0, .int 0, .ref (a 35), .ref (a 36), .ref (a 37), .ref (a 38)])), (a 35, .inl (t 0, 9, .inl (fun _ => 0)))] := hD
  refine W.widen (k := 0) (n := 0) (Nat.le_of_ble_eq_true rfl) (Nat.le_of_ble_eq_true rfl) ?_
  have hP9 := hP.sub (ws' := [(a 30, .inr (5, [.int 0, .ref (a 31), .ref (a 32), .ref (a 33)])), (a 20, .inr (0, [.int 0, .int 0, .int 0, .int 0, .int 0, .int 0, .int 0, .int 0, .ref (a 21), .ref (a 22), .ref (a 23), .ref (a 24), .ref (a 25), .ref (a 26), .ref (a 27), .ref (a 28), .ref (a 29), .ref (a 30), .ref (a 34)])), (a 34, .inr (9, [.int 0, .int 0, .int 0, .ref (a 35), .ref (a 36), .ref (a 37), .ref (a 38)])), (a 35, .inl (t 0, 9, .inl (fun _ => 0)))]) [0, 1, 2, 3] rfl
  have hD9 := hD.sub (ws' := [(a 30, .inr (5, [.int 0, .ref (a 31), .ref (a 32), .ref (a 33)])), (a 20, .inr (0, [.int 0, .int 0, .int 0, .int 0, .int 0, .int 0, .int 0, .int 0, .ref (a 21), .ref (a 22), .ref (a 23), .ref (a 24), .ref (a 25), .ref (a 26), .ref (a 27), .ref (a 28), .ref (a 29), .ref (a 30), .ref (a 34)])), (a 34, .inr (9, [.int 0, .int 0, .int 0, .ref (a 35), .ref (a 36), .ref (a 37), .ref (a 38)])), (a 35, .inl (t 0, 9, .inl (fun _ => 0)))]) [0, 1, 2, 3] (by decide) rfl
  exact W.vret hx hb hr (fun t9 ht hW => ⟨⟨(fun k => [].getD k 0), rfl, trivial, by rw [ht]; exact hP9, hD9⟩, hS.F ht⟩) hS.2.2 dX0_clear_43

set_option maxHeartbeats 4000000 in
set_option maxRecDepth 100000 in
theorem c_X4_read (l : Launch) (D : va_G) (t : Nat → ClassId) (a : Nat → Nat) (sz : Nat) : Met l yX4_read (wd yX4_read cX4_read 2 none) (RM 3 0 0) (PreW D (TY t) [.ref (a 3)] [(a 3, .inr (4, [.ref (a 1), .ref (a 20), .int 0, .int (-1), .int 0, .int 0, .int 0, .int 0])), (a 1, .inr (8, [.ref (a 2), .int 0])), (a 20, .inr (0, [.int 0, .int 0, .int 0, .int 0, .int 0, .int 0, .int 0, .int 0, .ref (a 21), .ref (a 22), .ref (a 23), .ref (a 24), .ref (a 25), .ref (a 26), .ref (a 27), .ref (a 28), .ref (a 29), .ref (a 30), .ref (a 34)])), (a 30, .inr (5, [.int 0, .ref (a 31), .ref (a 32), .ref (a 33)])), (a 34, .inr (9, [.int 0, .int 0, .int 0, .ref (a 35), .ref (a 36), .ref (a 37), .ref (a 38)])), (a 35, .inl (t 0, 9, .inl (fun _ => 0)))] sz) (va_Qv (fun _ : Nat → Nat => True) (fun (u : Nat → Nat) t9 => va_P D classes ((fun u : Nat → Nat => [(a 30, .inr (5, [.int 0, .ref (a 31), .ref (a 32), .ref (a 33)])), (a 20, .inr (0, [.int 0, .int 0, .int 0, .int 0, .int 0, .int 0, .int 0, .int 0, .ref (a 21), .ref (a 22), .ref (a 23), .ref (a 24), .ref (a 25), .ref (a 26), .ref (a 27), .ref (a 28), .ref (a 29), .ref (a 30), .ref (a 34)])), (a 34, .inr (9, [.int 0, .int 0, .int 0, .ref (a 35), .ref (a 36), .ref (a 37), .ref (a 38)])), (a 35, .inl (t 0, 9, .inl (fun _ => 0))), (a 3, .inr (4, [.ref (a 1), .ref (a 20), .int 0, .int (-1), .int 0, .int 0, .int 0, .int 0])), (a 1, .inr (8, [.ref (a 2), .int 0]))]) u) t9.heap ∧ va_D (va_A [(a 3, .inr (4, [.ref (a 1), .ref (a 20), .int 0, .int (-1), .int 0, .int 0, .int 0, .int 0])), (a 1, .inr (8, [.ref (a 2), .int 0])), (a 20, .inr (0, [.int 0, .int 0, .int 0, .int 0, .int 0, .int 0, .int 0, .int 0, .ref (a 21), .ref (a 22), .ref (a 23), .ref (a 24), .ref (a 25), .ref (a 26), .ref (a 27), .ref (a 28), .ref (a 29), .ref (a 30), .ref (a 34)])), (a 30, .inr (5, [.int 0, .ref (a 31), .ref (a 32), .ref (a 33)])), (a 34, .inr (9, [.int 0, .int 0, .int 0, .ref (a 35), .ref (a 36), .ref (a 37), .ref (a 38)])), (a 35, .inl (t 0, 9, .inl (fun _ => 0)))] sz) ((fun u : Nat → Nat => [(a 30, .inr (5, [.int 0, .ref (a 31), .ref (a 32), .ref (a 33)])), (a 20, .inr (0, [.int 0, .int 0, .int 0, .int 0, .int 0, .int 0, .int 0, .int 0, .ref (a 21), .ref (a 22), .ref (a 23), .ref (a 24), .ref (a 25), .ref (a 26), .ref (a 27), .ref (a 28), .ref (a 29), .ref (a 30), .ref (a 34)])), (a 34, .inr (9, [.int 0, .int 0, .int 0, .ref (a 35), .ref (a 36), .ref (a 37), .ref (a 38)])), (a 35, .inl (t 0, 9, .inl (fun _ => 0))), (a 3, .inr (4, [.ref (a 1), .ref (a 20), .int 0, .int (-1), .int 0, .int 0, .int 0, .int 0])), (a 1, .inr (8, [.ref (a 2), .int 0]))]) u)) (va_A [(a 3, .inr (4, [.ref (a 1), .ref (a 20), .int 0, .int (-1), .int 0, .int 0, .int 0, .int 0])), (a 1, .inr (8, [.ref (a 2), .int 0])), (a 20, .inr (0, [.int 0, .int 0, .int 0, .int 0, .int 0, .int 0, .int 0, .int 0, .ref (a 21), .ref (a 22), .ref (a 23), .ref (a 24), .ref (a 25), .ref (a 26), .ref (a 27), .ref (a 28), .ref (a 29), .ref (a 30), .ref (a 34)])), (a 30, .inr (5, [.int 0, .ref (a 31), .ref (a 32), .ref (a 33)])), (a 34, .inr (9, [.int 0, .int 0, .int 0, .ref (a 35), .ref (a 36), .ref (a 37), .ref (a 38)])), (a 35, .inl (t 0, 9, .inl (fun _ => 0)))] sz)) 0 0 (va_A [(a 3, .inr (4, [.ref (a 1), .ref (a 20), .int 0, .int (-1), .int 0, .int 0, .int 0, .int 0])), (a 1, .inr (8, [.ref (a 2), .int 0])), (a 20, .inr (0, [.int 0, .int 0, .int 0, .int 0, .int 0, .int 0, .int 0, .int 0, .ref (a 21), .ref (a 22), .ref (a 23), .ref (a 24), .ref (a 25), .ref (a 26), .ref (a 27), .ref (a 28), .ref (a 29), .ref (a 30), .ref (a 34)])), (a 30, .inr (5, [.int 0, .ref (a 31), .ref (a 32), .ref (a 33)])), (a 34, .inr (9, [.int 0, .int 0, .int 0, .ref (a 35), .ref (a 36), .ref (a 37), .ref (a 38)])), (a 35, .inl (t 0, 9, .inl (fun _ => 0)))] sz) := by
  refine Met.ofW (cc := cX4_read) (maxL := 2) (ret := none) (by decide) rfl ?_
  intro p e s m args below meth c s₁ B hml hv
  obtain ⟨rfl, hsz, hP, hK, hD0, hN⟩ := hv
  have hx := B.exec
  have hb := B.bytes
  have hr := B.returns
  have hts : ∀ w ∈ TB, w.before _ s = true := fun w h => atoms_spec (ws := wd yX4_read cX4_read 2 none) B.pre w (List.mem_cons_of_mem _ h)
  have hown : s.vm.findClass RX4 = some m.cls := findClass_of_methodNamed B.named
  have hlocks := B.notSynchronized
  have hF : CallFix p m c cX4_read 2 s _ TB RX4 := ⟨hx, hb, hml, hown, hts⟩
  have hl := lv_entry ([.ref (a 3)]) (n := 2) (Nat.le_of_ble_eq_true rfl)
  rw [lg_entry_eq]
  generalize (lg_sl ([.ref (a 3)]) ++ List.replicate (2 - (lg_sl ([.ref (a 3)])).length) Slot.unset).toArray = ls at hl ⊢
  have hl : lv_has ls 2 [(0, .ref (a 3))] := hl
  subst hsz
  have hD := hD0.self (sz := s.heap.size)
  generalize hAe : va_A [(a 3, .inr (4, [.ref (a 1), .ref (a 20), .int 0, .int (-1), .int 0, .int 0, .int 0, .int 0])), (a 1, .inr (8, [.ref (a 2), .int 0])), (a 20, .inr (0, [.int 0, .int 0, .int 0, .int 0, .int 0, .int 0, .int 0, .int 0, .ref (a 21), .ref (a 22), .ref (a 23), .ref (a 24), .ref (a 25), .ref (a 26), .ref (a 27), .ref (a 28), .ref (a 29), .ref (a 30), .ref (a 34)])), (a 30, .inr (5, [.int 0, .ref (a 31), .ref (a 32), .ref (a 33)])), (a 34, .inr (9, [.int 0, .int 0, .int 0, .ref (a 35), .ref (a 36), .ref (a 37), .ref (a 38)])), (a 35, .inl (t 0, 9, .inl (fun _ => 0)))] s.heap.size = A at hD ⊢
  have hA : ∀ q : Nat, s.heap.size ≤ q → A q := fun q h => by rw [← hAe]; exact Or.inr h
  have hS : va_S A s.heap s.heap [] := va_S.rf
  have hP : va_P D classes [(a 3, .inr (4, [.ref (a 1), .ref (a 20), .int 0, .int (-1), .int 0, .int 0, .int 0, .int 0])), (a 1, .inr (8, [.ref (a 2), .int 0])), (a 20, .inr (0, [.int 0, .int 0, .int 0, .int 0, .int 0, .int 0, .int 0, .int 0, .ref (a 21), .ref (a 22), .ref (a 23), .ref (a 24), .ref (a 25), .ref (a 26), .ref (a 27), .ref (a 28), .ref (a 29), .ref (a 30), .ref (a 34)])), (a 30, .inr (5, [.int 0, .ref (a 31), .ref (a 32), .ref (a 33)])), (a 34, .inr (9, [.int 0, .int 0, .int 0, .ref (a 35), .ref (a 36), .ref (a 37), .ref (a 38)])), (a 35, .inl (t 0, 9, .inl (fun _ => 0)))] s.heap := hP
  refine lv_aload_n hx hb dX4_read_0 rfl (lv_at hl 0 rfl) ?_
  refine lv_iconst (v := 0) hx hb dX4_read_1 (by decide) ?_
  refine va_put (D := D) (ci := 4) (v := .int 0) (ty := .int) (C := RX4) (T := TX4) (N := 8) hx hb hts iX4 tyX4 tyX4_ok nmX4 hown hK hP hD hS 0 rfl rfl 2 (by decide) (hts _ m_241) (fun _ h9 => h9) rfl (tyX4_ok 2 (by decide)) rfl rfl (Nat.le_of_ble_eq_true rfl) dX4_read_2 (fun H locs hP hD hS => ?_)
  have hP : va_P D classes [(a 3, .inr (4, [.ref (a 1), .ref (a 20), .int 0, .int (-1), .int 0, .int 0, .int 0, .int 0])), (a 1, .inr (8, [.ref (a 2), .int 0])), (a 20, .inr (0, [.int 0, .int 0, .int 0, .int 0, .int 0, .int 0, .int 0, .int 0, .ref (a 21), .ref (a 22), .ref (a 23), .ref (a 24), .ref (a 25), .ref (a 26), .ref (a 27), .ref (a 28), .ref (a 29), .ref (a 30), .ref (a 34)])), (a 30, .inr (5, [.int 0, .ref (a 31), .ref (a 32), .ref (a 33)])), (a 34, .inr (9, [.int 0, .int 0, .int 0, .ref (a 35), .ref (a 36), .ref (a 37), .ref (a 38)])), (a 35, .inl (t 0, 9, .inl (fun _ => 0)))] H := hP
  have hD : va_D A [(a 3, .inr (4, [.ref (a 1), .ref (a 20), .int 0, .int (-1), .int 0, .int 0, .int 0, .int 0])), (a 1, .inr (8, [.ref (a 2), .int 0])), (a 20, .inr (0, [.int 0, .int 0, .int 0, .int 0, .int 0, .int 0, .int 0, .int 0, .ref (a 21), .ref (a 22), .ref (a 23), .ref (a 24), .ref (a 25), .ref (a 26), .ref (a 27), .ref (a 28), .ref (a 29), .ref (a 30), .ref (a 34)])), (a 30, .inr (5, [.int 0, .ref (a 31), .ref (a 32), .ref (a 33)])), (a 34, .inr (9, [.int 0, .int 0, .int 0, .ref (a 35), .ref (a 36), .ref (a 37), .ref (a 38)])), (a 35, .inl (t 0, 9, .inl (fun _ => 0)))] := hD
  refine lv_aload_n hx hb dX4_read_5 rfl (lv_at hl 0 rfl) ?_
  refine lv_iconst (v := (-1)) hx hb dX4_read_6 (by decide) ?_
  refine va_put (D := D) (ci := 4) (v := .int (-1)) (ty := .int) (C := RX4) (T := TX4) (N := 8) hx hb hts iX4 tyX4 tyX4_ok nmX4 hown hK hP hD hS 0 rfl rfl 3 (by decide) (hts _ m_243) (fun _ h9 => h9) rfl (tyX4_ok 3 (by decide)) rfl rfl (Nat.le_of_ble_eq_true rfl) dX4_read_7 (fun H locs hP hD hS => ?_)
  have hP : va_P D classes [(a 3, .inr (4, [.ref (a 1), .ref (a 20), .int 0, .int (-1), .int 0, .int 0, .int 0, .int 0])), (a 1, .inr (8, [.ref (a 2), .int 0])), (a 20, .inr (0, [.int 0, .int 0, .int 0, .int 0, .int 0, .int 0, .int 0, .int 0, .ref (a 21), .ref (a 22), .ref (a 23), .ref (a 24), .ref (a 25), .ref (a 26), .ref (a 27), .ref (a 28), .ref (a 29), .ref (a 30), .ref (a 34)])), (a 30, .inr (5, [.int 0, .ref (a 31), .ref (a 32), .ref (a 33)])), (a 34, .inr (9, [.int 0, .int 0, .int 0, .ref (a 35), .ref (a 36), .ref (a 37), .ref (a 38)])), (a 35, .inl (t 0, 9, .inl (fun _ => 0)))] H := hP
  have hD : va_D A [(a 3, .inr (4, [.ref (a 1), .ref (a 20), .int 0, .int (-1), .int 0, .int 0, .int 0, .int 0])), (a 1, .inr (8, [.ref (a 2), .int 0])), (a 20, .inr (0, [.int 0, .int 0, .int 0, .int 0, .int 0, .int 0, .int 0, .int 0, .ref (a 21), .ref (a 22), .ref (a 23), .ref (a 24), .ref (a 25), .ref (a 26), .ref (a 27), .ref (a 28), .ref (a 29), .ref (a 30), .ref (a 34)])), (a 30, .inr (5, [.int 0, .ref (a 31), .ref (a 32), .ref (a 33)])), (a 34, .inr (9, [.int 0, .int 0, .int 0, .ref (a 35), .ref (a 36), .ref (a 37), .ref (a 38)])), (a 35, .inl (t 0, 9, .inl (fun _ => 0)))] := hD
  refine lv_aload_n hx hb dX4_read_10 rfl (lv_at hl 0 rfl) ?_
  refine lv_iconst (v := 0) hx hb dX4_read_11 (by decide) ?_
  refine va_put (D := D) (ci := 4) (v := .int 0) (ty := .int) (C := RX4) (T := TX4) (N := 8) hx hb hts iX4 tyX4 tyX4_ok nmX4 hown hK hP hD hS 0 rfl rfl 6 (by decide) (hts _ m_247) (fun _ h9 => h9) rfl (tyX4_ok 6 (by decide)) rfl rfl (Nat.le_of_ble_eq_true rfl) dX4_read_12 (fun H locs hP hD hS => ?_)
  have hP : va_P D classes [(a 3, .inr (4, [.ref (a 1), .ref (a 20), .int 0, .int (-1), .int 0, .int 0, .int 0, .int 0])), (a 1, .inr (8, [.ref (a 2), .int 0])), (a 20, .inr (0, [.int 0, .int 0, .int 0, .int 0, .int 0, .int 0, .int 0, .int 0, .ref (a 21), .ref (a 22), .ref (a 23), .ref (a 24), .ref (a 25), .ref (a 26), .ref (a 27), .ref (a 28), .ref (a 29), .ref (a 30), .ref (a 34)])), (a 30, .inr (5, [.int 0, .ref (a 31), .ref (a 32), .ref (a 33)])), (a 34, .inr (9, [.int 0, .int 0, .int 0, .ref (a 35), .ref (a 36), .ref (a 37), .ref (a 38)])), (a 35, .inl (t 0, 9, .inl (fun _ => 0)))] H := hP
  have hD : va_D A [(a 3, .inr (4, [.ref (a 1), .ref (a 20), .int 0, .int (-1), .int 0, .int 0, .int 0, .int 0])), (a 1, .inr (8, [.ref (a 2), .int 0])), (a 20, .inr (0, [.int 0, .int 0, .int 0, .int 0, .int 0, .int 0, .int 0, .int 0, .ref (a 21), .ref (a 22), .ref (a 23), .ref (a 24), .ref (a 25), .ref (a 26), .ref (a 27), .ref (a 28), .ref (a 29), .ref (a 30), .ref (a 34)])), (a 30, .inr (5, [.int 0, .ref (a 31), .ref (a 32), .ref (a 33)])), (a 34, .inr (9, [.int 0, .int 0, .int 0, .ref (a 35), .ref (a 36), .ref (a 37), .ref (a 38)])), (a 35, .inl (t 0, 9, .inl (fun _ => 0)))] := hD
  refine lv_aload_n hx hb dX4_read_15 rfl (lv_at hl 0 rfl) ?_
  refine va_get (D := D) (ci := 4) (v := .ref (a 20)) (C := RX4) (T := TX4) (N := 8) hx hb hts iX4 hown hK hP 0 rfl rfl 1 (by decide) (hts _ m_240) (fun _ h9 => h9) rfl dX4_read_16 ?_
  refine x_wV (wr := [(a 3, .inr (4, [.ref (a 1), .ref (a 20), .int 0, .int (-1), .int 0, .int 0, .int 0, .int 0])), (a 1, .inr (8, [.ref (a 2), .int 0]))]) hF (c_X0_clear l D t a H.size) m_494 m_495 m_496 m_3 m_497 hd_X0_clear ⟨Nat.le_of_ble_eq_true rfl, Nat.le_of_ble_eq_true rfl⟩ hK hN hP hD hS hA 0 (ci := 0) rfl rfl rfl [2, 3, 4, 5] [0, 1] rfl rfl (by decide) (by decide) (by decide) hl.1 rfl (Nat.le_of_ble_eq_true rfl) dX4_read_19 ⟨Nat.le_of_ble_eq_true rfl, Nat.le_of_ble_eq_true rfl⟩ (fun u_1 H locs hP hD hS => ?_)
  have hP : va_P D classes [(a 3, .inr (4, [.ref (a 1), .ref (a 20), .int 0, .int (-1), .int 0, .int 0, .int 0, .int 0])), (a 1, .inr (8, [.ref (a 2), .int 0])), (a 30, .inr (5, [.int 0, .ref (a 31), .ref (a 32), .ref (a 33)])), (a 20, .inr (0, [.int 0, .int 0, .int 0, .int 0, .int 0, .int 0, .int 0, .int 0, .ref (a 21), .ref (a 22), .ref (a 23), .ref (a 24), .ref (a 25), .ref (a 26), .ref (a 27), .ref (a 28), .ref (a 29), .ref (a 30), .ref (a 34)])), (a 34, .inr (9, [.int 0, .int 0, .int 0, .ref (a 35), .ref (a 36), .ref (a 37), .ref (a 38)])), (a 35, .inl (t 0, 9, .inl (fun _ => 0)))] H := hP
  have hD : va_D A [(a 3, .inr (4, [.ref (a 1), .ref (a 20), .int 0, .int (-1), .int 0, .int 0, .int 0, .int 0])), (a 1, .inr (8, [.ref (a 2), .int 0])), (a 30, .inr (5, [.int 0, .ref (a 31), .ref (a 32), .ref (a 33)])), (a 20, .inr (0, [.int 0, .int 0, .int 0, .int 0, .int 0, .int 0, .int 0, .int 0, .ref (a 21), .ref (a 22), .ref (a 23), .ref (a 24), .ref (a 25), .ref (a 26), .ref (a 27), .ref (a 28), .ref (a 29), .ref (a 30), .ref (a 34)])), (a 34, .inr (9, [.int 0, .int 0, .int 0, .ref (a 35), .ref (a 36), .ref (a 37), .ref (a 38)])), (a 35, .inl (t 0, 9, .inl (fun _ => 0)))] := hD
  refine W.widen (k := 0) (n := 0) (Nat.le_of_ble_eq_true rfl) (Nat.le_of_ble_eq_true rfl) ?_
  refine lv_aload_n hx hb dX4_read_22 rfl (lv_at hl 0 rfl) ?_
  refine x_wV (wr := [(a 30, .inr (5, [.int 0, .ref (a 31), .ref (a 32), .ref (a 33)])), (a 20, .inr (0, [.int 0, .int 0, .int 0, .int 0, .int 0, .int 0, .int 0, .int 0, .ref (a 21), .ref (a 22), .ref (a 23), .ref (a 24), .ref (a 25), .ref (a 26), .ref (a 27), .ref (a 28), .ref (a 29), .ref (a 30), .ref (a 34)])), (a 34, .inr (9, [.int 0, .int 0, .int 0, .ref (a 35), .ref (a 36), .ref (a 37), .ref (a 38)])), (a 35, .inl (t 0, 9, .inl (fun _ => 0)))]) hF (c_X4_advance l D t a H.size) m_509 m_511 m_s0 m_6 m_512 hd_X4_advance ⟨Nat.le_of_ble_eq_true rfl, Nat.le_of_ble_eq_true rfl⟩ hK hN hP hD hS hA 0 (ci := 4) rfl rfl rfl [0, 1] [2, 3, 4, 5] rfl rfl (by decide) (by decide) (by decide) hl.1 rfl (Nat.le_of_ble_eq_true rfl) dX4_read_23 ⟨Nat.le_of_ble_eq_true rfl, Nat.le_of_ble_eq_true rfl⟩ (fun u_2 H locs hP hD hS => ?_)
  have hP : va_P D classes [(a 30, .inr (5, [.int 0, .ref (a 31), .ref (a 32), .ref (a 33)])), (a 20, .inr (0, [.int 0, .int 0, .int 0, .int 0, .int 0, .int 0, .int 0, .int 0, .ref (a 21), .ref (a 22), .ref (a 23), .ref (a 24), .ref (a 25), .ref (a 26), .ref (a 27), .ref (a 28), .ref (a 29), .ref (a 30), .ref (a 34)])), (a 34, .inr (9, [.int 0, .int 0, .int 0, .ref (a 35), .ref (a 36), .ref (a 37), .ref (a 38)])), (a 35, .inl (t 0, 9, .inl (fun _ => 0))), (a 3, .inr (4, [.ref (a 1), .ref (a 20), .int 0, .int (-1), .int 0, .int 0, .int 0, .int 0])), (a 1, .inr (8, [.ref (a 2), .int 0]))] H := hP
  have hD : va_D A [(a 30, .inr (5, [.int 0, .ref (a 31), .ref (a 32), .ref (a 33)])), (a 20, .inr (0, [.int 0, .int 0, .int 0, .int 0, .int 0, .int 0, .int 0, .int 0, .ref (a 21), .ref (a 22), .ref (a 23), .ref (a 24), .ref (a 25), .ref (a 26), .ref (a 27), .ref (a 28), .ref (a 29), .ref (a 30), .ref (a 34)])), (a 34, .inr (9, [.int 0, .int 0, .int 0, .ref (a 35), .ref (a 36), .ref (a 37), .ref (a 38)])), (a 35, .inl (t 0, 9, .inl (fun _ => 0))), (a 3, .inr (4, [.ref (a 1), .ref (a 20), .int 0, .int (-1), .int 0, .int 0, .int 0, .int 0])), (a 1, .inr (8, [.ref (a 2), .int 0]))] := hD
  refine W.widen (k := 0) (n := 0) (Nat.le_of_ble_eq_true rfl) (Nat.le_of_ble_eq_true rfl) ?_
  refine lv_iconst (v := 0) hx hb dX4_read_26 (by decide) ?_
  refine lv_istore_n (lv' := [(1, .int 0), (0, .ref (a 3))]) hx hb dX4_read_27 rfl hl (by decide) rfl (fun ls hl => ?_)
  refine lv_iload_n hx hb dX4_read_28 rfl (lv_at hl 0 rfl) ?_
  refine lv_sipush (v := 1600) hx hb dX4_read_29 (by decide) ?_
  refine lv_icmp_ge (tgt := 63) hx hb dX4_read_32 (by decide) (fun c9 => absurd c9 (by decide)) (fun _ => ?_)
  refine lv_aload_n hx hb dX4_read_35 rfl (lv_at hl 1 rfl) ?_
  refine va_get (D := D) (ci := 4) (v := .int 0) (C := RX4) (T := TX4) (N := 8) hx hb hts iX4 hown hK hP 4 rfl rfl 2 (by decide) (hts _ m_241) (fun _ h9 => h9) rfl dX4_read_36 ?_
  refine lv_if_ne (tgt := 63) hx hb dX4_read_39 (by decide) (fun c9 => absurd c9 (by decide)) (fun _ => ?_)
  refine lv_aload_n hx hb dX4_read_42 rfl (lv_at hl 1 rfl) ?_
  refine va_get (D := D) (ci := 4) (v := .int 0) (C := RX4) (T := TX4) (N := 8) hx hb hts iX4 hown hK hP 4 rfl rfl 4 (by decide) (hts _ m_245) (fun _ h9 => h9) rfl dX4_read_43 ?_
  refine lv_if_eq (tgt := 63) hx hb dX4_read_46 (by decide) (fun _ => ?_) (fun c9 => absurd (by decide) c9)
  have hP9 := hP.sub (ws' := [(a 30, .inr (5, [.int 0, .ref (a 31), .ref (a 32), .ref (a 33)])), (a 20, .inr (0, [.int 0, .int 0, .int 0, .int 0, .int 0, .int 0, .int 0, .int 0, .ref (a 21), .ref (a 22), .ref (a 23), .ref (a 24), .ref (a 25), .ref (a 26), .ref (a 27), .ref (a 28), .ref (a 29), .ref (a 30), .ref (a 34)])), (a 34, .inr (9, [.int 0, .int 0, .int 0, .ref (a 35), .ref (a 36), .ref (a 37), .ref (a 38)])), (a 35, .inl (t 0, 9, .inl (fun _ => 0))), (a 3, .inr (4, [.ref (a 1), .ref (a 20), .int 0, .int (-1), .int 0, .int 0, .int 0, .int 0])), (a 1, .inr (8, [.ref (a 2), .int 0]))]) [0, 1, 2, 3, 4, 5] rfl
  have hD9 := hD.sub (ws' := [(a 30, .inr (5, [.int 0, .ref (a 31), .ref (a 32), .ref (a 33)])), (a 20, .inr (0, [.int 0, .int 0, .int 0, .int 0, .int 0, .int 0, .int 0, .int 0, .ref (a 21), .ref (a 22), .ref (a 23), .ref (a 24), .ref (a 25), .ref (a 26), .ref (a 27), .ref (a 28), .ref (a 29), .ref (a 30), .ref (a 34)])), (a 34, .inr (9, [.int 0, .int 0, .int 0, .ref (a 35), .ref (a 36), .ref (a 37), .ref (a 38)])), (a 35, .inl (t 0, 9, .inl (fun _ => 0))), (a 3, .inr (4, [.ref (a 1), .ref (a 20), .int 0, .int (-1), .int 0, .int 0, .int 0, .int 0])), (a 1, .inr (8, [.ref (a 2), .int 0]))]) [0, 1, 2, 3, 4, 5] (by decide) rfl
  exact W.vret hx hb hr (fun t9 ht hW => ⟨⟨(fun k => [].getD k 0), rfl, trivial, by rw [ht]; exact hP9, hD9⟩, hS.F ht⟩) hS.2.2 dX4_read_63

