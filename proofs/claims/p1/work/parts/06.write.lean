set_option maxHeartbeats 4000000 in
set_option maxRecDepth 100000 in
theorem c_X5_init (l : Launch) (D : va_G) (t : Nat → ClassId) (h0 : Nat) (sz : Nat) : Met l yX5_init (wd yX5_init cX5_init 1 none) (RM 1 3 24) (PreW D (TY t) [.ref h0] [(h0, .inr (5, [.int 0, .null, .null, .null]))] sz) (va_Qv (fun _ : Nat → Nat => True) (fun (u : Nat → Nat) t9 => va_P D classes ((fun u : Nat → Nat => [(h0, .inr (5, [.int 0, .ref (u 0), .ref (u 1), .ref (u 2)])), (u 0, .inl (t 0, 8, .inl (fun _ => 0))), (u 1, .inl (t 0, 8, .inl (fun _ => 0))), (u 2, .inl (t 0, 8, .inl (fun _ => 0)))]) u) t9.heap ∧ va_D (va_A [(h0, .inr (5, [.int 0, .null, .null, .null]))] sz) ((fun u : Nat → Nat => [(h0, .inr (5, [.int 0, .ref (u 0), .ref (u 1), .ref (u 2)])), (u 0, .inl (t 0, 8, .inl (fun _ => 0))), (u 1, .inl (t 0, 8, .inl (fun _ => 0))), (u 2, .inl (t 0, 8, .inl (fun _ => 0)))]) u)) (va_A [(h0, .inr (5, [.int 0, .null, .null, .null]))] sz)) 3 24 (va_A [(h0, .inr (5, [.int 0, .null, .null, .null]))] sz) := by
  refine Met.ofW (cc := cX5_init) (maxL := 1) (ret := none) (by decide) rfl ?_
  intro p e s m args below meth c s₁ B hml hv
  obtain ⟨rfl, hsz, hP, hK, hD0, hN⟩ := hv
  have hx := B.exec
  have hb := B.bytes
  have hr := B.returns
  have hts : ∀ w ∈ TB, w.before _ s = true := fun w h => atoms_spec (ws := wd yX5_init cX5_init 1 none) B.pre w (List.mem_cons_of_mem _ h)
  have hown : s.vm.findClass RX5 = some m.cls := findClass_of_methodNamed B.named
  have hlocks := B.notSynchronized
  have hF : CallFix p m c cX5_init 1 s _ TB RX5 := ⟨hx, hb, hml, hown, hts⟩
  have hl := lv_entry ([.ref h0]) (n := 1) (Nat.le_of_ble_eq_true rfl)
  rw [lg_entry_eq]
  generalize (lg_sl ([.ref h0]) ++ List.replicate (1 - (lg_sl ([.ref h0])).length) Slot.unset).toArray = ls at hl ⊢
  have hl : lv_has ls 1 [(0, .ref h0)] := hl
  have hin : meth.name = "<init>" := (name_of_methodNamed B.named B.method).1
  subst hsz
  have hD := hD0.self (sz := s.heap.size)
  generalize hAe : va_A [(h0, .inr (5, [.int 0, .null, .null, .null]))] s.heap.size = A at hD ⊢
  have hA : ∀ q : Nat, s.heap.size ≤ q → A q := fun q h => by rw [← hAe]; exact Or.inr h
  have hS : va_S A s.heap s.heap [] := va_S.rf
  have hP : va_P D classes [(h0, .inr (5, [.int 0, .null, .null, .null]))] s.heap := hP
  refine lv_aload_n hx hb dX5_init_0 rfl (lv_at hl 0 rfl) ?_
  refine W.objInit hx hb hown (hts _ m_57) (hts _ m_28) (hts _ m_29) rfl (by rw [hml]; exact hl.1) rfl dX5_init_1 (Nat.le_of_ble_eq_true rfl) (Nat.le_of_ble_eq_true rfl) ?_
  refine W.eq (g2 := F0 m 4 ls []) rfl ?_
  refine lv_aload_n hx hb dX5_init_4 rfl (lv_at hl 0 rfl) ?_
  refine lv_bipush (v := 8) hx hb dX5_init_5 (by decide) ?_
  refine x_newa (atype := .int) (a0 := (8, .inl (fun _ => 0))) (ty := .int) hx hb (hts _ m_78) rfl hK hP hD hS hA 0 rfl (fun _ h9 => h9) (fun _ => rfl) (by decide) rfl (by decide) (Nat.le_of_ble_eq_true rfl) (Nat.le_of_ble_eq_true rfl) dX5_init_7 (fun q_1 H hP hD hS => ?_)
  have hP : va_P D classes [(h0, .inr (5, [.int 0, .null, .null, .null])), (q_1, .inl (t 0, 8, .inl (fun _ => 0)))] H := hP
  have hD : va_D A [(h0, .inr (5, [.int 0, .null, .null, .null])), (q_1, .inl (t 0, 8, .inl (fun _ => 0)))] := hD
  refine W.widen (k := 1) (n := 8) (Nat.le_of_ble_eq_true rfl) (Nat.le_of_ble_eq_true rfl) ?_
  refine va_putF (D := D) (ci := 5) (v := .ref q_1) (ty := (.array .int)) (C := RX5) (T := TX5) (N := 4) hx hb hts iX5 tyX5 tyX5_ok nmX5 hown hK hP hD hS 0 rfl rfl 1 (by decide) (hts _ m_63) (fun _ h9 => h9) rfl hin rfl (tyX5_ok 1 (by decide)) rfl rfl (Nat.le_of_ble_eq_true rfl) dX5_init_9 (fun H locs hP hD hS => ?_)
  have hP : va_P D classes [(h0, .inr (5, [.int 0, .ref q_1, .null, .null])), (q_1, .inl (t 0, 8, .inl (fun _ => 0)))] H := hP
  have hD : va_D A [(h0, .inr (5, [.int 0, .ref q_1, .null, .null])), (q_1, .inl (t 0, 8, .inl (fun _ => 0)))] := hD
  refine lv_aload_n hx hb dX5_init_12 rfl (lv_at hl 0 rfl) ?_
  refine lv_bipush (v := 8) hx hb dX5_init_13 (by decide) ?_
  refine x_newa (atype := .int) (a0 := (8, .inl (fun _ => 0))) (ty := .int) hx hb (hts _ m_78) rfl hK hP hD hS hA 0 rfl (fun _ h9 => h9) (fun _ => rfl) (by decide) rfl (by decide) (Nat.le_of_ble_eq_true rfl) (Nat.le_of_ble_eq_true rfl) dX5_init_15 (fun q_2 H hP hD hS => ?_)
  have hP : va_P D classes [(h0, .inr (5, [.int 0, .ref q_1, .null, .null])), (q_1, .inl (t 0, 8, .inl (fun _ => 0))), (q_2, .inl (t 0, 8, .inl (fun _ => 0)))] H := hP
  have hD : va_D A [(h0, .inr (5, [.int 0, .ref q_1, .null, .null])), (q_1, .inl (t 0, 8, .inl (fun _ => 0))), (q_2, .inl (t 0, 8, .inl (fun _ => 0)))] := hD
  refine W.widen (k := 2) (n := 16) (Nat.le_of_ble_eq_true rfl) (Nat.le_of_ble_eq_true rfl) ?_
  refine va_putF (D := D) (ci := 5) (v := .ref q_2) (ty := (.array .int)) (C := RX5) (T := TX5) (N := 4) hx hb hts iX5 tyX5 tyX5_ok nmX5 hown hK hP hD hS 0 rfl rfl 2 (by decide) (hts _ m_65) (fun _ h9 => h9) rfl hin rfl (tyX5_ok 2 (by decide)) rfl rfl (Nat.le_of_ble_eq_true rfl) dX5_init_17 (fun H locs hP hD hS => ?_)
  have hP : va_P D classes [(h0, .inr (5, [.int 0, .ref q_1, .ref q_2, .null])), (q_1, .inl (t 0, 8, .inl (fun _ => 0))), (q_2, .inl (t 0, 8, .inl (fun _ => 0)))] H := hP
  have hD : va_D A [(h0, .inr (5, [.int 0, .ref q_1, .ref q_2, .null])), (q_1, .inl (t 0, 8, .inl (fun _ => 0))), (q_2, .inl (t 0, 8, .inl (fun _ => 0)))] := hD
  refine lv_aload_n hx hb dX5_init_20 rfl (lv_at hl 0 rfl) ?_
  refine lv_bipush (v := 8) hx hb dX5_init_21 (by decide) ?_
  refine x_newa (atype := .int) (a0 := (8, .inl (fun _ => 0))) (ty := .int) hx hb (hts _ m_78) rfl hK hP hD hS hA 0 rfl (fun _ h9 => h9) (fun _ => rfl) (by decide) rfl (by decide) (Nat.le_of_ble_eq_true rfl) (Nat.le_of_ble_eq_true rfl) dX5_init_23 (fun q_3 H hP hD hS => ?_)
  have hP : va_P D classes [(h0, .inr (5, [.int 0, .ref q_1, .ref q_2, .null])), (q_1, .inl (t 0, 8, .inl (fun _ => 0))), (q_2, .inl (t 0, 8, .inl (fun _ => 0))), (q_3, .inl (t 0, 8, .inl (fun _ => 0)))] H := hP
  have hD : va_D A [(h0, .inr (5, [.int 0, .ref q_1, .ref q_2, .null])), (q_1, .inl (t 0, 8, .inl (fun _ => 0))), (q_2, .inl (t 0, 8, .inl (fun _ => 0))), (q_3, .inl (t 0, 8, .inl (fun _ => 0)))] := hD
  refine W.widen (k := 3) (n := 24) (Nat.le_of_ble_eq_true rfl) (Nat.le_of_ble_eq_true rfl) ?_
  refine va_putF (D := D) (ci := 5) (v := .ref q_3) (ty := (.array .int)) (C := RX5) (T := TX5) (N := 4) hx hb hts iX5 tyX5 tyX5_ok nmX5 hown hK hP hD hS 0 rfl rfl 3 (by decide) (hts _ m_67) (fun _ h9 => h9) rfl hin rfl (tyX5_ok 3 (by decide)) rfl rfl (Nat.le_of_ble_eq_true rfl) dX5_init_25 (fun H locs hP hD hS => ?_)
  have hP : va_P D classes [(h0, .inr (5, [.int 0, .ref q_1, .ref q_2, .ref q_3])), (q_1, .inl (t 0, 8, .inl (fun _ => 0))), (q_2, .inl (t 0, 8, .inl (fun _ => 0))), (q_3, .inl (t 0, 8, .inl (fun _ => 0)))] H := hP
  have hD : va_D A [(h0, .inr (5, [.int 0, .ref q_1, .ref q_2, .ref q_3])), (q_1, .inl (t 0, 8, .inl (fun _ => 0))), (q_2, .inl (t 0, 8, .inl (fun _ => 0))), (q_3, .inl (t 0, 8, .inl (fun _ => 0)))] := hD
  have hP9 := hP.sub (ws' := [(h0, .inr (5, [.int 0, .ref q_1, .ref q_2, .ref q_3])), (q_1, .inl (t 0, 8, .inl (fun _ => 0))), (q_2, .inl (t 0, 8, .inl (fun _ => 0))), (q_3, .inl (t 0, 8, .inl (fun _ => 0)))]) [0, 1, 2, 3] rfl
  have hD9 := hD.sub (ws' := [(h0, .inr (5, [.int 0, .ref q_1, .ref q_2, .ref q_3])), (q_1, .inl (t 0, 8, .inl (fun _ => 0))), (q_2, .inl (t 0, 8, .inl (fun _ => 0))), (q_3, .inl (t 0, 8, .inl (fun _ => 0)))]) [0, 1, 2, 3] (by decide) rfl
  exact W.vret hx hb hr (fun t9 ht hW => ⟨⟨(fun k => [q_1, q_2, q_3].getD k 0), rfl, trivial, by rw [ht]; exact hP9, hD9⟩, hS.F ht⟩) hS.2.2 dX5_init_28

set_option maxHeartbeats 4000000 in
set_option maxRecDepth 100000 in
theorem c_X9_init (l : Launch) (D : va_G) (t : Nat → ClassId) (h0 : Nat) (sz : Nat) : Met l yX9_init (wd yX9_init cX9_init 1 none) (RM 1 4 669) (PreW D (TY t) [.ref h0] [(h0, .inr (9, [.int 0, .int 0, .int 0, .null, .null, .null, .null]))] sz) (va_Qv (fun _ : Nat → Nat => True) (fun (u : Nat → Nat) t9 => va_P D classes ((fun u : Nat → Nat => [(h0, .inr (9, [.int 0, .int 0, .int 0, .ref (u 0), .ref (u 1), .ref (u 2), .ref (u 3)])), (u 0, .inl (t 0, 9, .inl (fun _ => 0))), (u 1, .inl (t 0, 60, .inl (fun _ => 0))), (u 2, .inl (t 0, 60, .inl (fun _ => 0))), (u 3, .inl (t 0, 540, .inl (fun _ => 0)))]) u) t9.heap ∧ va_D (va_A [(h0, .inr (9, [.int 0, .int 0, .int 0, .null, .null, .null, .null]))] sz) ((fun u : Nat → Nat => [(h0, .inr (9, [.int 0, .int 0, .int 0, .ref (u 0), .ref (u 1), .ref (u 2), .ref (u 3)])), (u 0, .inl (t 0, 9, .inl (fun _ => 0))), (u 1, .inl (t 0, 60, .inl (fun _ => 0))), (u 2, .inl (t 0, 60, .inl (fun _ => 0))), (u 3, .inl (t 0, 540, .inl (fun _ => 0)))]) u)) (va_A [(h0, .inr (9, [.int 0, .int 0, .int 0, .null, .null, .null, .null]))] sz)) 4 669 (va_A [(h0, .inr (9, [.int 0, .int 0, .int 0, .null, .null, .null, .null]))] sz) := by
  refine Met.ofW (cc := cX9_init) (maxL := 1) (ret := none) (by decide) rfl ?_
  intro p e s m args below meth c s₁ B hml hv
  obtain ⟨rfl, hsz, hP, hK, hD0, hN⟩ := hv
  have hx := B.exec
  have hb := B.bytes
  have hr := B.returns
  have hts : ∀ w ∈ TB, w.before _ s = true := fun w h => atoms_spec (ws := wd yX9_init cX9_init 1 none) B.pre w (List.mem_cons_of_mem _ h)
  have hown : s.vm.findClass RX9 = some m.cls := findClass_of_methodNamed B.named
  have hlocks := B.notSynchronized
  have hF : CallFix p m c cX9_init 1 s _ TB RX9 := ⟨hx, hb, hml, hown, hts⟩
  have hl := lv_entry ([.ref h0]) (n := 1) (Nat.le_of_ble_eq_true rfl)
  rw [lg_entry_eq]
  generalize (lg_sl ([.ref h0]) ++ List.replicate (1 - (lg_sl ([.ref h0])).length) Slot.unset).toArray = ls at hl ⊢
  have hl : lv_has ls 1 [(0, .ref h0)] := hl
  have hin : meth.name = "<init>" := (name_of_methodNamed B.named B.method).1
  subst hsz
  have hD := hD0.self (sz := s.heap.size)
  generalize hAe : va_A [(h0, .inr (9, [.int 0, .int 0, .int 0, .null, .null, .null, .null]))] s.heap.size = A at hD ⊢
  have hA : ∀ q : Nat, s.heap.size ≤ q → A q := fun q h => by rw [← hAe]; exact Or.inr h
  have hS : va_S A s.heap s.heap [] := va_S.rf
  have hP : va_P D classes [(h0, .inr (9, [.int 0, .int 0, .int 0, .null, .null, .null, .null]))] s.heap := hP
  refine lv_aload_n hx hb dX9_init_0 rfl (lv_at hl 0 rfl) ?_
  refine W.objInit hx hb hown (hts _ m_84) (hts _ m_28) (hts _ m_29) rfl (by rw [hml]; exact hl.1) rfl dX9_init_1 (Nat.le_of_ble_eq_true rfl) (Nat.le_of_ble_eq_true rfl) ?_
  refine W.eq (g2 := F0 m 4 ls []) rfl ?_
  refine lv_aload_n hx hb dX9_init_4 rfl (lv_at hl 0 rfl) ?_
  refine lv_bipush (v := 9) hx hb dX9_init_5 (by decide) ?_
  refine x_newa (atype := .int) (a0 := (9, .inl (fun _ => 0))) (ty := .int) hx hb (hts _ m_78) rfl hK hP hD hS hA 0 rfl (fun _ h9 => h9) (fun _ => rfl) (by decide) rfl (by decide) (Nat.le_of_ble_eq_true rfl) (Nat.le_of_ble_eq_true rfl) dX9_init_7 (fun q_1 H hP hD hS => ?_)
  have hP : va_P D classes [(h0, .inr (9, [.int 0, .int 0, .int 0, .null, .null, .null, .null])), (q_1, .inl (t 0, 9, .inl (fun _ => 0)))] H := hP
  have hD : va_D A [(h0, .inr (9, [.int 0, .int 0, .int 0, .null, .null, .null, .null])), (q_1, .inl (t 0, 9, .inl (fun _ => 0)))] := hD
  refine W.widen (k := 1) (n := 9) (Nat.le_of_ble_eq_true rfl) (Nat.le_of_ble_eq_true rfl) ?_
  refine va_putF (D := D) (ci := 9) (v := .ref q_1) (ty := (.array .int)) (C := RX9) (T := TX9) (N := 7) hx hb hts iX9 tyX9 tyX9_ok nmX9 hown hK hP hD hS 0 rfl rfl 3 (by decide) (hts _ m_96) (fun _ h9 => h9) rfl hin rfl (tyX9_ok 3 (by decide)) rfl rfl (Nat.le_of_ble_eq_true rfl) dX9_init_9 (fun H locs hP hD hS => ?_)
  have hP : va_P D classes [(h0, .inr (9, [.int 0, .int 0, .int 0, .ref q_1, .null, .null, .null])), (q_1, .inl (t 0, 9, .inl (fun _ => 0)))] H := hP
  have hD : va_D A [(h0, .inr (9, [.int 0, .int 0, .int 0, .ref q_1, .null, .null, .null])), (q_1, .inl (t 0, 9, .inl (fun _ => 0)))] := hD
  refine lv_aload_n hx hb dX9_init_12 rfl (lv_at hl 0 rfl) ?_
  refine lv_bipush (v := 60) hx hb dX9_init_13 (by decide) ?_
  refine x_newa (atype := .int) (a0 := (60, .inl (fun _ => 0))) (ty := .int) hx hb (hts _ m_78) rfl hK hP hD hS hA 0 rfl (fun _ h9 => h9) (fun _ => rfl) (by decide) rfl (by decide) (Nat.le_of_ble_eq_true rfl) (Nat.le_of_ble_eq_true rfl) dX9_init_15 (fun q_2 H hP hD hS => ?_)
  have hP : va_P D classes [(h0, .inr (9, [.int 0, .int 0, .int 0, .ref q_1, .null, .null, .null])), (q_1, .inl (t 0, 9, .inl (fun _ => 0))), (q_2, .inl (t 0, 60, .inl (fun _ => 0)))] H := hP
  have hD : va_D A [(h0, .inr (9, [.int 0, .int 0, .int 0, .ref q_1, .null, .null, .null])), (q_1, .inl (t 0, 9, .inl (fun _ => 0))), (q_2, .inl (t 0, 60, .inl (fun _ => 0)))] := hD
  refine W.widen (k := 2) (n := 69) (Nat.le_of_ble_eq_true rfl) (Nat.le_of_ble_eq_true rfl) ?_
  refine va_putF (D := D) (ci := 9) (v := .ref q_2) (ty := (.array .int)) (C := RX9) (T := TX9) (N := 7) hx hb hts iX9 tyX9 tyX9_ok nmX9 hown hK hP hD hS 0 rfl rfl 4 (by decide) (hts _ m_98) (fun _ h9 => h9) rfl hin rfl (tyX9_ok 4 (by decide)) rfl rfl (Nat.le_of_ble_eq_true rfl) dX9_init_17 (fun H locs hP hD hS => ?_)
  have hP : va_P D classes [(h0, .inr (9, [.int 0, .int 0, .int 0, .ref q_1, .ref q_2, .null, .null])), (q_1, .inl (t 0, 9, .inl (fun _ => 0))), (q_2, .inl (t 0, 60, .inl (fun _ => 0)))] H := hP
  have hD : va_D A [(h0, .inr (9, [.int 0, .int 0, .int 0, .ref q_1, .ref q_2, .null, .null])), (q_1, .inl (t 0, 9, .inl (fun _ => 0))), (q_2, .inl (t 0, 60, .inl (fun _ => 0)))] := hD
  refine lv_aload_n hx hb dX9_init_20 rfl (lv_at hl 0 rfl) ?_
  refine lv_bipush (v := 60) hx hb dX9_init_21 (by decide) ?_
  refine x_newa (atype := .int) (a0 := (60, .inl (fun _ => 0))) (ty := .int) hx hb (hts _ m_78) rfl hK hP hD hS hA 0 rfl (fun _ h9 => h9) (fun _ => rfl) (by decide) rfl (by decide) (Nat.le_of_ble_eq_true rfl) (Nat.le_of_ble_eq_true rfl) dX9_init_23 (fun q_3 H hP hD hS => ?_)
  have hP : va_P D classes [(h0, .inr (9, [.int 0, .int 0, .int 0, .ref q_1, .ref q_2, .null, .null])), (q_1, .inl (t 0, 9, .inl (fun _ => 0))), (q_2, .inl (t 0, 60, .inl (fun _ => 0))), (q_3, .inl (t 0, 60, .inl (fun _ => 0)))] H := hP
  have hD : va_D A [(h0, .inr (9, [.int 0, .int 0, .int 0, .ref q_1, .ref q_2, .null, .null])), (q_1, .inl (t 0, 9, .inl (fun _ => 0))), (q_2, .inl (t 0, 60, .inl (fun _ => 0))), (q_3, .inl (t 0, 60, .inl (fun _ => 0)))] := hD
  refine W.widen (k := 3) (n := 129) (Nat.le_of_ble_eq_true rfl) (Nat.le_of_ble_eq_true rfl) ?_
  refine va_putF (D := D) (ci := 9) (v := .ref q_3) (ty := (.array .int)) (C := RX9) (T := TX9) (N := 7) hx hb hts iX9 tyX9 tyX9_ok nmX9 hown hK hP hD hS 0 rfl rfl 5 (by decide) (hts _ m_100) (fun _ h9 => h9) rfl hin rfl (tyX9_ok 5 (by decide)) rfl rfl (Nat.le_of_ble_eq_true rfl) dX9_init_25 (fun H locs hP hD hS => ?_)
  have hP : va_P D classes [(h0, .inr (9, [.int 0, .int 0, .int 0, .ref q_1, .ref q_2, .ref q_3, .null])), (q_1, .inl (t 0, 9, .inl (fun _ => 0))), (q_2, .inl (t 0, 60, .inl (fun _ => 0))), (q_3, .inl (t 0, 60, .inl (fun _ => 0)))] H := hP
  have hD : va_D A [(h0, .inr (9, [.int 0, .int 0, .int 0, .ref q_1, .ref q_2, .ref q_3, .null])), (q_1, .inl (t 0, 9, .inl (fun _ => 0))), (q_2, .inl (t 0, 60, .inl (fun _ => 0))), (q_3, .inl (t 0, 60, .inl (fun _ => 0)))] := hD
  refine lv_aload_n hx hb dX9_init_28 rfl (lv_at hl 0 rfl) ?_
  refine lv_sipush (v := 540) hx hb dX9_init_29 (by decide) ?_
  refine x_newa (atype := .int) (a0 := (540, .inl (fun _ => 0))) (ty := .int) hx hb (hts _ m_78) rfl hK hP hD hS hA 0 rfl (fun _ h9 => h9) (fun _ => rfl) (by decide) rfl (by decide) (Nat.le_of_ble_eq_true rfl) (Nat.le_of_ble_eq_true rfl) dX9_init_32 (fun q_4 H hP hD hS => ?_)
  have hP : va_P D classes [(h0, .inr (9, [.int 0, .int 0, .int 0, .ref q_1, .ref q_2, .ref q_3, .null])), (q_1, .inl (t 0, 9, .inl (fun _ => 0))), (q_2, .inl (t 0, 60, .inl (fun _ => 0))), (q_3, .inl (t 0, 60, .inl (fun _ => 0))), (q_4, .inl (t 0, 540, .inl (fun _ => 0)))] H := hP
  have hD : va_D A [(h0, .inr (9, [.int 0, .int 0, .int 0, .ref q_1, .ref q_2, .ref q_3, .null])), (q_1, .inl (t 0, 9, .inl (fun _ => 0))), (q_2, .inl (t 0, 60, .inl (fun _ => 0))), (q_3, .inl (t 0, 60, .inl (fun _ => 0))), (q_4, .inl (t 0, 540, .inl (fun _ => 0)))] := hD
  refine W.widen (k := 4) (n := 669) (Nat.le_of_ble_eq_true rfl) (Nat.le_of_ble_eq_true rfl) ?_
  refine va_putF (D := D) (ci := 9) (v := .ref q_4) (ty := (.array .int)) (C := RX9) (T := TX9) (N := 7) hx hb hts iX9 tyX9 tyX9_ok nmX9 hown hK hP hD hS 0 rfl rfl 6 (by decide) (hts _ m_101) (fun _ h9 => h9) rfl hin rfl (tyX9_ok 6 (by decide)) rfl rfl (Nat.le_of_ble_eq_true rfl) dX9_init_34 (fun H locs hP hD hS => ?_)
  have hP : va_P D classes [(h0, .inr (9, [.int 0, .int 0, .int 0, .ref q_1, .ref q_2, .ref q_3, .ref q_4])), (q_1, .inl (t 0, 9, .inl (fun _ => 0))), (q_2, .inl (t 0, 60, .inl (fun _ => 0))), (q_3, .inl (t 0, 60, .inl (fun _ => 0))), (q_4, .inl (t 0, 540, .inl (fun _ => 0)))] H := hP
  have hD : va_D A [(h0, .inr (9, [.int 0, .int 0, .int 0, .ref q_1, .ref q_2, .ref q_3, .ref q_4])), (q_1, .inl (t 0, 9, .inl (fun _ => 0))), (q_2, .inl (t 0, 60, .inl (fun _ => 0))), (q_3, .inl (t 0, 60, .inl (fun _ => 0))), (q_4, .inl (t 0, 540, .inl (fun _ => 0)))] := hD
  have hP9 := hP.sub (ws' := [(h0, .inr (9, [.int 0, .int 0, .int 0, .ref q_1, .ref q_2, .ref q_3, .ref q_4])), (q_1, .inl (t 0, 9, .inl (fun _ => 0))), (q_2, .inl (t 0, 60, .inl (fun _ => 0))), (q_3, .inl (t 0, 60, .inl (fun _ => 0))), (q_4, .inl (t 0, 540, .inl (fun _ => 0)))]) [0, 1, 2, 3, 4] rfl
  have hD9 := hD.sub (ws' := [(h0, .inr (9, [.int 0, .int 0, .int 0, .ref q_1, .ref q_2, .ref q_3, .ref q_4])), (q_1, .inl (t 0, 9, .inl (fun _ => 0))), (q_2, .inl (t 0, 60, .inl (fun _ => 0))), (q_3, .inl (t 0, 60, .inl (fun _ => 0))), (q_4, .inl (t 0, 540, .inl (fun _ => 0)))]) [0, 1, 2, 3, 4] (by decide) rfl
  exact W.vret hx hb hr (fun t9 ht hW => ⟨⟨(fun k => [q_1, q_2, q_3, q_4].getD k 0), rfl, trivial, by rw [ht]; exact hP9, hD9⟩, hS.F ht⟩) hS.2.2 dX9_init_37

set_option maxHeartbeats 4000000 in
set_option maxRecDepth 100000 in
theorem c_X8_init (l : Launch) (D : va_G) (t : Nat → ClassId) (h0 : Nat) (sz : Nat) : Met l yX8_init (wd yX8_init cX8_init 1 none) (RM 1 1 1600) (PreW D (TY t) [.ref h0] [(h0, .inr (8, [.null, .int 0]))] sz) (va_Qv (fun _ : Nat → Nat => True) (fun (u : Nat → Nat) t9 => va_P D classes ((fun u : Nat → Nat => [(h0, .inr (8, [.ref (u 0), .int 0])), (u 0, .inl (t 1, 1600, .inl (fun _ => 0)))]) u) t9.heap ∧ va_D (va_A [(h0, .inr (8, [.null, .int 0]))] sz) ((fun u : Nat → Nat => [(h0, .inr (8, [.ref (u 0), .int 0])), (u 0, .inl (t 1, 1600, .inl (fun _ => 0)))]) u)) (va_A [(h0, .inr (8, [.null, .int 0]))] sz)) 1 1600 (va_A [(h0, .inr (8, [.null, .int 0]))] sz) := by
  refine Met.ofW (cc := cX8_init) (maxL := 1) (ret := none) (by decide) rfl ?_
  intro p e s m args below meth c s₁ B hml hv
  obtain ⟨rfl, hsz, hP, hK, hD0, hN⟩ := hv
  have hx := B.exec
  have hb := B.bytes
  have hr := B.returns
  have hts : ∀ w ∈ TB, w.before _ s = true := fun w h => atoms_spec (ws := wd yX8_init cX8_init 1 none) B.pre w (List.mem_cons_of_mem _ h)
  have hown : s.vm.findClass RX8 = some m.cls := findClass_of_methodNamed B.named
  have hlocks := B.notSynchronized
  have hF : CallFix p m c cX8_init 1 s _ TB RX8 := ⟨hx, hb, hml, hown, hts⟩
  have hl := lv_entry ([.ref h0]) (n := 1) (Nat.le_of_ble_eq_true rfl)
  rw [lg_entry_eq]
  generalize (lg_sl ([.ref h0]) ++ List.replicate (1 - (lg_sl ([.ref h0])).length) Slot.unset).toArray = ls at hl ⊢
  have hl : lv_has ls 1 [(0, .ref h0)] := hl
  have hin : meth.name = "<init>" := (name_of_methodNamed B.named B.method).1
  subst hsz
  have hD := hD0.self (sz := s.heap.size)
  generalize hAe : va_A [(h0, .inr (8, [.null, .int 0]))] s.heap.size = A at hD ⊢
  have hA : ∀ q : Nat, s.heap.size ≤ q → A q := fun q h => by rw [← hAe]; exact Or.inr h
  have hS : va_S A s.heap s.heap [] := va_S.rf
  have hP : va_P D classes [(h0, .inr (8, [.null, .int 0]))] s.heap := hP
  refine lv_aload_n hx hb dX8_init_0 rfl (lv_at hl 0 rfl) ?_
  refine W.objInit hx hb hown (hts _ m_35) (hts _ m_28) (hts _ m_29) rfl (by rw [hml]; exact hl.1) rfl dX8_init_1 (Nat.le_of_ble_eq_true rfl) (Nat.le_of_ble_eq_true rfl) ?_
  refine W.eq (g2 := F0 m 4 ls []) rfl ?_
  refine lv_aload_n hx hb dX8_init_4 rfl (lv_at hl 0 rfl) ?_
  refine lv_sipush (v := 1600) hx hb dX8_init_5 (by decide) ?_
  refine x_newa (atype := .byte) (a0 := (1600, .inl (fun _ => 0))) (ty := .byte) hx hb (hts _ m_45) rfl hK hP hD hS hA 1 rfl (fun _ h9 => h9) (fun _ => rfl) (by decide) rfl (by decide) (Nat.le_of_ble_eq_true rfl) (Nat.le_of_ble_eq_true rfl) dX8_init_8 (fun q_1 H hP hD hS => ?_)
  have hP : va_P D classes [(h0, .inr (8, [.null, .int 0])), (q_1, .inl (t 1, 1600, .inl (fun _ => 0)))] H := hP
  have hD : va_D A [(h0, .inr (8, [.null, .int 0])), (q_1, .inl (t 1, 1600, .inl (fun _ => 0)))] := hD
  refine W.widen (k := 1) (n := 1600) (Nat.le_of_ble_eq_true rfl) (Nat.le_of_ble_eq_true rfl) ?_
  refine va_putF (D := D) (ci := 8) (v := .ref q_1) (ty := (.array .byte)) (C := RX8) (T := TX8) (N := 2) hx hb hts iX8 tyX8 tyX8_ok nmX8 hown hK hP hD hS 0 rfl rfl 0 (by decide) (hts _ m_36) (fun _ h9 => h9) rfl hin rfl (tyX8_ok 0 (by decide)) rfl rfl (Nat.le_of_ble_eq_true rfl) dX8_init_10 (fun H locs hP hD hS => ?_)
  have hP : va_P D classes [(h0, .inr (8, [.ref q_1, .int 0])), (q_1, .inl (t 1, 1600, .inl (fun _ => 0)))] H := hP
  have hD : va_D A [(h0, .inr (8, [.ref q_1, .int 0])), (q_1, .inl (t 1, 1600, .inl (fun _ => 0)))] := hD
  have hP9 := hP.sub (ws' := [(h0, .inr (8, [.ref q_1, .int 0])), (q_1, .inl (t 1, 1600, .inl (fun _ => 0)))]) [0, 1] rfl
  have hD9 := hD.sub (ws' := [(h0, .inr (8, [.ref q_1, .int 0])), (q_1, .inl (t 1, 1600, .inl (fun _ => 0)))]) [0, 1] (by decide) rfl
  exact W.vret hx hb hr (fun t9 ht hW => ⟨⟨(fun k => [q_1].getD k 0), rfl, trivial, by rw [ht]; exact hP9, hD9⟩, hS.F ht⟩) hS.2.2 dX8_init_13

set_option maxHeartbeats 4000000 in
set_option maxRecDepth 100000 in
theorem c_X6_init (l : Launch) (D : va_G) (t : Nat → ClassId) (h0 : Nat) (sz : Nat) : Met l yX6_init (wd yX6_init cX6_init 1 none) (RM 1 1 60) (PreW D (TY t) [.ref h0] [(h0, .inr (6, [.null, .int 0, .int 0]))] sz) (va_Qv (fun _ : Nat → Nat => True) (fun (u : Nat → Nat) t9 => va_P D classes ((fun u : Nat → Nat => [(h0, .inr (6, [.ref (u 0), .int (-1), .int 0])), (u 0, .inl (t 2, 60, .inr (.inl (fun _ => 0))))]) u) t9.heap ∧ va_D (va_A [(h0, .inr (6, [.null, .int 0, .int 0]))] sz) ((fun u : Nat → Nat => [(h0, .inr (6, [.ref (u 0), .int (-1), .int 0])), (u 0, .inl (t 2, 60, .inr (.inl (fun _ => 0))))]) u)) (va_A [(h0, .inr (6, [.null, .int 0, .int 0]))] sz)) 1 60 (va_A [(h0, .inr (6, [.null, .int 0, .int 0]))] sz) := by
  refine Met.ofW (cc := cX6_init) (maxL := 1) (ret := none) (by decide) rfl ?_
  intro p e s m args below meth c s₁ B hml hv
  obtain ⟨rfl, hsz, hP, hK, hD0, hN⟩ := hv
  have hx := B.exec
  have hb := B.bytes
  have hr := B.returns
  have hts : ∀ w ∈ TB, w.before _ s = true := fun w h => atoms_spec (ws := wd yX6_init cX6_init 1 none) B.pre w (List.mem_cons_of_mem _ h)
  have hown : s.vm.findClass RX6 = some m.cls := findClass_of_methodNamed B.named
  have hlocks := B.notSynchronized
  have hF : CallFix p m c cX6_init 1 s _ TB RX6 := ⟨hx, hb, hml, hown, hts⟩
  have hl := lv_entry ([.ref h0]) (n := 1) (Nat.le_of_ble_eq_true rfl)
  rw [lg_entry_eq]
  generalize (lg_sl ([.ref h0]) ++ List.replicate (1 - (lg_sl ([.ref h0])).length) Slot.unset).toArray = ls at hl ⊢
  have hl : lv_has ls 1 [(0, .ref h0)] := hl
  have hin : meth.name = "<init>" := (name_of_methodNamed B.named B.method).1
  subst hsz
  have hD := hD0.self (sz := s.heap.size)
  generalize hAe : va_A [(h0, .inr (6, [.null, .int 0, .int 0]))] s.heap.size = A at hD ⊢
  have hA : ∀ q : Nat, s.heap.size ≤ q → A q := fun q h => by rw [← hAe]; exact Or.inr h
  have hS : va_S A s.heap s.heap [] := va_S.rf
  have hP : va_P D classes [(h0, .inr (6, [.null, .int 0, .int 0]))] s.heap := hP
  refine lv_aload_n hx hb dX6_init_0 rfl (lv_at hl 0 rfl) ?_
  refine W.objInit hx hb hown (hts _ m_416) (hts _ m_28) (hts _ m_29) rfl (by rw [hml]; exact hl.1) rfl dX6_init_1 (Nat.le_of_ble_eq_true rfl) (Nat.le_of_ble_eq_true rfl) ?_
  refine W.eq (g2 := F0 m 4 ls []) rfl ?_
  refine lv_aload_n hx hb dX6_init_4 rfl (lv_at hl 0 rfl) ?_
  refine lv_bipush (v := 60) hx hb dX6_init_5 (by decide) ?_
  refine x_newa (atype := .long) (a0 := (60, .inr (.inl (fun _ => 0)))) (ty := .long) hx hb (hts _ m_432) rfl hK hP hD hS hA 2 rfl (fun _ h9 => h9) (fun _ => rfl) (by decide) rfl (by decide) (Nat.le_of_ble_eq_true rfl) (Nat.le_of_ble_eq_true rfl) dX6_init_7 (fun q_1 H hP hD hS => ?_)
  have hP : va_P D classes [(h0, .inr (6, [.null, .int 0, .int 0])), (q_1, .inl (t 2, 60, .inr (.inl (fun _ => 0))))] H := hP
  have hD : va_D A [(h0, .inr (6, [.null, .int 0, .int 0])), (q_1, .inl (t 2, 60, .inr (.inl (fun _ => 0))))] := hD
  refine W.widen (k := 1) (n := 60) (Nat.le_of_ble_eq_true rfl) (Nat.le_of_ble_eq_true rfl) ?_
  refine va_putF (D := D) (ci := 6) (v := .ref q_1) (ty := (.array .long)) (C := RX6) (T := TX6) (N := 3) hx hb hts iX6 tyX6 tyX6_ok nmX6 hown hK hP hD hS 0 rfl rfl 0 (by decide) (hts _ m_417) (fun _ h9 => h9) rfl hin rfl (tyX6_ok 0 (by decide)) rfl rfl (Nat.le_of_ble_eq_true rfl) dX6_init_9 (fun H locs hP hD hS => ?_)
  have hP : va_P D classes [(h0, .inr (6, [.ref q_1, .int 0, .int 0])), (q_1, .inl (t 2, 60, .inr (.inl (fun _ => 0))))] H := hP
  have hD : va_D A [(h0, .inr (6, [.ref q_1, .int 0, .int 0])), (q_1, .inl (t 2, 60, .inr (.inl (fun _ => 0))))] := hD
  refine lv_aload_n hx hb dX6_init_12 rfl (lv_at hl 0 rfl) ?_
  refine lv_iconst (v := (-1)) hx hb dX6_init_13 (by decide) ?_
  refine va_put (D := D) (ci := 6) (v := .int (-1)) (ty := .int) (C := RX6) (T := TX6) (N := 3) hx hb hts iX6 tyX6 tyX6_ok nmX6 hown hK hP hD hS 0 rfl rfl 1 (by decide) (hts _ m_420) (fun _ h9 => h9) rfl (tyX6_ok 1 (by decide)) rfl rfl (Nat.le_of_ble_eq_true rfl) dX6_init_14 (fun H locs hP hD hS => ?_)
  have hP : va_P D classes [(h0, .inr (6, [.ref q_1, .int (-1), .int 0])), (q_1, .inl (t 2, 60, .inr (.inl (fun _ => 0))))] H := hP
  have hD : va_D A [(h0, .inr (6, [.ref q_1, .int (-1), .int 0])), (q_1, .inl (t 2, 60, .inr (.inl (fun _ => 0))))] := hD
  have hP9 := hP.sub (ws' := [(h0, .inr (6, [.ref q_1, .int (-1), .int 0])), (q_1, .inl (t 2, 60, .inr (.inl (fun _ => 0))))]) [0, 1] rfl
  have hD9 := hD.sub (ws' := [(h0, .inr (6, [.ref q_1, .int (-1), .int 0])), (q_1, .inl (t 2, 60, .inr (.inl (fun _ => 0))))]) [0, 1] (by decide) rfl
  exact W.vret hx hb hr (fun t9 ht hW => ⟨⟨(fun k => [q_1].getD k 0), rfl, trivial, by rw [ht]; exact hP9, hD9⟩, hS.F ht⟩) hS.2.2 dX6_init_17

set_option maxHeartbeats 4000000 in
set_option maxRecDepth 100000 in
theorem c_X4_init (l : Launch) (D : va_G) (t : Nat → ClassId) (h0 : Nat) (r0 : Nat) (r1 : Nat) (sz : Nat) : Met l yX4_init (wd yX4_init cX4_init 3 none) (RM 1 0 0) (PreW D (TY t) [.ref h0, .ref r0, .ref r1] [(h0, .inr (4, [.null, .null, .int 0, .int 0, .int 0, .int 0, .int 0, .int 0]))] sz) (va_Qv (fun _ : Nat → Nat => True) (fun (u : Nat → Nat) t9 => va_P D classes ((fun u : Nat → Nat => [(h0, .inr (4, [.ref r0, .ref r1, .int 0, .int (-1), .int 0, .int 0, .int 0, .int 0]))]) u) t9.heap ∧ va_D (va_A [(h0, .inr (4, [.null, .null, .int 0, .int 0, .int 0, .int 0, .int 0, .int 0]))] sz) ((fun u : Nat → Nat => [(h0, .inr (4, [.ref r0, .ref r1, .int 0, .int (-1), .int 0, .int 0, .int 0, .int 0]))]) u)) (va_A [(h0, .inr (4, [.null, .null, .int 0, .int 0, .int 0, .int 0, .int 0, .int 0]))] sz)) 0 0 (va_A [(h0, .inr (4, [.null, .null, .int 0, .int 0, .int 0, .int 0, .int 0, .int 0]))] sz) := by
  refine Met.ofW (cc := cX4_init) (maxL := 3) (ret := none) (by decide) rfl ?_
  intro p e s m args below meth c s₁ B hml hv
  obtain ⟨rfl, hsz, hP, hK, hD0, hN⟩ := hv
  have hx := B.exec
  have hb := B.bytes
  have hr := B.returns
  have hts : ∀ w ∈ TB, w.before _ s = true := fun w h => atoms_spec (ws := wd yX4_init cX4_init 3 none) B.pre w (List.mem_cons_of_mem _ h)
  have hown : s.vm.findClass RX4 = some m.cls := findClass_of_methodNamed B.named
  have hlocks := B.notSynchronized
  have hF : CallFix p m c cX4_init 3 s _ TB RX4 := ⟨hx, hb, hml, hown, hts⟩
  have hl := lv_entry ([.ref h0, .ref r0, .ref r1]) (n := 3) (Nat.le_of_ble_eq_true rfl)
  rw [lg_entry_eq]
  generalize (lg_sl ([.ref h0, .ref r0, .ref r1]) ++ List.replicate (3 - (lg_sl ([.ref h0, .ref r0, .ref r1])).length) Slot.unset).toArray = ls at hl ⊢
  have hl : lv_has ls 3 [(0, .ref h0), (1, .ref r0), (2, .ref r1)] := hl
  have hin : meth.name = "<init>" := (name_of_methodNamed B.named B.method).1
  subst hsz
  have hD := hD0.self (sz := s.heap.size)
  generalize hAe : va_A [(h0, .inr (4, [.null, .null, .int 0, .int 0, .int 0, .int 0, .int 0, .int 0]))] s.heap.size = A at hD ⊢
  have hA : ∀ q : Nat, s.heap.size ≤ q → A q := fun q h => by rw [← hAe]; exact Or.inr h
  have hS : va_S A s.heap s.heap [] := va_S.rf
  have hP : va_P D classes [(h0, .inr (4, [.null, .null, .int 0, .int 0, .int 0, .int 0, .int 0, .int 0]))] s.heap := hP
  refine lv_aload_n hx hb dX4_init_0 rfl (lv_at hl 0 rfl) ?_
  refine W.objInit hx hb hown (hts _ m_238) (hts _ m_28) (hts _ m_29) rfl (by rw [hml]; exact hl.1) rfl dX4_init_1 (Nat.le_of_ble_eq_true rfl) (Nat.le_of_ble_eq_true rfl) ?_
  refine W.eq (g2 := F0 m 4 ls []) rfl ?_
  refine lv_aload_n hx hb dX4_init_4 rfl (lv_at hl 0 rfl) ?_
  refine lv_iconst (v := (-1)) hx hb dX4_init_5 (by decide) ?_
  refine va_put (D := D) (ci := 4) (v := .int (-1)) (ty := .int) (C := RX4) (T := TX4) (N := 8) hx hb hts iX4 tyX4 tyX4_ok nmX4 hown hK hP hD hS 0 rfl rfl 3 (by decide) (hts _ m_243) (fun _ h9 => h9) rfl (tyX4_ok 3 (by decide)) rfl rfl (Nat.le_of_ble_eq_true rfl) dX4_init_6 (fun H locs hP hD hS => ?_)
  have hP : va_P D classes [(h0, .inr (4, [.null, .null, .int 0, .int (-1), .int 0, .int 0, .int 0, .int 0]))] H := hP
  have hD : va_D A [(h0, .inr (4, [.null, .null, .int 0, .int (-1), .int 0, .int 0, .int 0, .int 0]))] := hD
  refine lv_aload_n hx hb dX4_init_9 rfl (lv_at hl 0 rfl) ?_
  refine lv_aload_n hx hb dX4_init_10 rfl (lv_at hl 1 rfl) ?_
  refine va_putF (D := D) (ci := 4) (v := .ref r0) (ty := (.object "WordSeats$Tape")) (C := RX4) (T := TX4) (N := 8) hx hb hts iX4 tyX4 tyX4_ok nmX4 hown hK hP hD hS 0 rfl rfl 0 (by decide) (hts _ m_239) (fun _ h9 => h9) rfl hin rfl (tyX4_ok 0 (by decide)) rfl rfl (Nat.le_of_ble_eq_true rfl) dX4_init_11 (fun H locs hP hD hS => ?_)
  have hP : va_P D classes [(h0, .inr (4, [.ref r0, .null, .int 0, .int (-1), .int 0, .int 0, .int 0, .int 0]))] H := hP
  have hD : va_D A [(h0, .inr (4, [.ref r0, .null, .int 0, .int (-1), .int 0, .int 0, .int 0, .int 0]))] := hD
  refine lv_aload_n hx hb dX4_init_14 rfl (lv_at hl 0 rfl) ?_
  refine lv_aload_n hx hb dX4_init_15 rfl (lv_at hl 2 rfl) ?_
  refine va_putF (D := D) (ci := 4) (v := .ref r1) (ty := (.object "WordSeats$Chamber")) (C := RX4) (T := TX4) (N := 8) hx hb hts iX4 tyX4 tyX4_ok nmX4 hown hK hP hD hS 0 rfl rfl 1 (by decide) (hts _ m_240) (fun _ h9 => h9) rfl hin rfl (tyX4_ok 1 (by decide)) rfl rfl (Nat.le_of_ble_eq_true rfl) dX4_init_16 (fun H locs hP hD hS => ?_)
  have hP : va_P D classes [(h0, .inr (4, [.ref r0, .ref r1, .int 0, .int (-1), .int 0, .int 0, .int 0, .int 0]))] H := hP
  have hD : va_D A [(h0, .inr (4, [.ref r0, .ref r1, .int 0, .int (-1), .int 0, .int 0, .int 0, .int 0]))] := hD
  have hP9 := hP.sub (ws' := [(h0, .inr (4, [.ref r0, .ref r1, .int 0, .int (-1), .int 0, .int 0, .int 0, .int 0]))]) [0] rfl
  have hD9 := hD.sub (ws' := [(h0, .inr (4, [.ref r0, .ref r1, .int 0, .int (-1), .int 0, .int 0, .int 0, .int 0]))]) [0] (by decide) rfl
  exact W.vret hx hb hr (fun t9 ht hW => ⟨⟨(fun k => [].getD k 0), rfl, trivial, by rw [ht]; exact hP9, hD9⟩, hS.F ht⟩) hS.2.2 dX4_init_19

set_option maxHeartbeats 4000000 in
set_option maxRecDepth 100000 in
theorem c_X2_init (l : Launch) (D : va_G) (t : Nat → ClassId) (h0 : Nat) (r0 : Nat) (sz : Nat) : Met l yX2_init (wd yX2_init cX2_init 2 none) (RM 1 3 99) (PreW D (TY t) [.ref h0, .ref r0] [(h0, .inr (2, [.null, .int 0, .int 0, .int 0, .null, .null, .int 0, .null, .int 0, .int 0, .int 0, .int 0, .int 0]))] sz) (va_Qv (fun _ : Nat → Nat => True) (fun (u : Nat → Nat) t9 => va_P D classes ((fun u : Nat → Nat => [(h0, .inr (2, [.ref r0, .int 0, .int 0, .int 0, .ref (u 0), .ref (u 1), .int 0, .ref (u 2), .int 0, .int 0, .int 0, .int 0, .int 0])), (u 0, .inl (t 0, 81, .inl (fun _ => 0))), (u 1, .inl (t 0, 9, .inl (fun _ => 0))), (u 2, .inl (t 0, 9, .inl (fun _ => 0)))]) u) t9.heap ∧ va_D (va_A [(h0, .inr (2, [.null, .int 0, .int 0, .int 0, .null, .null, .int 0, .null, .int 0, .int 0, .int 0, .int 0, .int 0]))] sz) ((fun u : Nat → Nat => [(h0, .inr (2, [.ref r0, .int 0, .int 0, .int 0, .ref (u 0), .ref (u 1), .int 0, .ref (u 2), .int 0, .int 0, .int 0, .int 0, .int 0])), (u 0, .inl (t 0, 81, .inl (fun _ => 0))), (u 1, .inl (t 0, 9, .inl (fun _ => 0))), (u 2, .inl (t 0, 9, .inl (fun _ => 0)))]) u)) (va_A [(h0, .inr (2, [.null, .int 0, .int 0, .int 0, .null, .null, .int 0, .null, .int 0, .int 0, .int 0, .int 0, .int 0]))] sz)) 3 99 (va_A [(h0, .inr (2, [.null, .int 0, .int 0, .int 0, .null, .null, .int 0, .null, .int 0, .int 0, .int 0, .int 0, .int 0]))] sz) := by
  refine Met.ofW (cc := cX2_init) (maxL := 2) (ret := none) (by decide) rfl ?_
  intro p e s m args below meth c s₁ B hml hv
  obtain ⟨rfl, hsz, hP, hK, hD0, hN⟩ := hv
  have hx := B.exec
  have hb := B.bytes
  have hr := B.returns
  have hts : ∀ w ∈ TB, w.before _ s = true := fun w h => atoms_spec (ws := wd yX2_init cX2_init 2 none) B.pre w (List.mem_cons_of_mem _ h)
  have hown : s.vm.findClass RX2 = some m.cls := findClass_of_methodNamed B.named
  have hlocks := B.notSynchronized
  have hF : CallFix p m c cX2_init 2 s _ TB RX2 := ⟨hx, hb, hml, hown, hts⟩
  have hl := lv_entry ([.ref h0, .ref r0]) (n := 2) (Nat.le_of_ble_eq_true rfl)
  rw [lg_entry_eq]
  generalize (lg_sl ([.ref h0, .ref r0]) ++ List.replicate (2 - (lg_sl ([.ref h0, .ref r0])).length) Slot.unset).toArray = ls at hl ⊢
  have hl : lv_has ls 2 [(0, .ref h0), (1, .ref r0)] := hl
  have hin : meth.name = "<init>" := (name_of_methodNamed B.named B.method).1
  subst hsz
  have hD := hD0.self (sz := s.heap.size)
  generalize hAe : va_A [(h0, .inr (2, [.null, .int 0, .int 0, .int 0, .null, .null, .int 0, .null, .int 0, .int 0, .int 0, .int 0, .int 0]))] s.heap.size = A at hD ⊢
  have hA : ∀ q : Nat, s.heap.size ≤ q → A q := fun q h => by rw [← hAe]; exact Or.inr h
  have hS : va_S A s.heap s.heap [] := va_S.rf
  have hP : va_P D classes [(h0, .inr (2, [.null, .int 0, .int 0, .int 0, .null, .null, .int 0, .null, .int 0, .int 0, .int 0, .int 0, .int 0]))] s.heap := hP
  refine lv_aload_n hx hb dX2_init_0 rfl (lv_at hl 0 rfl) ?_
  refine W.objInit hx hb hown (hts _ m_274) (hts _ m_28) (hts _ m_29) rfl (by rw [hml]; exact hl.1) rfl dX2_init_1 (Nat.le_of_ble_eq_true rfl) (Nat.le_of_ble_eq_true rfl) ?_
  refine W.eq (g2 := F0 m 4 ls []) rfl ?_
  refine lv_aload_n hx hb dX2_init_4 rfl (lv_at hl 0 rfl) ?_
  refine lv_bipush (v := 81) hx hb dX2_init_5 (by decide) ?_
  refine x_newa (atype := .int) (a0 := (81, .inl (fun _ => 0))) (ty := .int) hx hb (hts _ m_78) rfl hK hP hD hS hA 0 rfl (fun _ h9 => h9) (fun _ => rfl) (by decide) rfl (by decide) (Nat.le_of_ble_eq_true rfl) (Nat.le_of_ble_eq_true rfl) dX2_init_7 (fun q_1 H hP hD hS => ?_)
  have hP : va_P D classes [(h0, .inr (2, [.null, .int 0, .int 0, .int 0, .null, .null, .int 0, .null, .int 0, .int 0, .int 0, .int 0, .int 0])), (q_1, .inl (t 0, 81, .inl (fun _ => 0)))] H := hP
  have hD : va_D A [(h0, .inr (2, [.null, .int 0, .int 0, .int 0, .null, .null, .int 0, .null, .int 0, .int 0, .int 0, .int 0, .int 0])), (q_1, .inl (t 0, 81, .inl (fun _ => 0)))] := hD
  refine W.widen (k := 1) (n := 81) (Nat.le_of_ble_eq_true rfl) (Nat.le_of_ble_eq_true rfl) ?_
  refine va_putF (D := D) (ci := 2) (v := .ref q_1) (ty := (.array .int)) (C := RX2) (T := TX2) (N := 13) hx hb hts iX2 tyX2 tyX2_ok nmX2 hown hK hP hD hS 0 rfl rfl 4 (by decide) (hts _ m_282) (fun _ h9 => h9) rfl hin rfl (tyX2_ok 4 (by decide)) rfl rfl (Nat.le_of_ble_eq_true rfl) dX2_init_9 (fun H locs hP hD hS => ?_)
  have hP : va_P D classes [(h0, .inr (2, [.null, .int 0, .int 0, .int 0, .ref q_1, .null, .int 0, .null, .int 0, .int 0, .int 0, .int 0, .int 0])), (q_1, .inl (t 0, 81, .inl (fun _ => 0)))] H := hP
  have hD : va_D A [(h0, .inr (2, [.null, .int 0, .int 0, .int 0, .ref q_1, .null, .int 0, .null, .int 0, .int 0, .int 0, .int 0, .int 0])), (q_1, .inl (t 0, 81, .inl (fun _ => 0)))] := hD
  refine lv_aload_n hx hb dX2_init_12 rfl (lv_at hl 0 rfl) ?_
  refine lv_bipush (v := 9) hx hb dX2_init_13 (by decide) ?_
  refine x_newa (atype := .int) (a0 := (9, .inl (fun _ => 0))) (ty := .int) hx hb (hts _ m_78) rfl hK hP hD hS hA 0 rfl (fun _ h9 => h9) (fun _ => rfl) (by decide) rfl (by decide) (Nat.le_of_ble_eq_true rfl) (Nat.le_of_ble_eq_true rfl) dX2_init_15 (fun q_2 H hP hD hS => ?_)
  have hP : va_P D classes [(h0, .inr (2, [.null, .int 0, .int 0, .int 0, .ref q_1, .null, .int 0, .null, .int 0, .int 0, .int 0, .int 0, .int 0])), (q_1, .inl (t 0, 81, .inl (fun _ => 0))), (q_2, .inl (t 0, 9, .inl (fun _ => 0)))] H := hP
  have hD : va_D A [(h0, .inr (2, [.null, .int 0, .int 0, .int 0, .ref q_1, .null, .int 0, .null, .int 0, .int 0, .int 0, .int 0, .int 0])), (q_1, .inl (t 0, 81, .inl (fun _ => 0))), (q_2, .inl (t 0, 9, .inl (fun _ => 0)))] := hD
  refine W.widen (k := 2) (n := 90) (Nat.le_of_ble_eq_true rfl) (Nat.le_of_ble_eq_true rfl) ?_
  refine va_putF (D := D) (ci := 2) (v := .ref q_2) (ty := (.array .int)) (C := RX2) (T := TX2) (N := 13) hx hb hts iX2 tyX2 tyX2_ok nmX2 hown hK hP hD hS 0 rfl rfl 5 (by decide) (hts _ m_283) (fun _ h9 => h9) rfl hin rfl (tyX2_ok 5 (by decide)) rfl rfl (Nat.le_of_ble_eq_true rfl) dX2_init_17 (fun H locs hP hD hS => ?_)
  have hP : va_P D classes [(h0, .inr (2, [.null, .int 0, .int 0, .int 0, .ref q_1, .ref q_2, .int 0, .null, .int 0, .int 0, .int 0, .int 0, .int 0])), (q_1, .inl (t 0, 81, .inl (fun _ => 0))), (q_2, .inl (t 0, 9, .inl (fun _ => 0)))] H := hP
  have hD : va_D A [(h0, .inr (2, [.null, .int 0, .int 0, .int 0, .ref q_1, .ref q_2, .int 0, .null, .int 0, .int 0, .int 0, .int 0, .int 0])), (q_1, .inl (t 0, 81, .inl (fun _ => 0))), (q_2, .inl (t 0, 9, .inl (fun _ => 0)))] := hD
  refine lv_aload_n hx hb dX2_init_20 rfl (lv_at hl 0 rfl) ?_
  refine lv_bipush (v := 9) hx hb dX2_init_21 (by decide) ?_
  refine x_newa (atype := .int) (a0 := (9, .inl (fun _ => 0))) (ty := .int) hx hb (hts _ m_78) rfl hK hP hD hS hA 0 rfl (fun _ h9 => h9) (fun _ => rfl) (by decide) rfl (by decide) (Nat.le_of_ble_eq_true rfl) (Nat.le_of_ble_eq_true rfl) dX2_init_23 (fun q_3 H hP hD hS => ?_)
  have hP : va_P D classes [(h0, .inr (2, [.null, .int 0, .int 0, .int 0, .ref q_1, .ref q_2, .int 0, .null, .int 0, .int 0, .int 0, .int 0, .int 0])), (q_1, .inl (t 0, 81, .inl (fun _ => 0))), (q_2, .inl (t 0, 9, .inl (fun _ => 0))), (q_3, .inl (t 0, 9, .inl (fun _ => 0)))] H := hP
  have hD : va_D A [(h0, .inr (2, [.null, .int 0, .int 0, .int 0, .ref q_1, .ref q_2, .int 0, .null, .int 0, .int 0, .int 0, .int 0, .int 0])), (q_1, .inl (t 0, 81, .inl (fun _ => 0))), (q_2, .inl (t 0, 9, .inl (fun _ => 0))), (q_3, .inl (t 0, 9, .inl (fun _ => 0)))] := hD
  refine W.widen (k := 3) (n := 99) (Nat.le_of_ble_eq_true rfl) (Nat.le_of_ble_eq_true rfl) ?_
  refine va_putF (D := D) (ci := 2) (v := .ref q_3) (ty := (.array .int)) (C := RX2) (T := TX2) (N := 13) hx hb hts iX2 tyX2 tyX2_ok nmX2 hown hK hP hD hS 0 rfl rfl 7 (by decide) (hts _ m_288) (fun _ h9 => h9) rfl hin rfl (tyX2_ok 7 (by decide)) rfl rfl (Nat.le_of_ble_eq_true rfl) dX2_init_25 (fun H locs hP hD hS => ?_)
  have hP : va_P D classes [(h0, .inr (2, [.null, .int 0, .int 0, .int 0, .ref q_1, .ref q_2, .int 0, .ref q_3, .int 0, .int 0, .int 0, .int 0, .int 0])), (q_1, .inl (t 0, 81, .inl (fun _ => 0))), (q_2, .inl (t 0, 9, .inl (fun _ => 0))), (q_3, .inl (t 0, 9, .inl (fun _ => 0)))] H := hP
  have hD : va_D A [(h0, .inr (2, [.null, .int 0, .int 0, .int 0, .ref q_1, .ref q_2, .int 0, .ref q_3, .int 0, .int 0, .int 0, .int 0, .int 0])), (q_1, .inl (t 0, 81, .inl (fun _ => 0))), (q_2, .inl (t 0, 9, .inl (fun _ => 0))), (q_3, .inl (t 0, 9, .inl (fun _ => 0)))] := hD
  refine lv_aload_n hx hb dX2_init_28 rfl (lv_at hl 0 rfl) ?_
  refine lv_aload_n hx hb dX2_init_29 rfl (lv_at hl 1 rfl) ?_
  refine va_putF (D := D) (ci := 2) (v := .ref r0) (ty := (.object "WordSeats$Chamber")) (C := RX2) (T := TX2) (N := 13) hx hb hts iX2 tyX2 tyX2_ok nmX2 hown hK hP hD hS 0 rfl rfl 0 (by decide) (hts _ m_275) (fun _ h9 => h9) rfl hin rfl (tyX2_ok 0 (by decide)) rfl rfl (Nat.le_of_ble_eq_true rfl) dX2_init_30 (fun H locs hP hD hS => ?_)
  have hP : va_P D classes [(h0, .inr (2, [.ref r0, .int 0, .int 0, .int 0, .ref q_1, .ref q_2, .int 0, .ref q_3, .int 0, .int 0, .int 0, .int 0, .int 0])), (q_1, .inl (t 0, 81, .inl (fun _ => 0))), (q_2, .inl (t 0, 9, .inl (fun _ => 0))), (q_3, .inl (t 0, 9, .inl (fun _ => 0)))] H := hP
  have hD : va_D A [(h0, .inr (2, [.ref r0, .int 0, .int 0, .int 0, .ref q_1, .ref q_2, .int 0, .ref q_3, .int 0, .int 0, .int 0, .int 0, .int 0])), (q_1, .inl (t 0, 81, .inl (fun _ => 0))), (q_2, .inl (t 0, 9, .inl (fun _ => 0))), (q_3, .inl (t 0, 9, .inl (fun _ => 0)))] := hD
  have hP9 := hP.sub (ws' := [(h0, .inr (2, [.ref r0, .int 0, .int 0, .int 0, .ref q_1, .ref q_2, .int 0, .ref q_3, .int 0, .int 0, .int 0, .int 0, .int 0])), (q_1, .inl (t 0, 81, .inl (fun _ => 0))), (q_2, .inl (t 0, 9, .inl (fun _ => 0))), (q_3, .inl (t 0, 9, .inl (fun _ => 0)))]) [0, 1, 2, 3] rfl
  have hD9 := hD.sub (ws' := [(h0, .inr (2, [.ref r0, .int 0, .int 0, .int 0, .ref q_1, .ref q_2, .int 0, .ref q_3, .int 0, .int 0, .int 0, .int 0, .int 0])), (q_1, .inl (t 0, 81, .inl (fun _ => 0))), (q_2, .inl (t 0, 9, .inl (fun _ => 0))), (q_3, .inl (t 0, 9, .inl (fun _ => 0)))]) [0, 1, 2, 3] (by decide) rfl
  exact W.vret hx hb hr (fun t9 ht hW => ⟨⟨(fun k => [q_1, q_2, q_3].getD k 0), rfl, trivial, by rw [ht]; exact hP9, hD9⟩, hS.F ht⟩) hS.2.2 dX2_init_33

set_option maxHeartbeats 4000000 in
set_option maxRecDepth 100000 in
theorem c_X10_init (l : Launch) (D : va_G) (t : Nat → ClassId) (h0 : Nat) (r0 : Nat) (sz : Nat) : Met l yX10_init (wd yX10_init cX10_init 2 none) (RM 1 2 16) (PreW D (TY t) [.ref h0, .ref r0] [(h0, .inr (10, [.null, .null, .null]))] sz) (va_Qv (fun _ : Nat → Nat => True) (fun (u : Nat → Nat) t9 => va_P D classes ((fun u : Nat → Nat => [(h0, .inr (10, [.ref r0, .ref (u 0), .ref (u 1)])), (u 0, .inl (t 0, 8, .inl (fun _ => 0))), (u 1, .inl (t 0, 8, .inl (fun _ => 0)))]) u) t9.heap ∧ va_D (va_A [(h0, .inr (10, [.null, .null, .null]))] sz) ((fun u : Nat → Nat => [(h0, .inr (10, [.ref r0, .ref (u 0), .ref (u 1)])), (u 0, .inl (t 0, 8, .inl (fun _ => 0))), (u 1, .inl (t 0, 8, .inl (fun _ => 0)))]) u)) (va_A [(h0, .inr (10, [.null, .null, .null]))] sz)) 2 16 (va_A [(h0, .inr (10, [.null, .null, .null]))] sz) := by
  refine Met.ofW (cc := cX10_init) (maxL := 2) (ret := none) (by decide) rfl ?_
  intro p e s m args below meth c s₁ B hml hv
  obtain ⟨rfl, hsz, hP, hK, hD0, hN⟩ := hv
  have hx := B.exec
  have hb := B.bytes
  have hr := B.returns
  have hts : ∀ w ∈ TB, w.before _ s = true := fun w h => atoms_spec (ws := wd yX10_init cX10_init 2 none) B.pre w (List.mem_cons_of_mem _ h)
  have hown : s.vm.findClass RX10 = some m.cls := findClass_of_methodNamed B.named
  have hlocks := B.notSynchronized
  have hF : CallFix p m c cX10_init 2 s _ TB RX10 := ⟨hx, hb, hml, hown, hts⟩
  have hl := lv_entry ([.ref h0, .ref r0]) (n := 2) (Nat.le_of_ble_eq_true rfl)
  rw [lg_entry_eq]
  generalize (lg_sl ([.ref h0, .ref r0]) ++ List.replicate (2 - (lg_sl ([.ref h0, .ref r0])).length) Slot.unset).toArray = ls at hl ⊢
  have hl : lv_has ls 2 [(0, .ref h0), (1, .ref r0)] := hl
  have hin : meth.name = "<init>" := (name_of_methodNamed B.named B.method).1
  subst hsz
  have hD := hD0.self (sz := s.heap.size)
  generalize hAe : va_A [(h0, .inr (10, [.null, .null, .null]))] s.heap.size = A at hD ⊢
  have hA : ∀ q : Nat, s.heap.size ≤ q → A q := fun q h => by rw [← hAe]; exact Or.inr h
  have hS : va_S A s.heap s.heap [] := va_S.rf
  have hP : va_P D classes [(h0, .inr (10, [.null, .null, .null]))] s.heap := hP
  refine lv_aload_n hx hb dX10_init_0 rfl (lv_at hl 0 rfl) ?_
  refine W.objInit hx hb hown (hts _ m_330) (hts _ m_28) (hts _ m_29) rfl (by rw [hml]; exact hl.1) rfl dX10_init_1 (Nat.le_of_ble_eq_true rfl) (Nat.le_of_ble_eq_true rfl) ?_
  refine W.eq (g2 := F0 m 4 ls []) rfl ?_
  refine lv_aload_n hx hb dX10_init_4 rfl (lv_at hl 0 rfl) ?_
  refine lv_bipush (v := 8) hx hb dX10_init_5 (by decide) ?_
  refine x_newa (atype := .int) (a0 := (8, .inl (fun _ => 0))) (ty := .int) hx hb (hts _ m_78) rfl hK hP hD hS hA 0 rfl (fun _ h9 => h9) (fun _ => rfl) (by decide) rfl (by decide) (Nat.le_of_ble_eq_true rfl) (Nat.le_of_ble_eq_true rfl) dX10_init_7 (fun q_1 H hP hD hS => ?_)
  have hP : va_P D classes [(h0, .inr (10, [.null, .null, .null])), (q_1, .inl (t 0, 8, .inl (fun _ => 0)))] H := hP
  have hD : va_D A [(h0, .inr (10, [.null, .null, .null])), (q_1, .inl (t 0, 8, .inl (fun _ => 0)))] := hD
  refine W.widen (k := 1) (n := 8) (Nat.le_of_ble_eq_true rfl) (Nat.le_of_ble_eq_true rfl) ?_
  refine va_putF (D := D) (ci := 10) (v := .ref q_1) (ty := (.array .int)) (C := RX10) (T := TX10) (N := 3) hx hb hts iX10 tyX10 tyX10_ok nmX10 hown hK hP hD hS 0 rfl rfl 1 (by decide) (hts _ m_332) (fun _ h9 => h9) rfl hin rfl (tyX10_ok 1 (by decide)) rfl rfl (Nat.le_of_ble_eq_true rfl) dX10_init_9 (fun H locs hP hD hS => ?_)
  have hP : va_P D classes [(h0, .inr (10, [.null, .ref q_1, .null])), (q_1, .inl (t 0, 8, .inl (fun _ => 0)))] H := hP
  have hD : va_D A [(h0, .inr (10, [.null, .ref q_1, .null])), (q_1, .inl (t 0, 8, .inl (fun _ => 0)))] := hD
  refine lv_aload_n hx hb dX10_init_12 rfl (lv_at hl 0 rfl) ?_
  refine lv_bipush (v := 8) hx hb dX10_init_13 (by decide) ?_
  refine x_newa (atype := .int) (a0 := (8, .inl (fun _ => 0))) (ty := .int) hx hb (hts _ m_78) rfl hK hP hD hS hA 0 rfl (fun _ h9 => h9) (fun _ => rfl) (by decide) rfl (by decide) (Nat.le_of_ble_eq_true rfl) (Nat.le_of_ble_eq_true rfl) dX10_init_15 (fun q_2 H hP hD hS => ?_)
  have hP : va_P D classes [(h0, .inr (10, [.null, .ref q_1, .null])), (q_1, .inl (t 0, 8, .inl (fun _ => 0))), (q_2, .inl (t 0, 8, .inl (fun _ => 0)))] H := hP
  have hD : va_D A [(h0, .inr (10, [.null, .ref q_1, .null])), (q_1, .inl (t 0, 8, .inl (fun _ => 0))), (q_2, .inl (t 0, 8, .inl (fun _ => 0)))] := hD
  refine W.widen (k := 2) (n := 16) (Nat.le_of_ble_eq_true rfl) (Nat.le_of_ble_eq_true rfl) ?_
  refine va_putF (D := D) (ci := 10) (v := .ref q_2) (ty := (.array .int)) (C := RX10) (T := TX10) (N := 3) hx hb hts iX10 tyX10 tyX10_ok nmX10 hown hK hP hD hS 0 rfl rfl 2 (by decide) (hts _ m_334) (fun _ h9 => h9) rfl hin rfl (tyX10_ok 2 (by decide)) rfl rfl (Nat.le_of_ble_eq_true rfl) dX10_init_17 (fun H locs hP hD hS => ?_)
  have hP : va_P D classes [(h0, .inr (10, [.null, .ref q_1, .ref q_2])), (q_1, .inl (t 0, 8, .inl (fun _ => 0))), (q_2, .inl (t 0, 8, .inl (fun _ => 0)))] H := hP
  have hD : va_D A [(h0, .inr (10, [.null, .ref q_1, .ref q_2])), (q_1, .inl (t 0, 8, .inl (fun _ => 0))), (q_2, .inl (t 0, 8, .inl (fun _ => 0)))] := hD
  refine lv_aload_n hx hb dX10_init_20 rfl (lv_at hl 0 rfl) ?_
  refine lv_aload_n hx hb dX10_init_21 rfl (lv_at hl 1 rfl) ?_
  refine va_putF (D := D) (ci := 10) (v := .ref r0) (ty := (.object "WordSeats$Chamber")) (C := RX10) (T := TX10) (N := 3) hx hb hts iX10 tyX10 tyX10_ok nmX10 hown hK hP hD hS 0 rfl rfl 0 (by decide) (hts _ m_331) (fun _ h9 => h9) rfl hin rfl (tyX10_ok 0 (by decide)) rfl rfl (Nat.le_of_ble_eq_true rfl) dX10_init_22 (fun H locs hP hD hS => ?_)
  have hP : va_P D classes [(h0, .inr (10, [.ref r0, .ref q_1, .ref q_2])), (q_1, .inl (t 0, 8, .inl (fun _ => 0))), (q_2, .inl (t 0, 8, .inl (fun _ => 0)))] H := hP
  have hD : va_D A [(h0, .inr (10, [.ref r0, .ref q_1, .ref q_2])), (q_1, .inl (t 0, 8, .inl (fun _ => 0))), (q_2, .inl (t 0, 8, .inl (fun _ => 0)))] := hD
  have hP9 := hP.sub (ws' := [(h0, .inr (10, [.ref r0, .ref q_1, .ref q_2])), (q_1, .inl (t 0, 8, .inl (fun _ => 0))), (q_2, .inl (t 0, 8, .inl (fun _ => 0)))]) [0, 1, 2] rfl
  have hD9 := hD.sub (ws' := [(h0, .inr (10, [.ref r0, .ref q_1, .ref q_2])), (q_1, .inl (t 0, 8, .inl (fun _ => 0))), (q_2, .inl (t 0, 8, .inl (fun _ => 0)))]) [0, 1, 2] (by decide) rfl
  exact W.vret hx hb hr (fun t9 ht hW => ⟨⟨(fun k => [q_1, q_2].getD k 0), rfl, trivial, by rw [ht]; exact hP9, hD9⟩, hS.F ht⟩) hS.2.2 dX10_init_25

set_option maxHeartbeats 4000000 in
set_option maxRecDepth 100000 in
theorem c_X3_init (l : Launch) (D : va_G) (t : Nat → ClassId) (h0 : Nat) (r0 : Nat) (sz : Nat) : Met l yX3_init (wd yX3_init cX3_init 2 none) (RM 1 2 8) (PreW D (TY t) [.ref h0, .ref r0] [(h0, .inr (3, [.null, .null, .null]))] sz) (va_Qv (fun _ : Nat → Nat => True) (fun (u : Nat → Nat) t9 => va_P D classes ((fun u : Nat → Nat => [(h0, .inr (3, [.ref r0, .ref (u 0), .ref (u 1)])), (u 0, .inl (t 0, 4, .inl (fun _ => 0))), (u 1, .inl (t 0, 4, .inl (fun _ => 0)))]) u) t9.heap ∧ va_D (va_A [(h0, .inr (3, [.null, .null, .null]))] sz) ((fun u : Nat → Nat => [(h0, .inr (3, [.ref r0, .ref (u 0), .ref (u 1)])), (u 0, .inl (t 0, 4, .inl (fun _ => 0))), (u 1, .inl (t 0, 4, .inl (fun _ => 0)))]) u)) (va_A [(h0, .inr (3, [.null, .null, .null]))] sz)) 2 8 (va_A [(h0, .inr (3, [.null, .null, .null]))] sz) := by
  refine Met.ofW (cc := cX3_init) (maxL := 2) (ret := none) (by decide) rfl ?_
  intro p e s m args below meth c s₁ B hml hv
  obtain ⟨rfl, hsz, hP, hK, hD0, hN⟩ := hv
  have hx := B.exec
  have hb := B.bytes
  have hr := B.returns
  have hts : ∀ w ∈ TB, w.before _ s = true := fun w h => atoms_spec (ws := wd yX3_init cX3_init 2 none) B.pre w (List.mem_cons_of_mem _ h)
  have hown : s.vm.findClass RX3 = some m.cls := findClass_of_methodNamed B.named
  have hlocks := B.notSynchronized
  have hF : CallFix p m c cX3_init 2 s _ TB RX3 := ⟨hx, hb, hml, hown, hts⟩
  have hl := lv_entry ([.ref h0, .ref r0]) (n := 2) (Nat.le_of_ble_eq_true rfl)
  rw [lg_entry_eq]
  generalize (lg_sl ([.ref h0, .ref r0]) ++ List.replicate (2 - (lg_sl ([.ref h0, .ref r0])).length) Slot.unset).toArray = ls at hl ⊢
  have hl : lv_has ls 2 [(0, .ref h0), (1, .ref r0)] := hl
  have hin : meth.name = "<init>" := (name_of_methodNamed B.named B.method).1
  subst hsz
  have hD := hD0.self (sz := s.heap.size)
  generalize hAe : va_A [(h0, .inr (3, [.null, .null, .null]))] s.heap.size = A at hD ⊢
  have hA : ∀ q : Nat, s.heap.size ≤ q → A q := fun q h => by rw [← hAe]; exact Or.inr h
  have hS : va_S A s.heap s.heap [] := va_S.rf
  have hP : va_P D classes [(h0, .inr (3, [.null, .null, .null]))] s.heap := hP
  refine lv_aload_n hx hb dX3_init_0 rfl (lv_at hl 0 rfl) ?_
  refine W.objInit hx hb hown (hts _ m_348) (hts _ m_28) (hts _ m_29) rfl (by rw [hml]; exact hl.1) rfl dX3_init_1 (Nat.le_of_ble_eq_true rfl) (Nat.le_of_ble_eq_true rfl) ?_
  refine W.eq (g2 := F0 m 4 ls []) rfl ?_
  refine lv_aload_n hx hb dX3_init_4 rfl (lv_at hl 0 rfl) ?_
  refine lv_iconst (v := 4) hx hb dX3_init_5 (by decide) ?_
  refine x_newa (atype := .int) (a0 := (4, .inl (fun _ => 0))) (ty := .int) hx hb (hts _ m_78) rfl hK hP hD hS hA 0 rfl (fun _ h9 => h9) (fun _ => rfl) (by decide) rfl (by decide) (Nat.le_of_ble_eq_true rfl) (Nat.le_of_ble_eq_true rfl) dX3_init_6 (fun q_1 H hP hD hS => ?_)
  have hP : va_P D classes [(h0, .inr (3, [.null, .null, .null])), (q_1, .inl (t 0, 4, .inl (fun _ => 0)))] H := hP
  have hD : va_D A [(h0, .inr (3, [.null, .null, .null])), (q_1, .inl (t 0, 4, .inl (fun _ => 0)))] := hD
  refine W.widen (k := 1) (n := 4) (Nat.le_of_ble_eq_true rfl) (Nat.le_of_ble_eq_true rfl) ?_
  refine va_putF (D := D) (ci := 3) (v := .ref q_1) (ty := (.array .int)) (C := RX3) (T := TX3) (N := 3) hx hb hts iX3 tyX3 tyX3_ok nmX3 hown hK hP hD hS 0 rfl rfl 1 (by decide) (hts _ m_350) (fun _ h9 => h9) rfl hin rfl (tyX3_ok 1 (by decide)) rfl rfl (Nat.le_of_ble_eq_true rfl) dX3_init_8 (fun H locs hP hD hS => ?_)
  have hP : va_P D classes [(h0, .inr (3, [.null, .ref q_1, .null])), (q_1, .inl (t 0, 4, .inl (fun _ => 0)))] H := hP
  have hD : va_D A [(h0, .inr (3, [.null, .ref q_1, .null])), (q_1, .inl (t 0, 4, .inl (fun _ => 0)))] := hD
  refine lv_aload_n hx hb dX3_init_11 rfl (lv_at hl 0 rfl) ?_
  refine lv_iconst (v := 4) hx hb dX3_init_12 (by decide) ?_
  refine x_newa (atype := .int) (a0 := (4, .inl (fun _ => 0))) (ty := .int) hx hb (hts _ m_78) rfl hK hP hD hS hA 0 rfl (fun _ h9 => h9) (fun _ => rfl) (by decide) rfl (by decide) (Nat.le_of_ble_eq_true rfl) (Nat.le_of_ble_eq_true rfl) dX3_init_13 (fun q_2 H hP hD hS => ?_)
  have hP : va_P D classes [(h0, .inr (3, [.null, .ref q_1, .null])), (q_1, .inl (t 0, 4, .inl (fun _ => 0))), (q_2, .inl (t 0, 4, .inl (fun _ => 0)))] H := hP
  have hD : va_D A [(h0, .inr (3, [.null, .ref q_1, .null])), (q_1, .inl (t 0, 4, .inl (fun _ => 0))), (q_2, .inl (t 0, 4, .inl (fun _ => 0)))] := hD
  refine W.widen (k := 2) (n := 8) (Nat.le_of_ble_eq_true rfl) (Nat.le_of_ble_eq_true rfl) ?_
  refine va_putF (D := D) (ci := 3) (v := .ref q_2) (ty := (.array .int)) (C := RX3) (T := TX3) (N := 3) hx hb hts iX3 tyX3 tyX3_ok nmX3 hown hK hP hD hS 0 rfl rfl 2 (by decide) (hts _ m_351) (fun _ h9 => h9) rfl hin rfl (tyX3_ok 2 (by decide)) rfl rfl (Nat.le_of_ble_eq_true rfl) dX3_init_15 (fun H locs hP hD hS => ?_)
  have hP : va_P D classes [(h0, .inr (3, [.null, .ref q_1, .ref q_2])), (q_1, .inl (t 0, 4, .inl (fun _ => 0))), (q_2, .inl (t 0, 4, .inl (fun _ => 0)))] H := hP
  have hD : va_D A [(h0, .inr (3, [.null, .ref q_1, .ref q_2])), (q_1, .inl (t 0, 4, .inl (fun _ => 0))), (q_2, .inl (t 0, 4, .inl (fun _ => 0)))] := hD
  refine lv_aload_n hx hb dX3_init_18 rfl (lv_at hl 0 rfl) ?_
  refine lv_aload_n hx hb dX3_init_19 rfl (lv_at hl 1 rfl) ?_
  refine va_putF (D := D) (ci := 3) (v := .ref r0) (ty := (.object "WordSeats$Chamber")) (C := RX3) (T := TX3) (N := 3) hx hb hts iX3 tyX3 tyX3_ok nmX3 hown hK hP hD hS 0 rfl rfl 0 (by decide) (hts _ m_349) (fun _ h9 => h9) rfl hin rfl (tyX3_ok 0 (by decide)) rfl rfl (Nat.le_of_ble_eq_true rfl) dX3_init_20 (fun H locs hP hD hS => ?_)
  have hP : va_P D classes [(h0, .inr (3, [.ref r0, .ref q_1, .ref q_2])), (q_1, .inl (t 0, 4, .inl (fun _ => 0))), (q_2, .inl (t 0, 4, .inl (fun _ => 0)))] H := hP
  have hD : va_D A [(h0, .inr (3, [.ref r0, .ref q_1, .ref q_2])), (q_1, .inl (t 0, 4, .inl (fun _ => 0))), (q_2, .inl (t 0, 4, .inl (fun _ => 0)))] := hD
  have hP9 := hP.sub (ws' := [(h0, .inr (3, [.ref r0, .ref q_1, .ref q_2])), (q_1, .inl (t 0, 4, .inl (fun _ => 0))), (q_2, .inl (t 0, 4, .inl (fun _ => 0)))]) [0, 1, 2] rfl
  have hD9 := hD.sub (ws' := [(h0, .inr (3, [.ref r0, .ref q_1, .ref q_2])), (q_1, .inl (t 0, 4, .inl (fun _ => 0))), (q_2, .inl (t 0, 4, .inl (fun _ => 0)))]) [0, 1, 2] (by decide) rfl
  exact W.vret hx hb hr (fun t9 ht hW => ⟨⟨(fun k => [q_1, q_2].getD k 0), rfl, trivial, by rw [ht]; exact hP9, hD9⟩, hS.F ht⟩) hS.2.2 dX3_init_23

set_option maxHeartbeats 4000000 in
set_option maxRecDepth 100000 in
theorem c_X1_init (l : Launch) (D : va_G) (t : Nat → ClassId) (h0 : Nat) (r0 : Nat) (r1 : Nat) (sz : Nat) : Met l yX1_init (wd yX1_init cX1_init 3 none) (RM 1 2 260) (PreW D (TY t) [.ref h0, .ref r0, .ref r1] [(h0, .inr (1, [.null, .null, .null, .null, .int 0, .int 0]))] sz) (va_Qv (fun _ : Nat → Nat => True) (fun (u : Nat → Nat) t9 => va_P D classes ((fun u : Nat → Nat => [(h0, .inr (1, [.ref r0, .ref r1, .ref (u 0), .ref (u 1), .int 0, .int 0])), (u 0, .inl (t 3, 256, .inl (fun _ => 0))), (u 1, .inl (t 0, 4, .inl (fun _ => 0)))]) u) t9.heap ∧ va_D (va_A [(h0, .inr (1, [.null, .null, .null, .null, .int 0, .int 0]))] sz) ((fun u : Nat → Nat => [(h0, .inr (1, [.ref r0, .ref r1, .ref (u 0), .ref (u 1), .int 0, .int 0])), (u 0, .inl (t 3, 256, .inl (fun _ => 0))), (u 1, .inl (t 0, 4, .inl (fun _ => 0)))]) u)) (va_A [(h0, .inr (1, [.null, .null, .null, .null, .int 0, .int 0]))] sz)) 2 260 (va_A [(h0, .inr (1, [.null, .null, .null, .null, .int 0, .int 0]))] sz) := by
  refine Met.ofW (cc := cX1_init) (maxL := 3) (ret := none) (by decide) rfl ?_
  intro p e s m args below meth c s₁ B hml hv
  obtain ⟨rfl, hsz, hP, hK, hD0, hN⟩ := hv
  have hx := B.exec
  have hb := B.bytes
  have hr := B.returns
  have hts : ∀ w ∈ TB, w.before _ s = true := fun w h => atoms_spec (ws := wd yX1_init cX1_init 3 none) B.pre w (List.mem_cons_of_mem _ h)
  have hown : s.vm.findClass RX1 = some m.cls := findClass_of_methodNamed B.named
  have hlocks := B.notSynchronized
  have hF : CallFix p m c cX1_init 3 s _ TB RX1 := ⟨hx, hb, hml, hown, hts⟩
  have hl := lv_entry ([.ref h0, .ref r0, .ref r1]) (n := 3) (Nat.le_of_ble_eq_true rfl)
  rw [lg_entry_eq]
  generalize (lg_sl ([.ref h0, .ref r0, .ref r1]) ++ List.replicate (3 - (lg_sl ([.ref h0, .ref r0, .ref r1])).length) Slot.unset).toArray = ls at hl ⊢
  have hl : lv_has ls 3 [(0, .ref h0), (1, .ref r0), (2, .ref r1)] := hl
  have hin : meth.name = "<init>" := (name_of_methodNamed B.named B.method).1
  subst hsz
  have hD := hD0.self (sz := s.heap.size)
  generalize hAe : va_A [(h0, .inr (1, [.null, .null, .null, .null, .int 0, .int 0]))] s.heap.size = A at hD ⊢
  have hA : ∀ q : Nat, s.heap.size ≤ q → A q := fun q h => by rw [← hAe]; exact Or.inr h
  have hS : va_S A s.heap s.heap [] := va_S.rf
  have hP : va_P D classes [(h0, .inr (1, [.null, .null, .null, .null, .int 0, .int 0]))] s.heap := hP
  refine lv_aload_n hx hb dX1_init_0 rfl (lv_at hl 0 rfl) ?_
  refine W.objInit hx hb hown (hts _ m_365) (hts _ m_28) (hts _ m_29) rfl (by rw [hml]; exact hl.1) rfl dX1_init_1 (Nat.le_of_ble_eq_true rfl) (Nat.le_of_ble_eq_true rfl) ?_
  refine W.eq (g2 := F0 m 4 ls []) rfl ?_
  refine lv_aload_n hx hb dX1_init_4 rfl (lv_at hl 0 rfl) ?_
  refine lv_sipush (v := 256) hx hb dX1_init_5 (by decide) ?_
  refine x_newa (atype := .boolean) (a0 := (256, .inl (fun _ => 0))) (ty := .boolean) hx hb (hts _ m_386) rfl hK hP hD hS hA 3 rfl (fun _ h9 => h9) (fun _ => rfl) (by decide) rfl (by decide) (Nat.le_of_ble_eq_true rfl) (Nat.le_of_ble_eq_true rfl) dX1_init_8 (fun q_1 H hP hD hS => ?_)
  have hP : va_P D classes [(h0, .inr (1, [.null, .null, .null, .null, .int 0, .int 0])), (q_1, .inl (t 3, 256, .inl (fun _ => 0)))] H := hP
  have hD : va_D A [(h0, .inr (1, [.null, .null, .null, .null, .int 0, .int 0])), (q_1, .inl (t 3, 256, .inl (fun _ => 0)))] := hD
  refine W.widen (k := 1) (n := 256) (Nat.le_of_ble_eq_true rfl) (Nat.le_of_ble_eq_true rfl) ?_
  refine va_putF (D := D) (ci := 1) (v := .ref q_1) (ty := (.array .boolean)) (C := RX1) (T := TX1) (N := 6) hx hb hts iX1 tyX1 tyX1_ok nmX1 hown hK hP hD hS 0 rfl rfl 2 (by decide) (hts _ m_368) (fun _ h9 => h9) rfl hin rfl (tyX1_ok 2 (by decide)) rfl rfl (Nat.le_of_ble_eq_true rfl) dX1_init_10 (fun H locs hP hD hS => ?_)
  have hP : va_P D classes [(h0, .inr (1, [.null, .null, .ref q_1, .null, .int 0, .int 0])), (q_1, .inl (t 3, 256, .inl (fun _ => 0)))] H := hP
  have hD : va_D A [(h0, .inr (1, [.null, .null, .ref q_1, .null, .int 0, .int 0])), (q_1, .inl (t 3, 256, .inl (fun _ => 0)))] := hD
  refine lv_aload_n hx hb dX1_init_13 rfl (lv_at hl 0 rfl) ?_
  refine lv_iconst (v := 4) hx hb dX1_init_14 (by decide) ?_
  refine x_newa (atype := .int) (a0 := (4, .inl (fun _ => 0))) (ty := .int) hx hb (hts _ m_78) rfl hK hP hD hS hA 0 rfl (fun _ h9 => h9) (fun _ => rfl) (by decide) rfl (by decide) (Nat.le_of_ble_eq_true rfl) (Nat.le_of_ble_eq_true rfl) dX1_init_15 (fun q_2 H hP hD hS => ?_)
  have hP : va_P D classes [(h0, .inr (1, [.null, .null, .ref q_1, .null, .int 0, .int 0])), (q_1, .inl (t 3, 256, .inl (fun _ => 0))), (q_2, .inl (t 0, 4, .inl (fun _ => 0)))] H := hP
  have hD : va_D A [(h0, .inr (1, [.null, .null, .ref q_1, .null, .int 0, .int 0])), (q_1, .inl (t 3, 256, .inl (fun _ => 0))), (q_2, .inl (t 0, 4, .inl (fun _ => 0)))] := hD
  refine W.widen (k := 2) (n := 260) (Nat.le_of_ble_eq_true rfl) (Nat.le_of_ble_eq_true rfl) ?_
  refine va_putF (D := D) (ci := 1) (v := .ref q_2) (ty := (.array .int)) (C := RX1) (T := TX1) (N := 6) hx hb hts iX1 tyX1 tyX1_ok nmX1 hown hK hP hD hS 0 rfl rfl 3 (by decide) (hts _ m_369) (fun _ h9 => h9) rfl hin rfl (tyX1_ok 3 (by decide)) rfl rfl (Nat.le_of_ble_eq_true rfl) dX1_init_17 (fun H locs hP hD hS => ?_)
  have hP : va_P D classes [(h0, .inr (1, [.null, .null, .ref q_1, .ref q_2, .int 0, .int 0])), (q_1, .inl (t 3, 256, .inl (fun _ => 0))), (q_2, .inl (t 0, 4, .inl (fun _ => 0)))] H := hP
  have hD : va_D A [(h0, .inr (1, [.null, .null, .ref q_1, .ref q_2, .int 0, .int 0])), (q_1, .inl (t 3, 256, .inl (fun _ => 0))), (q_2, .inl (t 0, 4, .inl (fun _ => 0)))] := hD
  refine lv_aload_n hx hb dX1_init_20 rfl (lv_at hl 0 rfl) ?_
  refine lv_aload_n hx hb dX1_init_21 rfl (lv_at hl 1 rfl) ?_
  refine va_putF (D := D) (ci := 1) (v := .ref r0) (ty := (.object "WordSeats$Chamber")) (C := RX1) (T := TX1) (N := 6) hx hb hts iX1 tyX1 tyX1_ok nmX1 hown hK hP hD hS 0 rfl rfl 0 (by decide) (hts _ m_366) (fun _ h9 => h9) rfl hin rfl (tyX1_ok 0 (by decide)) rfl rfl (Nat.le_of_ble_eq_true rfl) dX1_init_22 (fun H locs hP hD hS => ?_)
  have hP : va_P D classes [(h0, .inr (1, [.ref r0, .null, .ref q_1, .ref q_2, .int 0, .int 0])), (q_1, .inl (t 3, 256, .inl (fun _ => 0))), (q_2, .inl (t 0, 4, .inl (fun _ => 0)))] H := hP
  have hD : va_D A [(h0, .inr (1, [.ref r0, .null, .ref q_1, .ref q_2, .int 0, .int 0])), (q_1, .inl (t 3, 256, .inl (fun _ => 0))), (q_2, .inl (t 0, 4, .inl (fun _ => 0)))] := hD
  refine lv_aload_n hx hb dX1_init_25 rfl (lv_at hl 0 rfl) ?_
  refine lv_aload_n hx hb dX1_init_26 rfl (lv_at hl 2 rfl) ?_
  refine va_putF (D := D) (ci := 1) (v := .ref r1) (ty := (.object "WordSeats$Election")) (C := RX1) (T := TX1) (N := 6) hx hb hts iX1 tyX1 tyX1_ok nmX1 hown hK hP hD hS 0 rfl rfl 1 (by decide) (hts _ m_367) (fun _ h9 => h9) rfl hin rfl (tyX1_ok 1 (by decide)) rfl rfl (Nat.le_of_ble_eq_true rfl) dX1_init_27 (fun H locs hP hD hS => ?_)
  have hP : va_P D classes [(h0, .inr (1, [.ref r0, .ref r1, .ref q_1, .ref q_2, .int 0, .int 0])), (q_1, .inl (t 3, 256, .inl (fun _ => 0))), (q_2, .inl (t 0, 4, .inl (fun _ => 0)))] H := hP
  have hD : va_D A [(h0, .inr (1, [.ref r0, .ref r1, .ref q_1, .ref q_2, .int 0, .int 0])), (q_1, .inl (t 3, 256, .inl (fun _ => 0))), (q_2, .inl (t 0, 4, .inl (fun _ => 0)))] := hD
  have hP9 := hP.sub (ws' := [(h0, .inr (1, [.ref r0, .ref r1, .ref q_1, .ref q_2, .int 0, .int 0])), (q_1, .inl (t 3, 256, .inl (fun _ => 0))), (q_2, .inl (t 0, 4, .inl (fun _ => 0)))]) [0, 1, 2] rfl
  have hD9 := hD.sub (ws' := [(h0, .inr (1, [.ref r0, .ref r1, .ref q_1, .ref q_2, .int 0, .int 0])), (q_1, .inl (t 3, 256, .inl (fun _ => 0))), (q_2, .inl (t 0, 4, .inl (fun _ => 0)))]) [0, 1, 2] (by decide) rfl
  exact W.vret hx hb hr (fun t9 ht hW => ⟨⟨(fun k => [q_1, q_2].getD k 0), rfl, trivial, by rw [ht]; exact hP9, hD9⟩, hS.F ht⟩) hS.2.2 dX1_init_30

set_option maxHeartbeats 4000000 in
set_option maxRecDepth 100000 in
theorem c_X7_init (l : Launch) (D : va_G) (t : Nat → ClassId) (h0 : Nat) (r0 : Nat) (r1 : Nat) (sz : Nat) : Met l yX7_init (wd yX7_init cX7_init 3 none) (RM 1 0 0) (PreW D (TY t) [.ref h0, .ref r0, .ref r1] [(h0, .inr (7, [.null, .null, .int 0, .int 0, .int 0]))] sz) (va_Qv (fun _ : Nat → Nat => True) (fun (u : Nat → Nat) t9 => va_P D classes ((fun u : Nat → Nat => [(h0, .inr (7, [.ref r0, .ref r1, .int 0, .int 0, .int 0]))]) u) t9.heap ∧ va_D (va_A [(h0, .inr (7, [.null, .null, .int 0, .int 0, .int 0]))] sz) ((fun u : Nat → Nat => [(h0, .inr (7, [.ref r0, .ref r1, .int 0, .int 0, .int 0]))]) u)) (va_A [(h0, .inr (7, [.null, .null, .int 0, .int 0, .int 0]))] sz)) 0 0 (va_A [(h0, .inr (7, [.null, .null, .int 0, .int 0, .int 0]))] sz) := by
  refine Met.ofW (cc := cX7_init) (maxL := 3) (ret := none) (by decide) rfl ?_
  intro p e s m args below meth c s₁ B hml hv
  obtain ⟨rfl, hsz, hP, hK, hD0, hN⟩ := hv
  have hx := B.exec
  have hb := B.bytes
  have hr := B.returns
  have hts : ∀ w ∈ TB, w.before _ s = true := fun w h => atoms_spec (ws := wd yX7_init cX7_init 3 none) B.pre w (List.mem_cons_of_mem _ h)
  have hown : s.vm.findClass RX7 = some m.cls := findClass_of_methodNamed B.named
  have hlocks := B.notSynchronized
  have hF : CallFix p m c cX7_init 3 s _ TB RX7 := ⟨hx, hb, hml, hown, hts⟩
  have hl := lv_entry ([.ref h0, .ref r0, .ref r1]) (n := 3) (Nat.le_of_ble_eq_true rfl)
  rw [lg_entry_eq]
  generalize (lg_sl ([.ref h0, .ref r0, .ref r1]) ++ List.replicate (3 - (lg_sl ([.ref h0, .ref r0, .ref r1])).length) Slot.unset).toArray = ls at hl ⊢
  have hl : lv_has ls 3 [(0, .ref h0), (1, .ref r0), (2, .ref r1)] := hl
  have hin : meth.name = "<init>" := (name_of_methodNamed B.named B.method).1
  subst hsz
  have hD := hD0.self (sz := s.heap.size)
  generalize hAe : va_A [(h0, .inr (7, [.null, .null, .int 0, .int 0, .int 0]))] s.heap.size = A at hD ⊢
  have hA : ∀ q : Nat, s.heap.size ≤ q → A q := fun q h => by rw [← hAe]; exact Or.inr h
  have hS : va_S A s.heap s.heap [] := va_S.rf
  have hP : va_P D classes [(h0, .inr (7, [.null, .null, .int 0, .int 0, .int 0]))] s.heap := hP
  refine lv_aload_n hx hb dX7_init_0 rfl (lv_at hl 0 rfl) ?_
  refine W.objInit hx hb hown (hts _ m_392) (hts _ m_28) (hts _ m_29) rfl (by rw [hml]; exact hl.1) rfl dX7_init_1 (Nat.le_of_ble_eq_true rfl) (Nat.le_of_ble_eq_true rfl) ?_
  refine W.eq (g2 := F0 m 4 ls []) rfl ?_
  refine lv_aload_n hx hb dX7_init_4 rfl (lv_at hl 0 rfl) ?_
  refine lv_aload_n hx hb dX7_init_5 rfl (lv_at hl 1 rfl) ?_
  refine va_putF (D := D) (ci := 7) (v := .ref r0) (ty := (.object "WordSeats$Chamber")) (C := RX7) (T := TX7) (N := 5) hx hb hts iX7 tyX7 tyX7_ok nmX7 hown hK hP hD hS 0 rfl rfl 0 (by decide) (hts _ m_393) (fun _ h9 => h9) rfl hin rfl (tyX7_ok 0 (by decide)) rfl rfl (Nat.le_of_ble_eq_true rfl) dX7_init_6 (fun H locs hP hD hS => ?_)
  have hP : va_P D classes [(h0, .inr (7, [.ref r0, .null, .int 0, .int 0, .int 0]))] H := hP
  have hD : va_D A [(h0, .inr (7, [.ref r0, .null, .int 0, .int 0, .int 0]))] := hD
  refine lv_aload_n hx hb dX7_init_9 rfl (lv_at hl 0 rfl) ?_
  refine lv_aload_n hx hb dX7_init_10 rfl (lv_at hl 2 rfl) ?_
  refine va_putF (D := D) (ci := 7) (v := .ref r1) (ty := (.object "WordSeats$Tongue")) (C := RX7) (T := TX7) (N := 5) hx hb hts iX7 tyX7 tyX7_ok nmX7 hown hK hP hD hS 0 rfl rfl 1 (by decide) (hts _ m_394) (fun _ h9 => h9) rfl hin rfl (tyX7_ok 1 (by decide)) rfl rfl (Nat.le_of_ble_eq_true rfl) dX7_init_11 (fun H locs hP hD hS => ?_)
  have hP : va_P D classes [(h0, .inr (7, [.ref r0, .ref r1, .int 0, .int 0, .int 0]))] H := hP
  have hD : va_D A [(h0, .inr (7, [.ref r0, .ref r1, .int 0, .int 0, .int 0]))] := hD
  have hP9 := hP.sub (ws' := [(h0, .inr (7, [.ref r0, .ref r1, .int 0, .int 0, .int 0]))]) [0] rfl
  have hD9 := hD.sub (ws' := [(h0, .inr (7, [.ref r0, .ref r1, .int 0, .int 0, .int 0]))]) [0] (by decide) rfl
  exact W.vret hx hb hr (fun t9 ht hW => ⟨⟨(fun k => [].getD k 0), rfl, trivial, by rw [ht]; exact hP9, hD9⟩, hS.F ht⟩) hS.2.2 dX7_init_14

set_option maxHeartbeats 4000000 in
set_option maxRecDepth 100000 in
theorem c_X0_init (l : Launch) (D : va_G) (t : Nat → ClassId) (h0 : Nat) (sz : Nat) : Met l yX0_init (wd yX0_init cX0_init 1 none) (RM 2 18 780) (PreW D (TY t) [.ref h0] [(h0, .inr (0, [.int 0, .int 0, .int 0, .int 0, .int 0, .int 0, .int 0, .int 0, .null, .null, .null, .null, .null, .null, .null, .null, .null, .null, .null]))] sz) (va_Qv (fun _ : Nat → Nat => True) (fun (u : Nat → Nat) t9 => va_P D classes ((fun u : Nat → Nat => [(h0, .inr (0, [.int 0, .int 0, .int 0, .int 0, .int 0, .int 0, .int 0, .int 0, .ref (u 0), .ref (u 1), .ref (u 2), .ref (u 3), .ref (u 4), .ref (u 5), .ref (u 6), .ref (u 7), .ref (u 8), .ref (u 9), .ref (u 13)])), (u 0, .inl (t 0, 4, .inl (fun _ => 0))), (u 1, .inl (t 0, 9, .inl (fun _ => 0))), (u 2, .inl (t 0, 9, .inl (fun _ => 0))), (u 3, .inl (t 0, 9, .inl (fun _ => 0))), (u 4, .inl (t 0, 9, .inl (fun _ => 0))), (u 5, .inl (t 0, 9, .inl (fun _ => 0))), (u 6, .inl (t 0, 9, .inl (fun _ => 0))), (u 7, .inl (t 0, 9, .inl (fun _ => 0))), (u 8, .inl (t 0, 9, .inl (fun _ => 0))), (u 9, .inr (5, [.int 0, .ref (u 10), .ref (u 11), .ref (u 12)])), (u 10, .inl (t 0, 8, .inl (fun _ => 0))), (u 11, .inl (t 0, 8, .inl (fun _ => 0))), (u 12, .inl (t 0, 8, .inl (fun _ => 0))), (u 13, .inr (9, [.int 0, .int 0, .int 0, .ref (u 14), .ref (u 15), .ref (u 16), .ref (u 17)])), (u 14, .inl (t 0, 9, .inl (fun _ => 0))), (u 15, .inl (t 0, 60, .inl (fun _ => 0))), (u 16, .inl (t 0, 60, .inl (fun _ => 0))), (u 17, .inl (t 0, 540, .inl (fun _ => 0)))]) u) t9.heap ∧ va_D (va_A [(h0, .inr (0, [.int 0, .int 0, .int 0, .int 0, .int 0, .int 0, .int 0, .int 0, .null, .null, .null, .null, .null, .null, .null, .null, .null, .null, .null]))] sz) ((fun u : Nat → Nat => [(h0, .inr (0, [.int 0, .int 0, .int 0, .int 0, .int 0, .int 0, .int 0, .int 0, .ref (u 0), .ref (u 1), .ref (u 2), .ref (u 3), .ref (u 4), .ref (u 5), .ref (u 6), .ref (u 7), .ref (u 8), .ref (u 9), .ref (u 13)])), (u 0, .inl (t 0, 4, .inl (fun _ => 0))), (u 1, .inl (t 0, 9, .inl (fun _ => 0))), (u 2, .inl (t 0, 9, .inl (fun _ => 0))), (u 3, .inl (t 0, 9, .inl (fun _ => 0))), (u 4, .inl (t 0, 9, .inl (fun _ => 0))), (u 5, .inl (t 0, 9, .inl (fun _ => 0))), (u 6, .inl (t 0, 9, .inl (fun _ => 0))), (u 7, .inl (t 0, 9, .inl (fun _ => 0))), (u 8, .inl (t 0, 9, .inl (fun _ => 0))), (u 9, .inr (5, [.int 0, .ref (u 10), .ref (u 11), .ref (u 12)])), (u 10, .inl (t 0, 8, .inl (fun _ => 0))), (u 11, .inl (t 0, 8, .inl (fun _ => 0))), (u 12, .inl (t 0, 8, .inl (fun _ => 0))), (u 13, .inr (9, [.int 0, .int 0, .int 0, .ref (u 14), .ref (u 15), .ref (u 16), .ref (u 17)])), (u 14, .inl (t 0, 9, .inl (fun _ => 0))), (u 15, .inl (t 0, 60, .inl (fun _ => 0))), (u 16, .inl (t 0, 60, .inl (fun _ => 0))), (u 17, .inl (t 0, 540, .inl (fun _ => 0)))]) u)) (va_A [(h0, .inr (0, [.int 0, .int 0, .int 0, .int 0, .int 0, .int 0, .int 0, .int 0, .null, .null, .null, .null, .null, .null, .null, .null, .null, .null, .null]))] sz)) 18 780 (va_A [(h0, .inr (0, [.int 0, .int 0, .int 0, .int 0, .int 0, .int 0, .int 0, .int 0, .null, .null, .null, .null, .null, .null, .null, .null, .null, .null, .null]))] sz) := by
  refine Met.ofW (cc := cX0_init) (maxL := 1) (ret := none) (by decide) rfl ?_
  intro p e s m args below meth c s₁ B hml hv
  obtain ⟨rfl, hsz, hP, hK, hD0, hN⟩ := hv
  have hx := B.exec
  have hb := B.bytes
  have hr := B.returns
  have hts : ∀ w ∈ TB, w.before _ s = true := fun w h => atoms_spec (ws := wd yX0_init cX0_init 1 none) B.pre w (List.mem_cons_of_mem _ h)
  have hown : s.vm.findClass RX0 = some m.cls := findClass_of_methodNamed B.named
  have hlocks := B.notSynchronized
  have hF : CallFix p m c cX0_init 1 s _ TB RX0 := ⟨hx, hb, hml, hown, hts⟩
  have hl := lv_entry ([.ref h0]) (n := 1) (Nat.le_of_ble_eq_true rfl)
  rw [lg_entry_eq]
  generalize (lg_sl ([.ref h0]) ++ List.replicate (1 - (lg_sl ([.ref h0])).length) Slot.unset).toArray = ls at hl ⊢
  have hl : lv_has ls 1 [(0, .ref h0)] := hl
  have hin : meth.name = "<init>" := (name_of_methodNamed B.named B.method).1
  subst hsz
  have hD := hD0.self (sz := s.heap.size)
  generalize hAe : va_A [(h0, .inr (0, [.int 0, .int 0, .int 0, .int 0, .int 0, .int 0, .int 0, .int 0, .null, .null, .null, .null, .null, .null, .null, .null, .null, .null, .null]))] s.heap.size = A at hD ⊢
  have hA : ∀ q : Nat, s.heap.size ≤ q → A q := fun q h => by rw [← hAe]; exact Or.inr h
  have hS : va_S A s.heap s.heap [] := va_S.rf
  have hP : va_P D classes [(h0, .inr (0, [.int 0, .int 0, .int 0, .int 0, .int 0, .int 0, .int 0, .int 0, .null, .null, .null, .null, .null, .null, .null, .null, .null, .null, .null]))] s.heap := hP
  refine lv_aload_n hx hb dX0_init_0 rfl (lv_at hl 0 rfl) ?_
  refine W.objInit hx hb hown (hts _ m_51) (hts _ m_28) (hts _ m_29) rfl (by rw [hml]; exact hl.1) rfl dX0_init_1 (Nat.le_of_ble_eq_true rfl) (Nat.le_of_ble_eq_true rfl) ?_
  refine W.eq (g2 := F0 m 4 ls []) rfl ?_
  refine lv_aload_n hx hb dX0_init_4 rfl (lv_at hl 0 rfl) ?_
  refine lv_iconst (v := 4) hx hb dX0_init_5 (by decide) ?_
  refine x_newa (atype := .int) (a0 := (4, .inl (fun _ => 0))) (ty := .int) hx hb (hts _ m_78) rfl hK hP hD hS hA 0 rfl (fun _ h9 => h9) (fun _ => rfl) (by decide) rfl (by decide) (Nat.le_of_ble_eq_true rfl) (Nat.le_of_ble_eq_true rfl) dX0_init_6 (fun q_1 H hP hD hS => ?_)
  have hP : va_P D classes [(h0, .inr (0, [.int 0, .int 0, .int 0, .int 0, .int 0, .int 0, .int 0, .int 0, .null, .null, .null, .null, .null, .null, .null, .null, .null, .null, .null])), (q_1, .inl (t 0, 4, .inl (fun _ => 0)))] H := hP
  have hD : va_D A [(h0, .inr (0, [.int 0, .int 0, .int 0, .int 0, .int 0, .int 0, .int 0, .int 0, .null, .null, .null, .null, .null, .null, .null, .null, .null, .null, .null])), (q_1, .inl (t 0, 4, .inl (fun _ => 0)))] := hD
  refine W.widen (k := 1) (n := 4) (Nat.le_of_ble_eq_true rfl) (Nat.le_of_ble_eq_true rfl) ?_
  refine va_putF (D := D) (ci := 0) (v := .ref q_1) (ty := (.array .int)) (C := RX0) (T := TX0) (N := 19) hx hb hts iX0 tyX0 tyX0_ok nmX0 hown hK hP hD hS 0 rfl rfl 8 (by decide) (hts _ m_153) (fun _ h9 => h9) rfl hin rfl (tyX0_ok 8 (by decide)) rfl rfl (Nat.le_of_ble_eq_true rfl) dX0_init_8 (fun H locs hP hD hS => ?_)
  have hP : va_P D classes [(h0, .inr (0, [.int 0, .int 0, .int 0, .int 0, .int 0, .int 0, .int 0, .int 0, .ref q_1, .null, .null, .null, .null, .null, .null, .null, .null, .null, .null])), (q_1, .inl (t 0, 4, .inl (fun _ => 0)))] H := hP
  have hD : va_D A [(h0, .inr (0, [.int 0, .int 0, .int 0, .int 0, .int 0, .int 0, .int 0, .int 0, .ref q_1, .null, .null, .null, .null, .null, .null, .null, .null, .null, .null])), (q_1, .inl (t 0, 4, .inl (fun _ => 0)))] := hD
  refine lv_aload_n hx hb dX0_init_11 rfl (lv_at hl 0 rfl) ?_
  refine lv_bipush (v := 9) hx hb dX0_init_12 (by decide) ?_
  refine x_newa (atype := .int) (a0 := (9, .inl (fun _ => 0))) (ty := .int) hx hb (hts _ m_78) rfl hK hP hD hS hA 0 rfl (fun _ h9 => h9) (fun _ => rfl) (by decide) rfl (by decide) (Nat.le_of_ble_eq_true rfl) (Nat.le_of_ble_eq_true rfl) dX0_init_14 (fun q_2 H hP hD hS => ?_)
  have hP : va_P D classes [(h0, .inr (0, [.int 0, .int 0, .int 0, .int 0, .int 0, .int 0, .int 0, .int 0, .ref q_1, .null, .null, .null, .null, .null, .null, .null, .null, .null, .null])), (q_1, .inl (t 0, 4, .inl (fun _ => 0))), (q_2, .inl (t 0, 9, .inl (fun _ => 0)))] H := hP
  have hD : va_D A [(h0, .inr (0, [.int 0, .int 0, .int 0, .int 0, .int 0, .int 0, .int 0, .int 0, .ref q_1, .null, .null, .null, .null, .null, .null, .null, .null, .null, .null])), (q_1, .inl (t 0, 4, .inl (fun _ => 0))), (q_2, .inl (t 0, 9, .inl (fun _ => 0)))] := hD
  refine W.widen (k := 2) (n := 13) (Nat.le_of_ble_eq_true rfl) (Nat.le_of_ble_eq_true rfl) ?_
  refine va_putF (D := D) (ci := 0) (v := .ref q_2) (ty := (.array .int)) (C := RX0) (T := TX0) (N := 19) hx hb hts iX0 tyX0 tyX0_ok nmX0 hown hK hP hD hS 0 rfl rfl 9 (by decide) (hts _ m_156) (fun _ h9 => h9) rfl hin rfl (tyX0_ok 9 (by decide)) rfl rfl (Nat.le_of_ble_eq_true rfl) dX0_init_16 (fun H locs hP hD hS => ?_)
  have hP : va_P D classes [(h0, .inr (0, [.int 0, .int 0, .int 0, .int 0, .int 0, .int 0, .int 0, .int 0, .ref q_1, .ref q_2, .null, .null, .null, .null, .null, .null, .null, .null, .null])), (q_1, .inl (t 0, 4, .inl (fun _ => 0))), (q_2, .inl (t 0, 9, .inl (fun _ => 0)))] H := hP
  have hD : va_D A [(h0, .inr (0, [.int 0, .int 0, .int 0, .int 0, .int 0, .int 0, .int 0, .int 0, .ref q_1, .ref q_2, .null, .null, .null, .null, .null, .null, .null, .null, .null])), (q_1, .inl (t 0, 4, .inl (fun _ => 0))), (q_2, .inl (t 0, 9, .inl (fun _ => 0)))] := hD
  refine lv_aload_n hx hb dX0_init_19 rfl (lv_at hl 0 rfl) ?_
  refine lv_bipush (v := 9) hx hb dX0_init_20 (by decide) ?_
  refine x_newa (atype := .int) (a0 := (9, .inl (fun _ => 0))) (ty := .int) hx hb (hts _ m_78) rfl hK hP hD hS hA 0 rfl (fun _ h9 => h9) (fun _ => rfl) (by decide) rfl (by decide) (Nat.le_of_ble_eq_true rfl) (Nat.le_of_ble_eq_true rfl) dX0_init_22 (fun q_3 H hP hD hS => ?_)
  have hP : va_P D classes [(h0, .inr (0, [.int 0, .int 0, .int 0, .int 0, .int 0, .int 0, .int 0, .int 0, .ref q_1, .ref q_2, .null, .null, .null, .null, .null, .null, .null, .null, .null])), (q_1, .inl (t 0, 4, .inl (fun _ => 0))), (q_2, .inl (t 0, 9, .inl (fun _ => 0))), (q_3, .inl (t 0, 9, .inl (fun _ => 0)))] H := hP
  have hD : va_D A [(h0, .inr (0, [.int 0, .int 0, .int 0, .int 0, .int 0, .int 0, .int 0, .int 0, .ref q_1, .ref q_2, .null, .null, .null, .null, .null, .null, .null, .null, .null])), (q_1, .inl (t 0, 4, .inl (fun _ => 0))), (q_2, .inl (t 0, 9, .inl (fun _ => 0))), (q_3, .inl (t 0, 9, .inl (fun _ => 0)))] := hD
  refine W.widen (k := 3) (n := 22) (Nat.le_of_ble_eq_true rfl) (Nat.le_of_ble_eq_true rfl) ?_
  refine va_putF (D := D) (ci := 0) (v := .ref q_3) (ty := (.array .int)) (C := RX0) (T := TX0) (N := 19) hx hb hts iX0 tyX0 tyX0_ok nmX0 hown hK hP hD hS 0 rfl rfl 10 (by decide) (hts _ m_160) (fun _ h9 => h9) rfl hin rfl (tyX0_ok 10 (by decide)) rfl rfl (Nat.le_of_ble_eq_true rfl) dX0_init_24 (fun H locs hP hD hS => ?_)
  have hP : va_P D classes [(h0, .inr (0, [.int 0, .int 0, .int 0, .int 0, .int 0, .int 0, .int 0, .int 0, .ref q_1, .ref q_2, .ref q_3, .null, .null, .null, .null, .null, .null, .null, .null])), (q_1, .inl (t 0, 4, .inl (fun _ => 0))), (q_2, .inl (t 0, 9, .inl (fun _ => 0))), (q_3, .inl (t 0, 9, .inl (fun _ => 0)))] H := hP
  have hD : va_D A [(h0, .inr (0, [.int 0, .int 0, .int 0, .int 0, .int 0, .int 0, .int 0, .int 0, .ref q_1, .ref q_2, .ref q_3, .null, .null, .null, .null, .null, .null, .null, .null])), (q_1, .inl (t 0, 4, .inl (fun _ => 0))), (q_2, .inl (t 0, 9, .inl (fun _ => 0))), (q_3, .inl (t 0, 9, .inl (fun _ => 0)))] := hD
  refine lv_aload_n hx hb dX0_init_27 rfl (lv_at hl 0 rfl) ?_
  refine lv_bipush (v := 9) hx hb dX0_init_28 (by decide) ?_
  refine x_newa (atype := .int) (a0 := (9, .inl (fun _ => 0))) (ty := .int) hx hb (hts _ m_78) rfl hK hP hD hS hA 0 rfl (fun _ h9 => h9) (fun _ => rfl) (by decide) rfl (by decide) (Nat.le_of_ble_eq_true rfl) (Nat.le_of_ble_eq_true rfl) dX0_init_30 (fun q_4 H hP hD hS => ?_)
  have hP : va_P D classes [(h0, .inr (0, [.int 0, .int 0, .int 0, .int 0, .int 0, .int 0, .int 0, .int 0, .ref q_1, .ref q_2, .ref q_3, .null, .null, .null, .null, .null, .null, .null, .null])), (q_1, .inl (t 0, 4, .inl (fun _ => 0))), (q_2, .inl (t 0, 9, .inl (fun _ => 0))), (q_3, .inl (t 0, 9, .inl (fun _ => 0))), (q_4, .inl (t 0, 9, .inl (fun _ => 0)))] H := hP
  have hD : va_D A [(h0, .inr (0, [.int 0, .int 0, .int 0, .int 0, .int 0, .int 0, .int 0, .int 0, .ref q_1, .ref q_2, .ref q_3, .null, .null, .null, .null, .null, .null, .null, .null])), (q_1, .inl (t 0, 4, .inl (fun _ => 0))), (q_2, .inl (t 0, 9, .inl (fun _ => 0))), (q_3, .inl (t 0, 9, .inl (fun _ => 0))), (q_4, .inl (t 0, 9, .inl (fun _ => 0)))] := hD
  refine W.widen (k := 4) (n := 31) (Nat.le_of_ble_eq_true rfl) (Nat.le_of_ble_eq_true rfl) ?_
  refine va_putF (D := D) (ci := 0) (v := .ref q_4) (ty := (.array .int)) (C := RX0) (T := TX0) (N := 19) hx hb hts iX0 tyX0 tyX0_ok nmX0 hown hK hP hD hS 0 rfl rfl 11 (by decide) (hts _ m_164) (fun _ h9 => h9) rfl hin rfl (tyX0_ok 11 (by decide)) rfl rfl (Nat.le_of_ble_eq_true rfl) dX0_init_32 (fun H locs hP hD hS => ?_)
  have hP : va_P D classes [(h0, .inr (0, [.int 0, .int 0, .int 0, .int 0, .int 0, .int 0, .int 0, .int 0, .ref q_1, .ref q_2, .ref q_3, .ref q_4, .null, .null, .null, .null, .null, .null, .null])), (q_1, .inl (t 0, 4, .inl (fun _ => 0))), (q_2, .inl (t 0, 9, .inl (fun _ => 0))), (q_3, .inl (t 0, 9, .inl (fun _ => 0))), (q_4, .inl (t 0, 9, .inl (fun _ => 0)))] H := hP
  have hD : va_D A [(h0, .inr (0, [.int 0, .int 0, .int 0, .int 0, .int 0, .int 0, .int 0, .int 0, .ref q_1, .ref q_2, .ref q_3, .ref q_4, .null, .null, .null, .null, .null, .null, .null])), (q_1, .inl (t 0, 4, .inl (fun _ => 0))), (q_2, .inl (t 0, 9, .inl (fun _ => 0))), (q_3, .inl (t 0, 9, .inl (fun _ => 0))), (q_4, .inl (t 0, 9, .inl (fun _ => 0)))] := hD
  refine lv_aload_n hx hb dX0_init_35 rfl (lv_at hl 0 rfl) ?_
  refine lv_bipush (v := 9) hx hb dX0_init_36 (by decide) ?_
  refine x_newa (atype := .int) (a0 := (9, .inl (fun _ => 0))) (ty := .int) hx hb (hts _ m_78) rfl hK hP hD hS hA 0 rfl (fun _ h9 => h9) (fun _ => rfl) (by decide) rfl (by decide) (Nat.le_of_ble_eq_true rfl) (Nat.le_of_ble_eq_true rfl) dX0_init_38 (fun q_5 H hP hD hS => ?_)
  have hP : va_P D classes [(h0, .inr (0, [.int 0, .int 0, .int 0, .int 0, .int 0, .int 0, .int 0, .int 0, .ref q_1, .ref q_2, .ref q_3, .ref q_4, .null, .null, .null, .null, .null, .null, .null])), (q_1, .inl (t 0, 4, .inl (fun _ => 0))), (q_2, .inl (t 0, 9, .inl (fun _ => 0))), (q_3, .inl (t 0, 9, .inl (fun _ => 0))), (q_4, .inl (t 0, 9, .inl (fun _ => 0))), (q_5, .inl (t 0, 9, .inl (fun _ => 0)))] H := hP
  have hD : va_D A [(h0, .inr (0, [.int 0, .int 0, .int 0, .int 0, .int 0, .int 0, .int 0, .int 0, .ref q_1, .ref q_2, .ref q_3, .ref q_4, .null, .null, .null, .null, .null, .null, .null])), (q_1, .inl (t 0, 4, .inl (fun _ => 0))), (q_2, .inl (t 0, 9, .inl (fun _ => 0))), (q_3, .inl (t 0, 9, .inl (fun _ => 0))), (q_4, .inl (t 0, 9, .inl (fun _ => 0))), (q_5, .inl (t 0, 9, .inl (fun _ => 0)))] := hD
  refine W.widen (k := 5) (n := 40) (Nat.le_of_ble_eq_true rfl) (Nat.le_of_ble_eq_true rfl) ?_
  refine va_putF (D := D) (ci := 0) (v := .ref q_5) (ty := (.array .int)) (C := RX0) (T := TX0) (N := 19) hx hb hts iX0 tyX0 tyX0_ok nmX0 hown hK hP hD hS 0 rfl rfl 12 (by decide) (hts _ m_168) (fun _ h9 => h9) rfl hin rfl (tyX0_ok 12 (by decide)) rfl rfl (Nat.le_of_ble_eq_true rfl) dX0_init_40 (fun H locs hP hD hS => ?_)
  have hP : va_P D classes [(h0, .inr (0, [.int 0, .int 0, .int 0, .int 0, .int 0, .int 0, .int 0, .int 0, .ref q_1, .ref q_2, .ref q_3, .ref q_4, .ref q_5, .null, .null, .null, .null, .null, .null])), (q_1, .inl (t 0, 4, .inl (fun _ => 0))), (q_2, .inl (t 0, 9, .inl (fun _ => 0))), (q_3, .inl (t 0, 9, .inl (fun _ => 0))), (q_4, .inl (t 0, 9, .inl (fun _ => 0))), (q_5, .inl (t 0, 9, .inl (fun _ => 0)))] H := hP
  have hD : va_D A [(h0, .inr (0, [.int 0, .int 0, .int 0, .int 0, .int 0, .int 0, .int 0, .int 0, .ref q_1, .ref q_2, .ref q_3, .ref q_4, .ref q_5, .null, .null, .null, .null, .null, .null])), (q_1, .inl (t 0, 4, .inl (fun _ => 0))), (q_2, .inl (t 0, 9, .inl (fun _ => 0))), (q_3, .inl (t 0, 9, .inl (fun _ => 0))), (q_4, .inl (t 0, 9, .inl (fun _ => 0))), (q_5, .inl (t 0, 9, .inl (fun _ => 0)))] := hD
  refine lv_aload_n hx hb dX0_init_43 rfl (lv_at hl 0 rfl) ?_
  refine lv_bipush (v := 9) hx hb dX0_init_44 (by decide) ?_
  refine x_newa (atype := .int) (a0 := (9, .inl (fun _ => 0))) (ty := .int) hx hb (hts _ m_78) rfl hK hP hD hS hA 0 rfl (fun _ h9 => h9) (fun _ => rfl) (by decide) rfl (by decide) (Nat.le_of_ble_eq_true rfl) (Nat.le_of_ble_eq_true rfl) dX0_init_46 (fun q_6 H hP hD hS => ?_)
  have hP : va_P D classes [(h0, .inr (0, [.int 0, .int 0, .int 0, .int 0, .int 0, .int 0, .int 0, .int 0, .ref q_1, .ref q_2, .ref q_3, .ref q_4, .ref q_5, .null, .null, .null, .null, .null, .null])), (q_1, .inl (t 0, 4, .inl (fun _ => 0))), (q_2, .inl (t 0, 9, .inl (fun _ => 0))), (q_3, .inl (t 0, 9, .inl (fun _ => 0))), (q_4, .inl (t 0, 9, .inl (fun _ => 0))), (q_5, .inl (t 0, 9, .inl (fun _ => 0))), (q_6, .inl (t 0, 9, .inl (fun _ => 0)))] H := hP
  have hD : va_D A [(h0, .inr (0, [.int 0, .int 0, .int 0, .int 0, .int 0, .int 0, .int 0, .int 0, .ref q_1, .ref q_2, .ref q_3, .ref q_4, .ref q_5, .null, .null, .null, .null, .null, .null])), (q_1, .inl (t 0, 4, .inl (fun _ => 0))), (q_2, .inl (t 0, 9, .inl (fun _ => 0))), (q_3, .inl (t 0, 9, .inl (fun _ => 0))), (q_4, .inl (t 0, 9, .inl (fun _ => 0))), (q_5, .inl (t 0, 9, .inl (fun _ => 0))), (q_6, .inl (t 0, 9, .inl (fun _ => 0)))] := hD
  refine W.widen (k := 6) (n := 49) (Nat.le_of_ble_eq_true rfl) (Nat.le_of_ble_eq_true rfl) ?_
  refine va_putF (D := D) (ci := 0) (v := .ref q_6) (ty := (.array .int)) (C := RX0) (T := TX0) (N := 19) hx hb hts iX0 tyX0 tyX0_ok nmX0 hown hK hP hD hS 0 rfl rfl 13 (by decide) (hts _ m_172) (fun _ h9 => h9) rfl hin rfl (tyX0_ok 13 (by decide)) rfl rfl (Nat.le_of_ble_eq_true rfl) dX0_init_48 (fun H locs hP hD hS => ?_)
  have hP : va_P D classes [(h0, .inr (0, [.int 0, .int 0, .int 0, .int 0, .int 0, .int 0, .int 0, .int 0, .ref q_1, .ref q_2, .ref q_3, .ref q_4, .ref q_5, .ref q_6, .null, .null, .null, .null, .null])), (q_1, .inl (t 0, 4, .inl (fun _ => 0))), (q_2, .inl (t 0, 9, .inl (fun _ => 0))), (q_3, .inl (t 0, 9, .inl (fun _ => 0))), (q_4, .inl (t 0, 9, .inl (fun _ => 0))), (q_5, .inl (t 0, 9, .inl (fun _ => 0))), (q_6, .inl (t 0, 9, .inl (fun _ => 0)))] H := hP
  have hD : va_D A [(h0, .inr (0, [.int 0, .int 0, .int 0, .int 0, .int 0, .int 0, .int 0, .int 0, .ref q_1, .ref q_2, .ref q_3, .ref q_4, .ref q_5, .ref q_6, .null, .null, .null, .null, .null])), (q_1, .inl (t 0, 4, .inl (fun _ => 0))), (q_2, .inl (t 0, 9, .inl (fun _ => 0))), (q_3, .inl (t 0, 9, .inl (fun _ => 0))), (q_4, .inl (t 0, 9, .inl (fun _ => 0))), (q_5, .inl (t 0, 9, .inl (fun _ => 0))), (q_6, .inl (t 0, 9, .inl (fun _ => 0)))] := hD
  refine lv_aload_n hx hb dX0_init_51 rfl (lv_at hl 0 rfl) ?_
  refine lv_bipush (v := 9) hx hb dX0_init_52 (by decide) ?_
  refine x_newa (atype := .int) (a0 := (9, .inl (fun _ => 0))) (ty := .int) hx hb (hts _ m_78) rfl hK hP hD hS hA 0 rfl (fun _ h9 => h9) (fun _ => rfl) (by decide) rfl (by decide) (Nat.le_of_ble_eq_true rfl) (Nat.le_of_ble_eq_true rfl) dX0_init_54 (fun q_7 H hP hD hS => ?_)
  have hP : va_P D classes [(h0, .inr (0, [.int 0, .int 0, .int 0, .int 0, .int 0, .int 0, .int 0, .int 0, .ref q_1, .ref q_2, .ref q_3, .ref q_4, .ref q_5, .ref q_6, .null, .null, .null, .null, .null])), (q_1, .inl (t 0, 4, .inl (fun _ => 0))), (q_2, .inl (t 0, 9, .inl (fun _ => 0))), (q_3, .inl (t 0, 9, .inl (fun _ => 0))), (q_4, .inl (t 0, 9, .inl (fun _ => 0))), (q_5, .inl (t 0, 9, .inl (fun _ => 0))), (q_6, .inl (t 0, 9, .inl (fun _ => 0))), (q_7, .inl (t 0, 9, .inl (fun _ => 0)))] H := hP
  have hD : va_D A [(h0, .inr (0, [.int 0, .int 0, .int 0, .int 0, .int 0, .int 0, .int 0, .int 0, .ref q_1, .ref q_2, .ref q_3, .ref q_4, .ref q_5, .ref q_6, .null, .null, .null, .null, .null])), (q_1, .inl (t 0, 4, .inl (fun _ => 0))), (q_2, .inl (t 0, 9, .inl (fun _ => 0))), (q_3, .inl (t 0, 9, .inl (fun _ => 0))), (q_4, .inl (t 0, 9, .inl (fun _ => 0))), (q_5, .inl (t 0, 9, .inl (fun _ => 0))), (q_6, .inl (t 0, 9, .inl (fun _ => 0))), (q_7, .inl (t 0, 9, .inl (fun _ => 0)))] := hD
  refine W.widen (k := 7) (n := 58) (Nat.le_of_ble_eq_true rfl) (Nat.le_of_ble_eq_true rfl) ?_
  refine va_putF (D := D) (ci := 0) (v := .ref q_7) (ty := (.array .int)) (C := RX0) (T := TX0) (N := 19) hx hb hts iX0 tyX0 tyX0_ok nmX0 hown hK hP hD hS 0 rfl rfl 14 (by decide) (hts _ m_175) (fun _ h9 => h9) rfl hin rfl (tyX0_ok 14 (by decide)) rfl rfl (Nat.le_of_ble_eq_true rfl) dX0_init_56 (fun H locs hP hD hS => ?_)
  have hP : va_P D classes [(h0, .inr (0, [.int 0, .int 0, .int 0, .int 0, .int 0, .int 0, .int 0, .int 0, .ref q_1, .ref q_2, .ref q_3, .ref q_4, .ref q_5, .ref q_6, .ref q_7, .null, .null, .null, .null])), (q_1, .inl (t 0, 4, .inl (fun _ => 0))), (q_2, .inl (t 0, 9, .inl (fun _ => 0))), (q_3, .inl (t 0, 9, .inl (fun _ => 0))), (q_4, .inl (t 0, 9, .inl (fun _ => 0))), (q_5, .inl (t 0, 9, .inl (fun _ => 0))), (q_6, .inl (t 0, 9, .inl (fun _ => 0))), (q_7, .inl (t 0, 9, .inl (fun _ => 0)))] H := hP
  have hD : va_D A [(h0, .inr (0, [.int 0, .int 0, .int 0, .int 0, .int 0, .int 0, .int 0, .int 0, .ref q_1, .ref q_2, .ref q_3, .ref q_4, .ref q_5, .ref q_6, .ref q_7, .null, .null, .null, .null])), (q_1, .inl (t 0, 4, .inl (fun _ => 0))), (q_2, .inl (t 0, 9, .inl (fun _ => 0))), (q_3, .inl (t 0, 9, .inl (fun _ => 0))), (q_4, .inl (t 0, 9, .inl (fun _ => 0))), (q_5, .inl (t 0, 9, .inl (fun _ => 0))), (q_6, .inl (t 0, 9, .inl (fun _ => 0))), (q_7, .inl (t 0, 9, .inl (fun _ => 0)))] := hD
  refine lv_aload_n hx hb dX0_init_59 rfl (lv_at hl 0 rfl) ?_
  refine lv_bipush (v := 9) hx hb dX0_init_60 (by decide) ?_
  refine x_newa (atype := .int) (a0 := (9, .inl (fun _ => 0))) (ty := .int) hx hb (hts _ m_78) rfl hK hP hD hS hA 0 rfl (fun _ h9 => h9) (fun _ => rfl) (by decide) rfl (by decide) (Nat.le_of_ble_eq_true rfl) (Nat.le_of_ble_eq_true rfl) dX0_init_62 (fun q_8 H hP hD hS => ?_)
  have hP : va_P D classes [(h0, .inr (0, [.int 0, .int 0, .int 0, .int 0, .int 0, .int 0, .int 0, .int 0, .ref q_1, .ref q_2, .ref q_3, .ref q_4, .ref q_5, .ref q_6, .ref q_7, .null, .null, .null, .null])), (q_1, .inl (t 0, 4, .inl (fun _ => 0))), (q_2, .inl (t 0, 9, .inl (fun _ => 0))), (q_3, .inl (t 0, 9, .inl (fun _ => 0))), (q_4, .inl (t 0, 9, .inl (fun _ => 0))), (q_5, .inl (t 0, 9, .inl (fun _ => 0))), (q_6, .inl (t 0, 9, .inl (fun _ => 0))), (q_7, .inl (t 0, 9, .inl (fun _ => 0))), (q_8, .inl (t 0, 9, .inl (fun _ => 0)))] H := hP
  have hD : va_D A [(h0, .inr (0, [.int 0, .int 0, .int 0, .int 0, .int 0, .int 0, .int 0, .int 0, .ref q_1, .ref q_2, .ref q_3, .ref q_4, .ref q_5, .ref q_6, .ref q_7, .null, .null, .null, .null])), (q_1, .inl (t 0, 4, .inl (fun _ => 0))), (q_2, .inl (t 0, 9, .inl (fun _ => 0))), (q_3, .inl (t 0, 9, .inl (fun _ => 0))), (q_4, .inl (t 0, 9, .inl (fun _ => 0))), (q_5, .inl (t 0, 9, .inl (fun _ => 0))), (q_6, .inl (t 0, 9, .inl (fun _ => 0))), (q_7, .inl (t 0, 9, .inl (fun _ => 0))), (q_8, .inl (t 0, 9, .inl (fun _ => 0)))] := hD
  refine W.widen (k := 8) (n := 67) (Nat.le_of_ble_eq_true rfl) (Nat.le_of_ble_eq_true rfl) ?_
  refine va_putF (D := D) (ci := 0) (v := .ref q_8) (ty := (.array .int)) (C := RX0) (T := TX0) (N := 19) hx hb hts iX0 tyX0 tyX0_ok nmX0 hown hK hP hD hS 0 rfl rfl 15 (by decide) (hts _ m_179) (fun _ h9 => h9) rfl hin rfl (tyX0_ok 15 (by decide)) rfl rfl (Nat.le_of_ble_eq_true rfl) dX0_init_64 (fun H locs hP hD hS => ?_)
  have hP : va_P D classes [(h0, .inr (0, [.int 0, .int 0, .int 0, .int 0, .int 0, .int 0, .int 0, .int 0, .ref q_1, .ref q_2, .ref q_3, .ref q_4, .ref q_5, .ref q_6, .ref q_7, .ref q_8, .null, .null, .null])), (q_1, .inl (t 0, 4, .inl (fun _ => 0))), (q_2, .inl (t 0, 9, .inl (fun _ => 0))), (q_3, .inl (t 0, 9, .inl (fun _ => 0))), (q_4, .inl (t 0, 9, .inl (fun _ => 0))), (q_5, .inl (t 0, 9, .inl (fun _ => 0))), (q_6, .inl (t 0, 9, .inl (fun _ => 0))), (q_7, .inl (t 0, 9, .inl (fun _ => 0))), (q_8, .inl (t 0, 9, .inl (fun _ => 0)))] H := hP
  have hD : va_D A [(h0, .inr (0, [.int 0, .int 0, .int 0, .int 0, .int 0, .int 0, .int 0, .int 0, .ref q_1, .ref q_2, .ref q_3, .ref q_4, .ref q_5, .ref q_6, .ref q_7, .ref q_8, .null, .null, .null])), (q_1, .inl (t 0, 4, .inl (fun _ => 0))), (q_2, .inl (t 0, 9, .inl (fun _ => 0))), (q_3, .inl (t 0, 9, .inl (fun _ => 0))), (q_4, .inl (t 0, 9, .inl (fun _ => 0))), (q_5, .inl (t 0, 9, .inl (fun _ => 0))), (q_6, .inl (t 0, 9, .inl (fun _ => 0))), (q_7, .inl (t 0, 9, .inl (fun _ => 0))), (q_8, .inl (t 0, 9, .inl (fun _ => 0)))] := hD
  refine lv_aload_n hx hb dX0_init_67 rfl (lv_at hl 0 rfl) ?_
  refine lv_bipush (v := 9) hx hb dX0_init_68 (by decide) ?_
  refine x_newa (atype := .int) (a0 := (9, .inl (fun _ => 0))) (ty := .int) hx hb (hts _ m_78) rfl hK hP hD hS hA 0 rfl (fun _ h9 => h9) (fun _ => rfl) (by decide) rfl (by decide) (Nat.le_of_ble_eq_true rfl) (Nat.le_of_ble_eq_true rfl) dX0_init_70 (fun q_9 H hP hD hS => ?_)
  have hP : va_P D classes [(h0, .inr (0, [.int 0, .int 0, .int 0, .int 0, .int 0, .int 0, .int 0, .int 0, .ref q_1, .ref q_2, .ref q_3, .ref q_4, .ref q_5, .ref q_6, .ref q_7, .ref q_8, .null, .null, .null])), (q_1, .inl (t 0, 4, .inl (fun _ => 0))), (q_2, .inl (t 0, 9, .inl (fun _ => 0))), (q_3, .inl (t 0, 9, .inl (fun _ => 0))), (q_4, .inl (t 0, 9, .inl (fun _ => 0))), (q_5, .inl (t 0, 9, .inl (fun _ => 0))), (q_6, .inl (t 0, 9, .inl (fun _ => 0))), (q_7, .inl (t 0, 9, .inl (fun _ => 0))), (q_8, .inl (t 0, 9, .inl (fun _ => 0))), (q_9, .inl (t 0, 9, .inl (fun _ => 0)))] H := hP
  have hD : va_D A [(h0, .inr (0, [.int 0, .int 0, .int 0, .int 0, .int 0, .int 0, .int 0, .int 0, .ref q_1, .ref q_2, .ref q_3, .ref q_4, .ref q_5, .ref q_6, .ref q_7, .ref q_8, .null, .null, .null])), (q_1, .inl (t 0, 4, .inl (fun _ => 0))), (q_2, .inl (t 0, 9, .inl (fun _ => 0))), (q_3, .inl (t 0, 9, .inl (fun _ => 0))), (q_4, .inl (t 0, 9, .inl (fun _ => 0))), (q_5, .inl (t 0, 9, .inl (fun _ => 0))), (q_6, .inl (t 0, 9, .inl (fun _ => 0))), (q_7, .inl (t 0, 9, .inl (fun _ => 0))), (q_8, .inl (t 0, 9, .inl (fun _ => 0))), (q_9, .inl (t 0, 9, .inl (fun _ => 0)))] := hD
  refine W.widen (k := 9) (n := 76) (Nat.le_of_ble_eq_true rfl) (Nat.le_of_ble_eq_true rfl) ?_
  refine va_putF (D := D) (ci := 0) (v := .ref q_9) (ty := (.array .int)) (C := RX0) (T := TX0) (N := 19) hx hb hts iX0 tyX0 tyX0_ok nmX0 hown hK hP hD hS 0 rfl rfl 16 (by decide) (hts _ m_182) (fun _ h9 => h9) rfl hin rfl (tyX0_ok 16 (by decide)) rfl rfl (Nat.le_of_ble_eq_true rfl) dX0_init_72 (fun H locs hP hD hS => ?_)
  have hP : va_P D classes [(h0, .inr (0, [.int 0, .int 0, .int 0, .int 0, .int 0, .int 0, .int 0, .int 0, .ref q_1, .ref q_2, .ref q_3, .ref q_4, .ref q_5, .ref q_6, .ref q_7, .ref q_8, .ref q_9, .null, .null])), (q_1, .inl (t 0, 4, .inl (fun _ => 0))), (q_2, .inl (t 0, 9, .inl (fun _ => 0))), (q_3, .inl (t 0, 9, .inl (fun _ => 0))), (q_4, .inl (t 0, 9, .inl (fun _ => 0))), (q_5, .inl (t 0, 9, .inl (fun _ => 0))), (q_6, .inl (t 0, 9, .inl (fun _ => 0))), (q_7, .inl (t 0, 9, .inl (fun _ => 0))), (q_8, .inl (t 0, 9, .inl (fun _ => 0))), (q_9, .inl (t 0, 9, .inl (fun _ => 0)))] H := hP
  have hD : va_D A [(h0, .inr (0, [.int 0, .int 0, .int 0, .int 0, .int 0, .int 0, .int 0, .int 0, .ref q_1, .ref q_2, .ref q_3, .ref q_4, .ref q_5, .ref q_6, .ref q_7, .ref q_8, .ref q_9, .null, .null])), (q_1, .inl (t 0, 4, .inl (fun _ => 0))), (q_2, .inl (t 0, 9, .inl (fun _ => 0))), (q_3, .inl (t 0, 9, .inl (fun _ => 0))), (q_4, .inl (t 0, 9, .inl (fun _ => 0))), (q_5, .inl (t 0, 9, .inl (fun _ => 0))), (q_6, .inl (t 0, 9, .inl (fun _ => 0))), (q_7, .inl (t 0, 9, .inl (fun _ => 0))), (q_8, .inl (t 0, 9, .inl (fun _ => 0))), (q_9, .inl (t 0, 9, .inl (fun _ => 0)))] := hD
  refine lv_aload_n hx hb dX0_init_75 rfl (lv_at hl 0 rfl) ?_
  refine va_new (ci := 5) (fs := [.int 0, .null, .null, .null]) (C := RX5) (T := TX5) (N := 4) hx hb hts iX5 tyX5 tyX5_ok hown (hts _ m_52) (hts _ m_53) (hts _ m_4) hK hP hD hS hA rfl (fun j hj => dfX5 j hj) (Nat.le_of_ble_eq_true rfl) (Nat.le_of_ble_eq_true rfl) dX0_init_76 (fun q_10 H hP hD hS => ?_)
  have hP : va_P D classes [(h0, .inr (0, [.int 0, .int 0, .int 0, .int 0, .int 0, .int 0, .int 0, .int 0, .ref q_1, .ref q_2, .ref q_3, .ref q_4, .ref q_5, .ref q_6, .ref q_7, .ref q_8, .ref q_9, .null, .null])), (q_1, .inl (t 0, 4, .inl (fun _ => 0))), (q_2, .inl (t 0, 9, .inl (fun _ => 0))), (q_3, .inl (t 0, 9, .inl (fun _ => 0))), (q_4, .inl (t 0, 9, .inl (fun _ => 0))), (q_5, .inl (t 0, 9, .inl (fun _ => 0))), (q_6, .inl (t 0, 9, .inl (fun _ => 0))), (q_7, .inl (t 0, 9, .inl (fun _ => 0))), (q_8, .inl (t 0, 9, .inl (fun _ => 0))), (q_9, .inl (t 0, 9, .inl (fun _ => 0))), (q_10, .inr (5, [.int 0, .null, .null, .null]))] H := hP
  have hD : va_D A [(h0, .inr (0, [.int 0, .int 0, .int 0, .int 0, .int 0, .int 0, .int 0, .int 0, .ref q_1, .ref q_2, .ref q_3, .ref q_4, .ref q_5, .ref q_6, .ref q_7, .ref q_8, .ref q_9, .null, .null])), (q_1, .inl (t 0, 4, .inl (fun _ => 0))), (q_2, .inl (t 0, 9, .inl (fun _ => 0))), (q_3, .inl (t 0, 9, .inl (fun _ => 0))), (q_4, .inl (t 0, 9, .inl (fun _ => 0))), (q_5, .inl (t 0, 9, .inl (fun _ => 0))), (q_6, .inl (t 0, 9, .inl (fun _ => 0))), (q_7, .inl (t 0, 9, .inl (fun _ => 0))), (q_8, .inl (t 0, 9, .inl (fun _ => 0))), (q_9, .inl (t 0, 9, .inl (fun _ => 0))), (q_10, .inr (5, [.int 0, .null, .null, .null]))] := hD
  refine W.widen (k := 10) (n := 80) (Nat.le_of_ble_eq_true rfl) (Nat.le_of_ble_eq_true rfl) ?_
  refine lv_dup hx hb dX0_init_79 rfl ?_
  refine x_wIN (wr := [(h0, .inr (0, [.int 0, .int 0, .int 0, .int 0, .int 0, .int 0, .int 0, .int 0, .ref q_1, .ref q_2, .ref q_3, .ref q_4, .ref q_5, .ref q_6, .ref q_7, .ref q_8, .ref q_9, .null, .null])), (q_1, .inl (t 0, 4, .inl (fun _ => 0))), (q_2, .inl (t 0, 9, .inl (fun _ => 0))), (q_3, .inl (t 0, 9, .inl (fun _ => 0))), (q_4, .inl (t 0, 9, .inl (fun _ => 0))), (q_5, .inl (t 0, 9, .inl (fun _ => 0))), (q_6, .inl (t 0, 9, .inl (fun _ => 0))), (q_7, .inl (t 0, 9, .inl (fun _ => 0))), (q_8, .inl (t 0, 9, .inl (fun _ => 0))), (q_9, .inl (t 0, 9, .inl (fun _ => 0)))]) hF (c_X5_init l D t q_10 H.size) n_54 m_55 m_4 m_56 rfl hd_X5_init ⟨Nat.le_of_ble_eq_true rfl, Nat.le_of_ble_eq_true rfl⟩ hK hN hP hD hS hA [10] [0, 1, 2, 3, 4, 5, 6, 7, 8, 9] rfl rfl (by decide) (by decide) (by decide) hl.1 rfl (Nat.le_of_ble_eq_true rfl) dX0_init_80 ⟨Nat.le_of_ble_eq_true rfl, Nat.le_of_ble_eq_true rfl⟩ (fun u_11 H locs hP hD hS => ?_)
  have hP : va_P D classes [(h0, .inr (0, [.int 0, .int 0, .int 0, .int 0, .int 0, .int 0, .int 0, .int 0, .ref q_1, .ref q_2, .ref q_3, .ref q_4, .ref q_5, .ref q_6, .ref q_7, .ref q_8, .ref q_9, .null, .null])), (q_1, .inl (t 0, 4, .inl (fun _ => 0))), (q_2, .inl (t 0, 9, .inl (fun _ => 0))), (q_3, .inl (t 0, 9, .inl (fun _ => 0))), (q_4, .inl (t 0, 9, .inl (fun _ => 0))), (q_5, .inl (t 0, 9, .inl (fun _ => 0))), (q_6, .inl (t 0, 9, .inl (fun _ => 0))), (q_7, .inl (t 0, 9, .inl (fun _ => 0))), (q_8, .inl (t 0, 9, .inl (fun _ => 0))), (q_9, .inl (t 0, 9, .inl (fun _ => 0))), (q_10, .inr (5, [.int 0, .ref (u_11 0), .ref (u_11 1), .ref (u_11 2)])), (u_11 0, .inl (t 0, 8, .inl (fun _ => 0))), (u_11 1, .inl (t 0, 8, .inl (fun _ => 0))), (u_11 2, .inl (t 0, 8, .inl (fun _ => 0)))] H := hP
  have hD : va_D A [(h0, .inr (0, [.int 0, .int 0, .int 0, .int 0, .int 0, .int 0, .int 0, .int 0, .ref q_1, .ref q_2, .ref q_3, .ref q_4, .ref q_5, .ref q_6, .ref q_7, .ref q_8, .ref q_9, .null, .null])), (q_1, .inl (t 0, 4, .inl (fun _ => 0))), (q_2, .inl (t 0, 9, .inl (fun _ => 0))), (q_3, .inl (t 0, 9, .inl (fun _ => 0))), (q_4, .inl (t 0, 9, .inl (fun _ => 0))), (q_5, .inl (t 0, 9, .inl (fun _ => 0))), (q_6, .inl (t 0, 9, .inl (fun _ => 0))), (q_7, .inl (t 0, 9, .inl (fun _ => 0))), (q_8, .inl (t 0, 9, .inl (fun _ => 0))), (q_9, .inl (t 0, 9, .inl (fun _ => 0))), (q_10, .inr (5, [.int 0, .ref (u_11 0), .ref (u_11 1), .ref (u_11 2)])), (u_11 0, .inl (t 0, 8, .inl (fun _ => 0))), (u_11 1, .inl (t 0, 8, .inl (fun _ => 0))), (u_11 2, .inl (t 0, 8, .inl (fun _ => 0)))] := hD
  refine W.widen (k := 13) (n := 104) (Nat.le_of_ble_eq_true rfl) (Nat.le_of_ble_eq_true rfl) ?_
  refine va_putF (D := D) (ci := 0) (v := .ref q_10) (ty := (.object "WordSeats$Rounds")) (C := RX0) (T := TX0) (N := 19) hx hb hts iX0 tyX0 tyX0_ok nmX0 hown hK hP hD hS 0 rfl rfl 17 (by decide) (hts _ m_185) (fun _ h9 => h9) rfl hin rfl (tyX0_ok 17 (by decide)) rfl rfl (Nat.le_of_ble_eq_true rfl) dX0_init_83 (fun H locs hP hD hS => ?_)
  have hP : va_P D classes [(h0, .inr (0, [.int 0, .int 0, .int 0, .int 0, .int 0, .int 0, .int 0, .int 0, .ref q_1, .ref q_2, .ref q_3, .ref q_4, .ref q_5, .ref q_6, .ref q_7, .ref q_8, .ref q_9, .ref q_10, .null])), (q_1, .inl (t 0, 4, .inl (fun _ => 0))), (q_2, .inl (t 0, 9, .inl (fun _ => 0))), (q_3, .inl (t 0, 9, .inl (fun _ => 0))), (q_4, .inl (t 0, 9, .inl (fun _ => 0))), (q_5, .inl (t 0, 9, .inl (fun _ => 0))), (q_6, .inl (t 0, 9, .inl (fun _ => 0))), (q_7, .inl (t 0, 9, .inl (fun _ => 0))), (q_8, .inl (t 0, 9, .inl (fun _ => 0))), (q_9, .inl (t 0, 9, .inl (fun _ => 0))), (q_10, .inr (5, [.int 0, .ref (u_11 0), .ref (u_11 1), .ref (u_11 2)])), (u_11 0, .inl (t 0, 8, .inl (fun _ => 0))), (u_11 1, .inl (t 0, 8, .inl (fun _ => 0))), (u_11 2, .inl (t 0, 8, .inl (fun _ => 0)))] H := hP
  have hD : va_D A [(h0, .inr (0, [.int 0, .int 0, .int 0, .int 0, .int 0, .int 0, .int 0, .int 0, .ref q_1, .ref q_2, .ref q_3, .ref q_4, .ref q_5, .ref q_6, .ref q_7, .ref q_8, .ref q_9, .ref q_10, .null])), (q_1, .inl (t 0, 4, .inl (fun _ => 0))), (q_2, .inl (t 0, 9, .inl (fun _ => 0))), (q_3, .inl (t 0, 9, .inl (fun _ => 0))), (q_4, .inl (t 0, 9, .inl (fun _ => 0))), (q_5, .inl (t 0, 9, .inl (fun _ => 0))), (q_6, .inl (t 0, 9, .inl (fun _ => 0))), (q_7, .inl (t 0, 9, .inl (fun _ => 0))), (q_8, .inl (t 0, 9, .inl (fun _ => 0))), (q_9, .inl (t 0, 9, .inl (fun _ => 0))), (q_10, .inr (5, [.int 0, .ref (u_11 0), .ref (u_11 1), .ref (u_11 2)])), (u_11 0, .inl (t 0, 8, .inl (fun _ => 0))), (u_11 1, .inl (t 0, 8, .inl (fun _ => 0))), (u_11 2, .inl (t 0, 8, .inl (fun _ => 0)))] := hD
  refine lv_aload_n hx hb dX0_init_86 rfl (lv_at hl 0 rfl) ?_
  refine va_new (ci := 9) (fs := [.int 0, .int 0, .int 0, .null, .null, .null, .null]) (C := RX9) (T := TX9) (N := 7) hx hb hts iX9 tyX9 tyX9_ok hown (hts _ m_79) (hts _ m_80) (hts _ m_5) hK hP hD hS hA rfl (fun j hj => dfX9 j hj) (Nat.le_of_ble_eq_true rfl) (Nat.le_of_ble_eq_true rfl) dX0_init_87 (fun q_12 H hP hD hS => ?_)
  have hP : va_P D classes [(h0, .inr (0, [.int 0, .int 0, .int 0, .int 0, .int 0, .int 0, .int 0, .int 0, .ref q_1, .ref q_2, .ref q_3, .ref q_4, .ref q_5, .ref q_6, .ref q_7, .ref q_8, .ref q_9, .ref q_10, .null])), (q_1, .inl (t 0, 4, .inl (fun _ => 0))), (q_2, .inl (t 0, 9, .inl (fun _ => 0))), (q_3, .inl (t 0, 9, .inl (fun _ => 0))), (q_4, .inl (t 0, 9, .inl (fun _ => 0))), (q_5, .inl (t 0, 9, .inl (fun _ => 0))), (q_6, .inl (t 0, 9, .inl (fun _ => 0))), (q_7, .inl (t 0, 9, .inl (fun _ => 0))), (q_8, .inl (t 0, 9, .inl (fun _ => 0))), (q_9, .inl (t 0, 9, .inl (fun _ => 0))), (q_10, .inr (5, [.int 0, .ref (u_11 0), .ref (u_11 1), .ref (u_11 2)])), (u_11 0, .inl (t 0, 8, .inl (fun _ => 0))), (u_11 1, .inl (t 0, 8, .inl (fun _ => 0))), (u_11 2, .inl (t 0, 8, .inl (fun _ => 0))), (q_12, .inr (9, [.int 0, .int 0, .int 0, .null, .null, .null, .null]))] H := hP
  have hD : va_D A [(h0, .inr (0, [.int 0, .int 0, .int 0, .int 0, .int 0, .int 0, .int 0, .int 0, .ref q_1, .ref q_2, .ref q_3, .ref q_4, .ref q_5, .ref q_6, .ref q_7, .ref q_8, .ref q_9, .ref q_10, .null])), (q_1, .inl (t 0, 4, .inl (fun _ => 0))), (q_2, .inl (t 0, 9, .inl (fun _ => 0))), (q_3, .inl (t 0, 9, .inl (fun _ => 0))), (q_4, .inl (t 0, 9, .inl (fun _ => 0))), (q_5, .inl (t 0, 9, .inl (fun _ => 0))), (q_6, .inl (t 0, 9, .inl (fun _ => 0))), (q_7, .inl (t 0, 9, .inl (fun _ => 0))), (q_8, .inl (t 0, 9, .inl (fun _ => 0))), (q_9, .inl (t 0, 9, .inl (fun _ => 0))), (q_10, .inr (5, [.int 0, .ref (u_11 0), .ref (u_11 1), .ref (u_11 2)])), (u_11 0, .inl (t 0, 8, .inl (fun _ => 0))), (u_11 1, .inl (t 0, 8, .inl (fun _ => 0))), (u_11 2, .inl (t 0, 8, .inl (fun _ => 0))), (q_12, .inr (9, [.int 0, .int 0, .int 0, .null, .null, .null, .null]))] := hD
  refine W.widen (k := 14) (n := 111) (Nat.le_of_ble_eq_true rfl) (Nat.le_of_ble_eq_true rfl) ?_
  refine lv_dup hx hb dX0_init_90 rfl ?_
  refine x_wIN (wr := [(h0, .inr (0, [.int 0, .int 0, .int 0, .int 0, .int 0, .int 0, .int 0, .int 0, .ref q_1, .ref q_2, .ref q_3, .ref q_4, .ref q_5, .ref q_6, .ref q_7, .ref q_8, .ref q_9, .ref q_10, .null])), (q_1, .inl (t 0, 4, .inl (fun _ => 0))), (q_2, .inl (t 0, 9, .inl (fun _ => 0))), (q_3, .inl (t 0, 9, .inl (fun _ => 0))), (q_4, .inl (t 0, 9, .inl (fun _ => 0))), (q_5, .inl (t 0, 9, .inl (fun _ => 0))), (q_6, .inl (t 0, 9, .inl (fun _ => 0))), (q_7, .inl (t 0, 9, .inl (fun _ => 0))), (q_8, .inl (t 0, 9, .inl (fun _ => 0))), (q_9, .inl (t 0, 9, .inl (fun _ => 0))), (q_10, .inr (5, [.int 0, .ref (u_11 0), .ref (u_11 1), .ref (u_11 2)])), (u_11 0, .inl (t 0, 8, .inl (fun _ => 0))), (u_11 1, .inl (t 0, 8, .inl (fun _ => 0))), (u_11 2, .inl (t 0, 8, .inl (fun _ => 0)))]) hF (c_X9_init l D t q_12 H.size) n_81 m_82 m_5 m_83 rfl hd_X9_init ⟨Nat.le_of_ble_eq_true rfl, Nat.le_of_ble_eq_true rfl⟩ hK hN hP hD hS hA [14] [0, 1, 2, 3, 4, 5, 6, 7, 8, 9, 10, 11, 12, 13] rfl rfl (by decide) (by decide) (by decide) hl.1 rfl (Nat.le_of_ble_eq_true rfl) dX0_init_91 ⟨Nat.le_of_ble_eq_true rfl, Nat.le_of_ble_eq_true rfl⟩ (fun u_13 H locs hP hD hS => ?_)
  have hP : va_P D classes [(h0, .inr (0, [.int 0, .int 0, .int 0, .int 0, .int 0, .int 0, .int 0, .int 0, .ref q_1, .ref q_2, .ref q_3, .ref q_4, .ref q_5, .ref q_6, .ref q_7, .ref q_8, .ref q_9, .ref q_10, .null])), (q_1, .inl (t 0, 4, .inl (fun _ => 0))), (q_2, .inl (t 0, 9, .inl (fun _ => 0))), (q_3, .inl (t 0, 9, .inl (fun _ => 0))), (q_4, .inl (t 0, 9, .inl (fun _ => 0))), (q_5, .inl (t 0, 9, .inl (fun _ => 0))), (q_6, .inl (t 0, 9, .inl (fun _ => 0))), (q_7, .inl (t 0, 9, .inl (fun _ => 0))), (q_8, .inl (t 0, 9, .inl (fun _ => 0))), (q_9, .inl (t 0, 9, .inl (fun _ => 0))), (q_10, .inr (5, [.int 0, .ref (u_11 0), .ref (u_11 1), .ref (u_11 2)])), (u_11 0, .inl (t 0, 8, .inl (fun _ => 0))), (u_11 1, .inl (t 0, 8, .inl (fun _ => 0))), (u_11 2, .inl (t 0, 8, .inl (fun _ => 0))), (q_12, .inr (9, [.int 0, .int 0, .int 0, .ref (u_13 0), .ref (u_13 1), .ref (u_13 2), .ref (u_13 3)])), (u_13 0, .inl (t 0, 9, .inl (fun _ => 0))), (u_13 1, .inl (t 0, 60, .inl (fun _ => 0))), (u_13 2, .inl (t 0, 60, .inl (fun _ => 0))), (u_13 3, .inl (t 0, 540, .inl (fun _ => 0)))] H := hP
  have hD : va_D A [(h0, .inr (0, [.int 0, .int 0, .int 0, .int 0, .int 0, .int 0, .int 0, .int 0, .ref q_1, .ref q_2, .ref q_3, .ref q_4, .ref q_5, .ref q_6, .ref q_7, .ref q_8, .ref q_9, .ref q_10, .null])), (q_1, .inl (t 0, 4, .inl (fun _ => 0))), (q_2, .inl (t 0, 9, .inl (fun _ => 0))), (q_3, .inl (t 0, 9, .inl (fun _ => 0))), (q_4, .inl (t 0, 9, .inl (fun _ => 0))), (q_5, .inl (t 0, 9, .inl (fun _ => 0))), (q_6, .inl (t 0, 9, .inl (fun _ => 0))), (q_7, .inl (t 0, 9, .inl (fun _ => 0))), (q_8, .inl (t 0, 9, .inl (fun _ => 0))), (q_9, .inl (t 0, 9, .inl (fun _ => 0))), (q_10, .inr (5, [.int 0, .ref (u_11 0), .ref (u_11 1), .ref (u_11 2)])), (u_11 0, .inl (t 0, 8, .inl (fun _ => 0))), (u_11 1, .inl (t 0, 8, .inl (fun _ => 0))), (u_11 2, .inl (t 0, 8, .inl (fun _ => 0))), (q_12, .inr (9, [.int 0, .int 0, .int 0, .ref (u_13 0), .ref (u_13 1), .ref (u_13 2), .ref (u_13 3)])), (u_13 0, .inl (t 0, 9, .inl (fun _ => 0))), (u_13 1, .inl (t 0, 60, .inl (fun _ => 0))), (u_13 2, .inl (t 0, 60, .inl (fun _ => 0))), (u_13 3, .inl (t 0, 540, .inl (fun _ => 0)))] := hD
  refine W.widen (k := 18) (n := 780) (Nat.le_of_ble_eq_true rfl) (Nat.le_of_ble_eq_true rfl) ?_
  refine va_putF (D := D) (ci := 0) (v := .ref q_12) (ty := (.object "WordSeats$Terms")) (C := RX0) (T := TX0) (N := 19) hx hb hts iX0 tyX0 tyX0_ok nmX0 hown hK hP hD hS 0 rfl rfl 18 (by decide) (hts _ m_189) (fun _ h9 => h9) rfl hin rfl (tyX0_ok 18 (by decide)) rfl rfl (Nat.le_of_ble_eq_true rfl) dX0_init_94 (fun H locs hP hD hS => ?_)
  have hP : va_P D classes [(h0, .inr (0, [.int 0, .int 0, .int 0, .int 0, .int 0, .int 0, .int 0, .int 0, .ref q_1, .ref q_2, .ref q_3, .ref q_4, .ref q_5, .ref q_6, .ref q_7, .ref q_8, .ref q_9, .ref q_10, .ref q_12])), (q_1, .inl (t 0, 4, .inl (fun _ => 0))), (q_2, .inl (t 0, 9, .inl (fun _ => 0))), (q_3, .inl (t 0, 9, .inl (fun _ => 0))), (q_4, .inl (t 0, 9, .inl (fun _ => 0))), (q_5, .inl (t 0, 9, .inl (fun _ => 0))), (q_6, .inl (t 0, 9, .inl (fun _ => 0))), (q_7, .inl (t 0, 9, .inl (fun _ => 0))), (q_8, .inl (t 0, 9, .inl (fun _ => 0))), (q_9, .inl (t 0, 9, .inl (fun _ => 0))), (q_10, .inr (5, [.int 0, .ref (u_11 0), .ref (u_11 1), .ref (u_11 2)])), (u_11 0, .inl (t 0, 8, .inl (fun _ => 0))), (u_11 1, .inl (t 0, 8, .inl (fun _ => 0))), (u_11 2, .inl (t 0, 8, .inl (fun _ => 0))), (q_12, .inr (9, [.int 0, .int 0, .int 0, .ref (u_13 0), .ref (u_13 1), .ref (u_13 2), .ref (u_13 3)])), (u_13 0, .inl (t 0, 9, .inl (fun _ => 0))), (u_13 1, .inl (t 0, 60, .inl (fun _ => 0))), (u_13 2, .inl (t 0, 60, .inl (fun _ => 0))), (u_13 3, .inl (t 0, 540, .inl (fun _ => 0)))] H := hP
  have hD : va_D A [(h0, .inr (0, [.int 0, .int 0, .int 0, .int 0, .int 0, .int 0, .int 0, .int 0, .ref q_1, .ref q_2, .ref q_3, .ref q_4, .ref q_5, .ref q_6, .ref q_7, .ref q_8, .ref q_9, .ref q_10, .ref q_12])), (q_1, .inl (t 0, 4, .inl (fun _ => 0))), (q_2, .inl (t 0, 9, .inl (fun _ => 0))), (q_3, .inl (t 0, 9, .inl (fun _ => 0))), (q_4, .inl (t 0, 9, .inl (fun _ => 0))), (q_5, .inl (t 0, 9, .inl (fun _ => 0))), (q_6, .inl (t 0, 9, .inl (fun _ => 0))), (q_7, .inl (t 0, 9, .inl (fun _ => 0))), (q_8, .inl (t 0, 9, .inl (fun _ => 0))), (q_9, .inl (t 0, 9, .inl (fun _ => 0))), (q_10, .inr (5, [.int 0, .ref (u_11 0), .ref (u_11 1), .ref (u_11 2)])), (u_11 0, .inl (t 0, 8, .inl (fun _ => 0))), (u_11 1, .inl (t 0, 8, .inl (fun _ => 0))), (u_11 2, .inl (t 0, 8, .inl (fun _ => 0))), (q_12, .inr (9, [.int 0, .int 0, .int 0, .ref (u_13 0), .ref (u_13 1), .ref (u_13 2), .ref (u_13 3)])), (u_13 0, .inl (t 0, 9, .inl (fun _ => 0))), (u_13 1, .inl (t 0, 60, .inl (fun _ => 0))), (u_13 2, .inl (t 0, 60, .inl (fun _ => 0))), (u_13 3, .inl (t 0, 540, .inl (fun _ => 0)))] := hD
  have hP9 := hP.sub (ws' := [(h0, .inr (0, [.int 0, .int 0, .int 0, .int 0, .int 0, .int 0, .int 0, .int 0, .ref q_1, .ref q_2, .ref q_3, .ref q_4, .ref q_5, .ref q_6, .ref q_7, .ref q_8, .ref q_9, .ref q_10, .ref q_12])), (q_1, .inl (t 0, 4, .inl (fun _ => 0))), (q_2, .inl (t 0, 9, .inl (fun _ => 0))), (q_3, .inl (t 0, 9, .inl (fun _ => 0))), (q_4, .inl (t 0, 9, .inl (fun _ => 0))), (q_5, .inl (t 0, 9, .inl (fun _ => 0))), (q_6, .inl (t 0, 9, .inl (fun _ => 0))), (q_7, .inl (t 0, 9, .inl (fun _ => 0))), (q_8, .inl (t 0, 9, .inl (fun _ => 0))), (q_9, .inl (t 0, 9, .inl (fun _ => 0))), (q_10, .inr (5, [.int 0, .ref (u_11 0), .ref (u_11 1), .ref (u_11 2)])), (u_11 0, .inl (t 0, 8, .inl (fun _ => 0))), (u_11 1, .inl (t 0, 8, .inl (fun _ => 0))), (u_11 2, .inl (t 0, 8, .inl (fun _ => 0))), (q_12, .inr (9, [.int 0, .int 0, .int 0, .ref (u_13 0), .ref (u_13 1), .ref (u_13 2), .ref (u_13 3)])), (u_13 0, .inl (t 0, 9, .inl (fun _ => 0))), (u_13 1, .inl (t 0, 60, .inl (fun _ => 0))), (u_13 2, .inl (t 0, 60, .inl (fun _ => 0))), (u_13 3, .inl (t 0, 540, .inl (fun _ => 0)))]) [0, 1, 2, 3, 4, 5, 6, 7, 8, 9, 10, 11, 12, 13, 14, 15, 16, 17, 18] rfl
  have hD9 := hD.sub (ws' := [(h0, .inr (0, [.int 0, .int 0, .int 0, .int 0, .int 0, .int 0, .int 0, .int 0, .ref q_1, .ref q_2, .ref q_3, .ref q_4, .ref q_5, .ref q_6, .ref q_7, .ref q_8, .ref q_9, .ref q_10, .ref q_12])), (q_1, .inl (t 0, 4, .inl (fun _ => 0))), (q_2, .inl (t 0, 9, .inl (fun _ => 0))), (q_3, .inl (t 0, 9, .inl (fun _ => 0))), (q_4, .inl (t 0, 9, .inl (fun _ => 0))), (q_5, .inl (t 0, 9, .inl (fun _ => 0))), (q_6, .inl (t 0, 9, .inl (fun _ => 0))), (q_7, .inl (t 0, 9, .inl (fun _ => 0))), (q_8, .inl (t 0, 9, .inl (fun _ => 0))), (q_9, .inl (t 0, 9, .inl (fun _ => 0))), (q_10, .inr (5, [.int 0, .ref (u_11 0), .ref (u_11 1), .ref (u_11 2)])), (u_11 0, .inl (t 0, 8, .inl (fun _ => 0))), (u_11 1, .inl (t 0, 8, .inl (fun _ => 0))), (u_11 2, .inl (t 0, 8, .inl (fun _ => 0))), (q_12, .inr (9, [.int 0, .int 0, .int 0, .ref (u_13 0), .ref (u_13 1), .ref (u_13 2), .ref (u_13 3)])), (u_13 0, .inl (t 0, 9, .inl (fun _ => 0))), (u_13 1, .inl (t 0, 60, .inl (fun _ => 0))), (u_13 2, .inl (t 0, 60, .inl (fun _ => 0))), (u_13 3, .inl (t 0, 540, .inl (fun _ => 0)))]) [0, 1, 2, 3, 4, 5, 6, 7, 8, 9, 10, 11, 12, 13, 14, 15, 16, 17, 18] (by decide) rfl
  exact W.vret hx hb hr (fun t9 ht hW => ⟨⟨(fun k => [q_1, q_2, q_3, q_4, q_5, q_6, q_7, q_8, q_9, q_10, u_11 0, u_11 1, u_11 2, q_12, u_13 0, u_13 1, u_13 2, u_13 3].getD k 0), rfl, trivial, by rw [ht]; exact hP9, hD9⟩, hS.F ht⟩) hS.2.2 dX0_init_97

set_option maxHeartbeats 4000000 in
set_option maxRecDepth 100000 in
theorem lp_fillI {p : Program} {l : Launch} {e : Env} {R : Room} {s : State} {m : MethodId} {args : Array Value} {below : List Frame} {meth : Method} {c : Code} {cells slots : Nat} {Q : State → Prop} {A : Nat → Prop} {H0 : Heap} {D : va_G} {t : Nat → ClassId} {h0 : Nat}
    (hx : p.tables.exec = Jvm.exec) (hb : c.code = cJ7_fill_53178) (hts : ∀ w ∈ TB, w.before args s = true) (hown : s.vm.findClass RJ7 = some m.cls) (hK : va_K D classes (TY t) s) (hN : NW s)
    (kx : ∀ (H : Heap) (locs : List Loc), va_P D classes [(h0, .inl (t 0, 9, .inl (fun _ => 0)))] H → va_D A [(h0, .inl (t 0, 9, .inl (fun _ => 0)))] → va_S A H0 H locs → ∀ ls : Array Slot, lv_has ls 4 [(0, .ref h0)] → W p l e R s m args below meth c H locs cells slots Q (F0 m 20 ls [])) :
    ∀ (n i : Nat), i ≤ 9 → 9 + 1 ≤ i + n → ∀ (H : Heap) (locs : List Loc), va_P D classes [(h0, .inl (t 0, 9, .inl (fun _ => 0)))] H → va_D A [(h0, .inl (t 0, 9, .inl (fun _ => 0)))] → va_S A H0 H locs → ∀ ls : Array Slot, lv_has ls 4 [(2, .int (nI i)), (0, .ref h0), (1, .int 0), (3, .int 9)] → W p l e R s m args below meth c H locs cells slots Q (F0 m 5 ls []) := by
  intro n
  induction n with
  | zero =>
    intro i h1 h2
    exact absurd h2 (by omega)
  | succ n ih =>
    intro i hi hin H locs hP hD hS ls hl
    refine lv_iload_n hx hb dJ7_fill_53178_5 rfl (lv_at hl 0 rfl) ?_
    refine lv_iload_n hx hb dJ7_fill_53178_6 rfl (lv_at hl 3 rfl) ?_
    refine lv_icmp_ge (tgt := 20) hx hb dJ7_fill_53178_7 (by decide) (fun c_1 => ?_) (fun c_1 => ?_)
    · exact kx H locs hP hD hS ls (lv_sub hl [1] rfl)
    · have hlt : i < 9 := Nat.lt_of_not_le (fun q9 => c_1 (nI_le (a := 9) q9 (by omega)))
      refine lv_aload_n hx hb dJ7_fill_53178_10 rfl (lv_at hl 1 rfl) ?_
      refine lv_iload_n hx hb dJ7_fill_53178_11 rfl (lv_at hl 0 rfl) ?_
      refine lv_iload_n hx hb dJ7_fill_53178_12 rfl (lv_at hl 2 rfl) ?_
      refine x_iast0 hx hb hK hP hD hS 0 0 rfl rfl (vp_in_nI (n := i) (by omega) (by decide)) dJ7_fill_53178_13 (fun H locs hP hD hS => ?_)
      have hP : va_P D classes [(h0, .inl (t 0, 9, .inl (fun _ => 0)))] H := hP
      have hD : va_D A [(h0, .inl (t 0, 9, .inl (fun _ => 0)))] := hD
      refine lv_iinc (v := (nI (i + 1))) (lv' := [(2, .int (nI (i + 1))), (0, .ref h0), (1, .int 0), (3, .int 9)]) hx hb dJ7_fill_53178_14 hl (k := 0) rfl (nI_1 _) (by decide) rfl (fun ls hl => ?_)
      refine lv_goto (tgt := 5) hx hb dJ7_fill_53178_17 (by decide) ?_
      exact ih (i + 1) (by omega) (by omega) H locs hP hD hS ls (lv_sub hl [0, 1, 2, 3] rfl)

set_option maxHeartbeats 4000000 in
set_option maxRecDepth 100000 in
theorem c_J7_fill_53178 (l : Launch) (D : va_G) (t : Nat → ClassId) (h0 : Nat) (sz : Nat) : Met l yJ7_fill_53178 (wd yJ7_fill_53178 cJ7_fill_53178 4 none) (RM 0 0 0) (PreW D (TY t) [.ref h0, .int 0] [(h0, .inl (t 0, 9, .inl (fun _ => 0)))] sz) (va_Qv (fun _ : Nat → Nat => True) (fun (u : Nat → Nat) t9 => va_P D classes ((fun u : Nat → Nat => [(h0, .inl (t 0, 9, .inl (fun _ => 0)))]) u) t9.heap ∧ va_D (va_A [(h0, .inl (t 0, 9, .inl (fun _ => 0)))] sz) ((fun u : Nat → Nat => [(h0, .inl (t 0, 9, .inl (fun _ => 0)))]) u)) (va_A [(h0, .inl (t 0, 9, .inl (fun _ => 0)))] sz)) 0 0 (va_A [(h0, .inl (t 0, 9, .inl (fun _ => 0)))] sz) := by
  refine Met.ofW (cc := cJ7_fill_53178) (maxL := 4) (ret := none) (by decide) rfl ?_
  intro p e s m args below meth c s₁ B hml hv
  obtain ⟨rfl, hsz, hP, hK, hD0, hN⟩ := hv
  have hx := B.exec
  have hb := B.bytes
  have hr := B.returns
  have hts : ∀ w ∈ TB, w.before _ s = true := fun w h => atoms_spec (ws := wd yJ7_fill_53178 cJ7_fill_53178 4 none) B.pre w (List.mem_cons_of_mem _ h)
  have hown : s.vm.findClass RJ7 = some m.cls := findClass_of_methodNamed B.named
  have hlocks := B.notSynchronized
  have hF : CallFix p m c cJ7_fill_53178 4 s _ TB RJ7 := ⟨hx, hb, hml, hown, hts⟩
  have hl := lv_entry ([.ref h0, .int 0]) (n := 4) (Nat.le_of_ble_eq_true rfl)
  rw [lg_entry_eq]
  generalize (lg_sl ([.ref h0, .int 0]) ++ List.replicate (4 - (lg_sl ([.ref h0, .int 0])).length) Slot.unset).toArray = ls at hl ⊢
  have hl : lv_has ls 4 [(0, .ref h0), (1, .int 0)] := hl
  subst hsz
  have hD := hD0.self (sz := s.heap.size)
  generalize hAe : va_A [(h0, .inl (t 0, 9, .inl (fun _ => 0)))] s.heap.size = A at hD ⊢
  have hA : ∀ q : Nat, s.heap.size ≤ q → A q := fun q h => by rw [← hAe]; exact Or.inr h
  have hS : va_S A s.heap s.heap [] := va_S.rf
  have hP : va_P D classes [(h0, .inl (t 0, 9, .inl (fun _ => 0)))] s.heap := hP
  refine lv_iconst (v := 0) hx hb dJ7_fill_53178_0 (by decide) ?_
  refine lv_istore_n (lv' := [(2, .int 0), (0, .ref h0), (1, .int 0)]) hx hb dJ7_fill_53178_1 rfl hl (by decide) rfl (fun ls hl => ?_)
  refine lv_aload_n hx hb dJ7_fill_53178_2 rfl (lv_at hl 1 rfl) ?_
  refine va_alen (v := 9) hx hb hK hP 0 0 rfl rfl rfl dJ7_fill_53178_3 ?_
  refine lv_istore_n (lv' := [(3, .int 9), (2, .int 0), (0, .ref h0), (1, .int 0)]) hx hb dJ7_fill_53178_4 rfl hl (by decide) rfl (fun ls hl => ?_)
  refine lp_fillI hx hb hts hown hK hN (fun H locs hP hD hS ls hl => ?_) 10 0 (Nat.zero_le _) (by omega) _ _ hP hD hS ls (lv_sub hl [1, 2, 3, 0] rfl)
  have hP9 := hP.sub (ws' := [(h0, .inl (t 0, 9, .inl (fun _ => 0)))]) [0] rfl
  have hD9 := hD.sub (ws' := [(h0, .inl (t 0, 9, .inl (fun _ => 0)))]) [0] (by decide) rfl
  exact W.vret hx hb hr (fun t9 ht hW => ⟨⟨(fun k => [].getD k 0), rfl, trivial, by rw [ht]; exact hP9, hD9⟩, hS.F ht⟩) hS.2.2 dJ7_fill_53178_20

set_option maxHeartbeats 4000000 in
set_option maxRecDepth 100000 in
theorem lp_fillJ {p : Program} {l : Launch} {e : Env} {R : Room} {s : State} {m : MethodId} {args : Array Value} {below : List Frame} {meth : Method} {c : Code} {cells slots : Nat} {Q : State → Prop} {A : Nat → Prop} {H0 : Heap} {D : va_G} {t : Nat → ClassId} {h0 : Nat}
    (hx : p.tables.exec = Jvm.exec) (hb : c.code = cJ7_fill_d0a16) (hts : ∀ w ∈ TB, w.before args s = true) (hown : s.vm.findClass RJ7 = some m.cls) (hK : va_K D classes (TY t) s) (hN : NW s)
    (kx : ∀ (f : Nat → Int64) (H : Heap) (locs : List Loc), va_P D classes [(h0, .inl (t 2, 60, .inr (.inl f)))] H → va_D A [(h0, .inl (t 2, 60, .inr (.inl f)))] → va_S A H0 H locs → ∀ ls : Array Slot, lv_has ls 5 [(0, .ref h0)] → W p l e R s m args below meth c H locs cells slots Q (F0 m 22 ls [])) :
    ∀ (n i : Nat), i ≤ 60 → 60 + 1 ≤ i + n → ∀ (f : Nat → Int64) (H : Heap) (locs : List Loc), va_P D classes [(h0, .inl (t 2, 60, .inr (.inl f)))] H → va_D A [(h0, .inl (t 2, 60, .inr (.inl f)))] → va_S A H0 H locs → ∀ ls : Array Slot, lv_has ls 5 [(3, .int (nI i)), (0, .ref h0), (1, .long 0), (4, .int 60)] → W p l e R s m args below meth c H locs cells slots Q (F0 m 6 ls []) := by
  intro n
  induction n with
  | zero =>
    intro i h1 h2
    exact absurd h2 (by omega)
  | succ n ih =>
    intro i hi hin f H locs hP hD hS ls hl
    refine lv_iload_n hx hb dJ7_fill_d0a16_6 rfl (lv_at hl 0 rfl) ?_
    refine lv_iload hx hb dJ7_fill_d0a16_7 (lv_at hl 3 rfl) ?_
    refine lv_icmp_ge (tgt := 22) hx hb dJ7_fill_d0a16_9 (by decide) (fun c_1 => ?_) (fun c_1 => ?_)
    · exact kx f H locs hP hD hS ls (lv_sub hl [1] rfl)
    · have hlt : i < 60 := Nat.lt_of_not_le (fun q9 => c_1 (nI_le (a := 60) q9 (by omega)))
      refine lv_aload_n hx hb dJ7_fill_d0a16_12 rfl (lv_at hl 1 rfl) ?_
      refine lv_iload_n hx hb dJ7_fill_d0a16_13 rfl (lv_at hl 0 rfl) ?_
      refine lv_lload_n hx hb dJ7_fill_d0a16_14 rfl (lv_at hl 2 rfl) ?_
      refine x_last hx hb hK hP hD hS 0 2 rfl rfl (vp_in_nI (n := i) (by omega) (by decide)) dJ7_fill_d0a16_15 (fun g_2 H locs hP hD hS => ?_)
      have hP : va_P D classes [(h0, .inl (t 2, 60, .inr (.inl g_2)))] H := hP
      have hD : va_D A [(h0, .inl (t 2, 60, .inr (.inl g_2)))] := hD
      refine lv_iinc (v := (nI (i + 1))) (lv' := [(3, .int (nI (i + 1))), (0, .ref h0), (1, .long 0), (4, .int 60)]) hx hb dJ7_fill_d0a16_16 hl (k := 0) rfl (nI_1 _) (by decide) rfl (fun ls hl => ?_)
      refine lv_goto (tgt := 6) hx hb dJ7_fill_d0a16_19 (by decide) ?_
      exact ih (i + 1) (by omega) (by omega) g_2 H locs hP hD hS ls (lv_sub hl [0, 1, 2, 3] rfl)

set_option maxHeartbeats 4000000 in
set_option maxRecDepth 100000 in
theorem c_J7_fill_d0a16 (l : Launch) (D : va_G) (t : Nat → ClassId) (h0 : Nat) (sz : Nat) : Met l yJ7_fill_d0a16 (wd yJ7_fill_d0a16 cJ7_fill_d0a16 5 none) (RM 0 0 0) (PreW D (TY t) [.ref h0, .long 0] [(h0, .inl (t 2, 60, .inr (.inl (fun _ => 0))))] sz) (va_Qv (fun _ : Nat → Int64 => True) (fun (u : Nat → Int64) t9 => va_P D classes ((fun u : Nat → Int64 => [(h0, .inl (t 2, 60, .inr (.inl u)))]) u) t9.heap ∧ va_D (va_A [(h0, .inl (t 2, 60, .inr (.inl (fun _ => 0))))] sz) ((fun u : Nat → Int64 => [(h0, .inl (t 2, 60, .inr (.inl u)))]) u)) (va_A [(h0, .inl (t 2, 60, .inr (.inl (fun _ => 0))))] sz)) 0 0 (va_A [(h0, .inl (t 2, 60, .inr (.inl (fun _ => 0))))] sz) := by
  refine Met.ofW (cc := cJ7_fill_d0a16) (maxL := 5) (ret := none) (by decide) rfl ?_
  intro p e s m args below meth c s₁ B hml hv
  obtain ⟨rfl, hsz, hP, hK, hD0, hN⟩ := hv
  have hx := B.exec
  have hb := B.bytes
  have hr := B.returns
  have hts : ∀ w ∈ TB, w.before _ s = true := fun w h => atoms_spec (ws := wd yJ7_fill_d0a16 cJ7_fill_d0a16 5 none) B.pre w (List.mem_cons_of_mem _ h)
  have hown : s.vm.findClass RJ7 = some m.cls := findClass_of_methodNamed B.named
  have hlocks := B.notSynchronized
  have hF : CallFix p m c cJ7_fill_d0a16 5 s _ TB RJ7 := ⟨hx, hb, hml, hown, hts⟩
  have hl := lv_entry ([.ref h0, .long 0]) (n := 5) (Nat.le_of_ble_eq_true rfl)
  rw [lg_entry_eq]
  generalize (lg_sl ([.ref h0, .long 0]) ++ List.replicate (5 - (lg_sl ([.ref h0, .long 0])).length) Slot.unset).toArray = ls at hl ⊢
  have hl : lv_has ls 5 [(0, .ref h0), (1, .long 0)] := hl
  subst hsz
  have hD := hD0.self (sz := s.heap.size)
  generalize hAe : va_A [(h0, .inl (t 2, 60, .inr (.inl (fun _ => 0))))] s.heap.size = A at hD ⊢
  have hA : ∀ q : Nat, s.heap.size ≤ q → A q := fun q h => by rw [← hAe]; exact Or.inr h
  have hS : va_S A s.heap s.heap [] := va_S.rf
  have hP : va_P D classes [(h0, .inl (t 2, 60, .inr (.inl (fun _ => 0))))] s.heap := hP
  refine lv_iconst (v := 0) hx hb dJ7_fill_d0a16_0 (by decide) ?_
  refine lv_istore_n (lv' := [(3, .int 0), (0, .ref h0), (1, .long 0)]) hx hb dJ7_fill_d0a16_1 rfl hl (by decide) rfl (fun ls hl => ?_)
  refine lv_aload_n hx hb dJ7_fill_d0a16_2 rfl (lv_at hl 1 rfl) ?_
  refine va_alen (v := 60) hx hb hK hP 0 2 rfl rfl rfl dJ7_fill_d0a16_3 ?_
  refine lv_istore (lv' := [(4, .int 60), (3, .int 0), (0, .ref h0), (1, .long 0)]) hx hb dJ7_fill_d0a16_4 hl (by decide) rfl (fun ls hl => ?_)
  refine lp_fillJ hx hb hts hown hK hN (fun g9 H locs hP hD hS ls hl => ?_) 61 0 (Nat.zero_le _) (by omega) (fun _ => 0) _ _ hP hD hS ls (lv_sub hl [1, 2, 3, 0] rfl)
  have hP9 := hP.sub (ws' := [(h0, .inl (t 2, 60, .inr (.inl g9)))]) [0] rfl
  have hD9 := hD.sub (ws' := [(h0, .inl (t 2, 60, .inr (.inl g9)))]) [0] (by decide) rfl
  exact W.vret hx hb hr (fun t9 ht hW => ⟨⟨g9, rfl, trivial, by rw [ht]; exact hP9, hD9⟩, hS.F ht⟩) hS.2.2 dJ7_fill_d0a16_22

