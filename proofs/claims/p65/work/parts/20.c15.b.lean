set_option maxHeartbeats 4000000 in
set_option maxRecDepth 100000 in
theorem s_X6_isNothing_9 (l : Launch) (D : va_G) (t : Nat → ClassId) (a : Nat → Nat) (v9_1 : Int32) (v9_2 : Int32) (r9_2 : rg 0 60 v9_2) : Met l yX6_isNothing (wd yX6_isNothing cX6_isNothing 1 (some .boolean)) (RM 0 0 0) (PreP D (TY t) [.ref (a 9)] [(a 9, .inr (6, [.ref (a 13), .int v9_1, .int v9_2]))]) (QP (fun r => rg 0 1 r)) 0 0 NoF := by
  refine Met.ofW (cc := cX6_isNothing) (maxL := 1) (ret := (some .boolean)) (by decide) rfl ?_
  intro p e s m args below meth c s₁ B hml hv
  obtain ⟨rfl, hP, hK, hN⟩ := hv
  have hx := B.exec
  have hb := B.bytes
  have hr := B.returns
  have hts : ∀ w ∈ TB, w.before _ s = true := fun w h => atoms_spec (ws := wd yX6_isNothing cX6_isNothing 1 (some .boolean)) B.pre w (List.mem_cons_of_mem _ h)
  have hown : s.vm.findClass RX6 = some m.cls := findClass_of_methodNamed B.named
  have hlocks := B.notSynchronized
  have hF : CallFix p m c cX6_isNothing 1 s _ TB RX6 := ⟨hx, hb, hml, hown, hts⟩
  have hl := lv_entry ([.ref (a 9)]) (n := 1) (Nat.le_of_ble_eq_true rfl)
  rw [lg_entry_eq]
  generalize (lg_sl ([.ref (a 9)]) ++ List.replicate (1 - (lg_sl ([.ref (a 9)])).length) Slot.unset).toArray = ls at hl ⊢
  have hl : lv_has ls 1 [(0, .ref (a 9))] := hl
  have hS : va_S NoF s.heap s.heap [] := va_S.rf
  have hP : va_P D classes [(a 9, .inr (6, [.ref (a 13), .int v9_1, .int v9_2]))] s.heap := hP
  refine lv_aload_n hx hb dX6_isNothing_0 rfl (lv_at hl 0 rfl) ?_
  refine va_get (D := D) (ci := 6) (v := .int v9_1) (C := RX6) (T := TX6) (N := 3) hx hb hts iX6 hown hK hP 0 rfl rfl 1 (by decide) (hts _ m_420) (fun _ h9 => h9) rfl dX6_isNothing_1 ?_
  refine lv_iconst (v := (-1)) hx hb dX6_isNothing_4 (by decide) ?_
  refine lv_icmp_ne (tgt := 12) hx hb dX6_isNothing_5 (by decide) (fun c_1 => ?_) (fun c_1 => ?_)
  · skip
    refine lv_iconst (v := 0) hx hb dX6_isNothing_12 (by decide) ?_
    exact W.zret (v := 0) hx hb hr rfl (fun t9 ht hW => ⟨⟨0, (), rfl, (rg_w (c := 0) (d := 1) (rg_c (x := 0) (k := 0) (by decide)) (by decide) (by decide)), trivial⟩, hS.F ht⟩) hS.2.2 dX6_isNothing_13
  · skip
    have h_2 : rg (-1) (-1) v9_1 := rg_eq c_1 (rg_c (x := (-1)) (k := (-1)) (by decide))
    refine lv_iconst (v := 1) hx hb dX6_isNothing_8 (by decide) ?_
    refine lv_goto (tgt := 13) hx hb dX6_isNothing_9 (by decide) ?_
    exact W.zret (v := 1) hx hb hr rfl (fun t9 ht hW => ⟨⟨1, (), rfl, (rg_w (c := 0) (d := 1) (rg_c (x := 1) (k := 1) (by decide)) (by decide) (by decide)), trivial⟩, hS.F ht⟩) hS.2.2 dX6_isNothing_13

set_option maxHeartbeats 4000000 in
set_option maxRecDepth 100000 in
theorem s_X6_lay_9 (l : Launch) (D : va_G) (t : Nat → ClassId) (a : Nat → Nat) (v9_1 : Int32) (v9_2 : Int32) (g13 : Nat → Int64) (p0 : Int32) (p1 : Int32) (r9_2 : rg 0 60 v9_2) (rp0 : rg 0 3 p0) (rp1 : rg 0 60 p1) (sz : Nat) : Met l yX6_lay (wd yX6_lay cX6_lay 3 none) (RM 1 0 0) (PreW D (TY t) [.ref (a 9), .int p0, .int p1] [(a 9, .inr (6, [.ref (a 13), .int v9_1, .int v9_2])), (a 13, .inl (t 2, 60, .inr (.inl g13)))] sz) (va_Qv (fun (u : US) => rg 0 60 (u.1 1)) (fun (u : US) t9 => va_P D classes ((fun u : US => [(a 9, .inr (6, [.ref (a 13), .int (u.1 0), .int (u.1 1)])), (a 13, .inl (t 2, 60, .inr (.inl (u.2.2.1 0))))]) u) t9.heap ∧ va_D (va_A [(a 9, .inr (6, [.ref (a 13), .int v9_1, .int v9_2])), (a 13, .inl (t 2, 60, .inr (.inl g13)))] sz) ((fun u : US => [(a 9, .inr (6, [.ref (a 13), .int (u.1 0), .int (u.1 1)])), (a 13, .inl (t 2, 60, .inr (.inl (u.2.2.1 0))))]) u)) (va_A [(a 9, .inr (6, [.ref (a 13), .int v9_1, .int v9_2])), (a 13, .inl (t 2, 60, .inr (.inl g13)))] sz)) 0 0 (va_A [(a 9, .inr (6, [.ref (a 13), .int v9_1, .int v9_2])), (a 13, .inl (t 2, 60, .inr (.inl g13)))] sz) := by
  refine Met.ofW (cc := cX6_lay) (maxL := 3) (ret := none) (by decide) rfl ?_
  intro p e s m args below meth c s₁ B hml hv
  obtain ⟨rfl, hsz, hP, hK, hD0, hN⟩ := hv
  have hx := B.exec
  have hb := B.bytes
  have hr := B.returns
  have hts : ∀ w ∈ TB, w.before _ s = true := fun w h => atoms_spec (ws := wd yX6_lay cX6_lay 3 none) B.pre w (List.mem_cons_of_mem _ h)
  have hown : s.vm.findClass RX6 = some m.cls := findClass_of_methodNamed B.named
  have hlocks := B.notSynchronized
  have hF : CallFix p m c cX6_lay 3 s _ TB RX6 := ⟨hx, hb, hml, hown, hts⟩
  have hl := lv_entry ([.ref (a 9), .int p0, .int p1]) (n := 3) (Nat.le_of_ble_eq_true rfl)
  rw [lg_entry_eq]
  generalize (lg_sl ([.ref (a 9), .int p0, .int p1]) ++ List.replicate (3 - (lg_sl ([.ref (a 9), .int p0, .int p1])).length) Slot.unset).toArray = ls at hl ⊢
  have hl : lv_has ls 3 [(0, .ref (a 9)), (1, .int p0), (2, .int p1)] := hl
  subst hsz
  have hD := hD0.self (sz := s.heap.size)
  generalize hAe : va_A [(a 9, .inr (6, [.ref (a 13), .int v9_1, .int v9_2])), (a 13, .inl (t 2, 60, .inr (.inl g13)))] s.heap.size = A at hD ⊢
  have hA : ∀ q : Nat, s.heap.size ≤ q → A q := fun q h => by rw [← hAe]; exact Or.inr h
  have hS : va_S A s.heap s.heap [] := va_S.rf
  have hP : va_P D classes [(a 9, .inr (6, [.ref (a 13), .int v9_1, .int v9_2])), (a 13, .inl (t 2, 60, .inr (.inl g13)))] s.heap := hP
  refine lv_aload_n hx hb dX6_lay_0 rfl (lv_at hl 0 rfl) ?_
  refine lv_iload_n hx hb dX6_lay_1 rfl (lv_at hl 1 rfl) ?_
  refine va_put (D := D) (ci := 6) (v := .int p0) (ty := .int) (C := RX6) (T := TX6) (N := 3) hx hb hts iX6 tyX6 tyX6_ok nmX6 hown hK hP hD hS 0 rfl rfl 1 (by decide) (hts _ m_420) (fun _ h9 => h9) rfl (tyX6_ok 1 (by decide)) rfl rfl (Nat.le_of_ble_eq_true rfl) dX6_lay_2 (fun H locs hP hD hS => ?_)
  have hP : va_P D classes [(a 9, .inr (6, [.ref (a 13), .int p0, .int v9_2])), (a 13, .inl (t 2, 60, .inr (.inl g13)))] H := hP
  have hD : va_D A [(a 9, .inr (6, [.ref (a 13), .int p0, .int v9_2])), (a 13, .inl (t 2, 60, .inr (.inl g13)))] := hD
  refine lv_aload_n hx hb dX6_lay_5 rfl (lv_at hl 0 rfl) ?_
  refine lv_iload_n hx hb dX6_lay_6 rfl (lv_at hl 2 rfl) ?_
  refine va_put (D := D) (ci := 6) (v := .int p1) (ty := .int) (C := RX6) (T := TX6) (N := 3) hx hb hts iX6 tyX6 tyX6_ok nmX6 hown hK hP hD hS 0 rfl rfl 2 (by decide) (hts _ m_423) (fun _ h9 => h9) rfl (tyX6_ok 2 (by decide)) rfl rfl (Nat.le_of_ble_eq_true rfl) dX6_lay_7 (fun H locs hP hD hS => ?_)
  have hP : va_P D classes [(a 9, .inr (6, [.ref (a 13), .int p0, .int p1])), (a 13, .inl (t 2, 60, .inr (.inl g13)))] H := hP
  have hD : va_D A [(a 9, .inr (6, [.ref (a 13), .int p0, .int p1])), (a 13, .inl (t 2, 60, .inr (.inl g13)))] := hD
  refine lv_aload_n hx hb dX6_lay_10 rfl (lv_at hl 0 rfl) ?_
  refine va_get (D := D) (ci := 6) (v := .ref (a 13)) (C := RX6) (T := TX6) (N := 3) hx hb hts iX6 hown hK hP 0 rfl rfl 0 (by decide) (hts _ m_417) (fun _ h9 => h9) rfl dX6_lay_11 ?_
  refine lv_lconst (v := 0) hx hb dX6_lay_14 rfl ?_
  refine y_wS (wr := [(a 9, .inr (6, [.ref (a 13), .int p0, .int p1]))]) hF (s_fillJ_13 l D t a g13 0 H.size) m_1314 m_1315 m_14 m_1316 hd_J7_fill_d0a16 ⟨Nat.le_of_ble_eq_true rfl, Nat.le_of_ble_eq_true rfl⟩ hK hN hP hD hS hA [1] [0] rfl rfl (by decide) (by decide) (by decide) hl.1 rfl (Nat.le_of_ble_eq_true rfl) dX6_lay_15 ⟨Nat.zero_le _, Nat.zero_le _⟩ (fun u_1 H locs hu_1 hP hD hS => ?_)
  have hP : va_P D classes [(a 9, .inr (6, [.ref (a 13), .int p0, .int p1])), (a 13, .inl (t 2, 60, .inr (.inl (u_1.2.2.1 0))))] H := hP
  have hD : va_D A [(a 9, .inr (6, [.ref (a 13), .int p0, .int p1])), (a 13, .inl (t 2, 60, .inr (.inl (u_1.2.2.1 0))))] := hD
  have hP9 := hP.sub (ws' := [(a 9, .inr (6, [.ref (a 13), .int p0, .int p1])), (a 13, .inl (t 2, 60, .inr (.inl (u_1.2.2.1 0))))]) [0, 1] rfl
  have hD9 := hD.sub (ws' := [(a 9, .inr (6, [.ref (a 13), .int p0, .int p1])), (a 13, .inl (t 2, 60, .inr (.inl (u_1.2.2.1 0))))]) [0, 1] (by decide) rfl
  exact W.vret hx hb hr (fun t9 ht hW => ⟨⟨(fun k => [p0, p1].getD k 0, fun k => [].getD k (fun _ => 0), fun k => [(u_1.2.2.1 0)].getD k (fun _ => 0), fun _ => 0), rfl, rp1, by rw [ht]; exact hP9, hD9⟩, hS.F ht⟩) hS.2.2 dX6_lay_18

set_option maxHeartbeats 4000000 in
set_option maxRecDepth 100000 in
theorem s_X6_cut_9 (l : Launch) (D : va_G) (t : Nat → ClassId) (a : Nat → Nat) (v9_1 : Int32) (v9_2 : Int32) (p0 : Int64) (r9_2 : rg 0 60 v9_2) : Met l yX6_cut (wd yX6_cut cX6_cut 3 (some .long)) (RM 0 0 0) (PreP D (TY t) [.ref (a 9), .long p0] [(a 9, .inr (6, [.ref (a 13), .int v9_1, .int v9_2]))]) (QPl (fun _ => True)) 0 0 NoF := by
  refine Met.ofW (cc := cX6_cut) (maxL := 3) (ret := (some .long)) (by decide) rfl ?_
  intro p e s m args below meth c s₁ B hml hv
  obtain ⟨rfl, hP, hK, hN⟩ := hv
  have hx := B.exec
  have hb := B.bytes
  have hr := B.returns
  have hts : ∀ w ∈ TB, w.before _ s = true := fun w h => atoms_spec (ws := wd yX6_cut cX6_cut 3 (some .long)) B.pre w (List.mem_cons_of_mem _ h)
  have hown : s.vm.findClass RX6 = some m.cls := findClass_of_methodNamed B.named
  have hlocks := B.notSynchronized
  have hF : CallFix p m c cX6_cut 3 s _ TB RX6 := ⟨hx, hb, hml, hown, hts⟩
  have hl := lv_entry ([.ref (a 9), .long p0]) (n := 3) (Nat.le_of_ble_eq_true rfl)
  rw [lg_entry_eq]
  generalize (lg_sl ([.ref (a 9), .long p0]) ++ List.replicate (3 - (lg_sl ([.ref (a 9), .long p0])).length) Slot.unset).toArray = ls at hl ⊢
  have hl : lv_has ls 3 [(0, .ref (a 9)), (1, .long p0)] := hl
  have hS : va_S NoF s.heap s.heap [] := va_S.rf
  have hP : va_P D classes [(a 9, .inr (6, [.ref (a 13), .int v9_1, .int v9_2]))] s.heap := hP
  refine lv_aload_n hx hb dX6_cut_0 rfl (lv_at hl 0 rfl) ?_
  refine va_get (D := D) (ci := 6) (v := .int v9_1) (C := RX6) (T := TX6) (N := 3) hx hb hts iX6 hown hK hP 0 rfl rfl 1 (by decide) (hts _ m_420) (fun _ h9 => h9) rfl dX6_cut_1 ?_
  by_cases s_1 : v9_1 = 0
  · refine x_seti 0 s_1 ?_
    refine lv_tableIn (off := 28) (tgt := 32) hx hb dX6_cut_4 (by decide) (by decide) rfl (by decide) ?_
    refine lv_lload_n hx hb dX6_cut_32 rfl (lv_at hl 1 rfl) ?_
    refine lv_l2i hx hb dX6_cut_33 rfl ?_
    refine lv_topi (fun x_2 ex_2 => ?_)
    refine lv_i2b hx hb dX6_cut_34 rfl ?_
    refine lv_topi (fun x_3 ex_3 => ?_)
    refine lv_i2l hx hb dX6_cut_35 rfl ?_
    exact W.lret (v := (x_3).toInt64) hx hb hr (fun t9 ht hW => ⟨⟨(x_3).toInt64, (), rfl, trivial, trivial⟩, hS.F ht⟩) hS.2.2 dX6_cut_36
  · by_cases s_4 : v9_1 = 1
    · refine x_seti 1 s_4 ?_
      refine lv_tableIn (off := 33) (tgt := 37) hx hb dX6_cut_4 (by decide) (by decide) rfl (by decide) ?_
      refine lv_lload_n hx hb dX6_cut_37 rfl (lv_at hl 1 rfl) ?_
      refine lv_l2i hx hb dX6_cut_38 rfl ?_
      refine lv_topi (fun x_5 ex_5 => ?_)
      refine lv_i2s hx hb dX6_cut_39 rfl ?_
      refine lv_topi (fun x_6 ex_6 => ?_)
      refine lv_i2l hx hb dX6_cut_40 rfl ?_
      exact W.lret (v := (x_6).toInt64) hx hb hr (fun t9 ht hW => ⟨⟨(x_6).toInt64, (), rfl, trivial, trivial⟩, hS.F ht⟩) hS.2.2 dX6_cut_41
    · by_cases s_7 : v9_1 = 2
      · refine x_seti 2 s_7 ?_
        refine lv_tableIn (off := 38) (tgt := 42) hx hb dX6_cut_4 (by decide) (by decide) rfl (by decide) ?_
        refine lv_lload_n hx hb dX6_cut_42 rfl (lv_at hl 1 rfl) ?_
        refine lv_l2i hx hb dX6_cut_43 rfl ?_
        refine lv_topi (fun x_8 ex_8 => ?_)
        refine lv_i2l hx hb dX6_cut_44 rfl ?_
        exact W.lret (v := (x_8).toInt64) hx hb hr (fun t9 ht hW => ⟨⟨(x_8).toInt64, (), rfl, trivial, trivial⟩, hS.F ht⟩) hS.2.2 dX6_cut_45
      · refine lv_tableOut (tgt := 46) hx hb dX6_cut_4 (by have q0 := c_ne s_1 (k := 0) (by decide); have q1 := c_ne s_4 (k := 1) (by decide); have q2 := c_ne s_7 (k := 2) (by decide); omega) (by decide) ?_
        refine lv_lload_n hx hb dX6_cut_46 rfl (lv_at hl 1 rfl) ?_
        exact W.lret (v := p0) hx hb hr (fun t9 ht hW => ⟨⟨p0, (), rfl, trivial, trivial⟩, hS.F ht⟩) hS.2.2 dX6_cut_47

set_option maxHeartbeats 4000000 in
set_option maxRecDepth 100000 in
theorem s_X6_set_9 (l : Launch) (D : va_G) (t : Nat → ClassId) (a : Nat → Nat) (v9_1 : Int32) (v9_2 : Int32) (g13 : Nat → Int64) (p0 : Int32) (p1 : Int64) (r9_2 : rg 0 60 v9_2) (rp0 : rg 0 59 p0) (sz : Nat) : Met l yX6_set (wd yX6_set cX6_set 4 none) (RM 1 0 0) (PreW D (TY t) [.ref (a 9), .int p0, .long p1] [(a 9, .inr (6, [.ref (a 13), .int v9_1, .int v9_2])), (a 13, .inl (t 2, 60, .inr (.inl g13)))] sz) (va_Qv (fun (_ : US) => True) (fun (u : US) t9 => va_P D classes ((fun u : US => [(a 9, .inr (6, [.ref (a 13), .int v9_1, .int v9_2])), (a 13, .inl (t 2, 60, .inr (.inl (u.2.2.1 0))))]) u) t9.heap ∧ va_D (va_A [(a 9, .inr (6, [.ref (a 13), .int v9_1, .int v9_2])), (a 13, .inl (t 2, 60, .inr (.inl g13)))] sz) ((fun u : US => [(a 9, .inr (6, [.ref (a 13), .int v9_1, .int v9_2])), (a 13, .inl (t 2, 60, .inr (.inl (u.2.2.1 0))))]) u)) (va_A [(a 9, .inr (6, [.ref (a 13), .int v9_1, .int v9_2])), (a 13, .inl (t 2, 60, .inr (.inl g13)))] sz)) 0 0 (va_A [(a 9, .inr (6, [.ref (a 13), .int v9_1, .int v9_2])), (a 13, .inl (t 2, 60, .inr (.inl g13)))] sz) := by
  refine Met.ofW (cc := cX6_set) (maxL := 4) (ret := none) (by decide) rfl ?_
  intro p e s m args below meth c s₁ B hml hv
  obtain ⟨rfl, hsz, hP, hK, hD0, hN⟩ := hv
  have hx := B.exec
  have hb := B.bytes
  have hr := B.returns
  have hts : ∀ w ∈ TB, w.before _ s = true := fun w h => atoms_spec (ws := wd yX6_set cX6_set 4 none) B.pre w (List.mem_cons_of_mem _ h)
  have hown : s.vm.findClass RX6 = some m.cls := findClass_of_methodNamed B.named
  have hlocks := B.notSynchronized
  have hF : CallFix p m c cX6_set 4 s _ TB RX6 := ⟨hx, hb, hml, hown, hts⟩
  have hl := lv_entry ([.ref (a 9), .int p0, .long p1]) (n := 4) (Nat.le_of_ble_eq_true rfl)
  rw [lg_entry_eq]
  generalize (lg_sl ([.ref (a 9), .int p0, .long p1]) ++ List.replicate (4 - (lg_sl ([.ref (a 9), .int p0, .long p1])).length) Slot.unset).toArray = ls at hl ⊢
  have hl : lv_has ls 4 [(0, .ref (a 9)), (1, .int p0), (2, .long p1)] := hl
  subst hsz
  have hD := hD0.self (sz := s.heap.size)
  generalize hAe : va_A [(a 9, .inr (6, [.ref (a 13), .int v9_1, .int v9_2])), (a 13, .inl (t 2, 60, .inr (.inl g13)))] s.heap.size = A at hD ⊢
  have hA : ∀ q : Nat, s.heap.size ≤ q → A q := fun q h => by rw [← hAe]; exact Or.inr h
  have hS : va_S A s.heap s.heap [] := va_S.rf
  have hP : va_P D classes [(a 9, .inr (6, [.ref (a 13), .int v9_1, .int v9_2])), (a 13, .inl (t 2, 60, .inr (.inl g13)))] s.heap := hP
  refine lv_aload_n hx hb dX6_set_0 rfl (lv_at hl 0 rfl) ?_
  refine va_get (D := D) (ci := 6) (v := .ref (a 13)) (C := RX6) (T := TX6) (N := 3) hx hb hts iX6 hown hK hP 0 rfl rfl 0 (by decide) (hts _ m_417) (fun _ h9 => h9) rfl dX6_set_1 ?_
  refine lv_iload_n hx hb dX6_set_4 rfl (lv_at hl 1 rfl) ?_
  refine lv_aload_n hx hb dX6_set_5 rfl (lv_at hl 0 rfl) ?_
  refine lv_lload_n hx hb dX6_set_6 rfl (lv_at hl 2 rfl) ?_
  refine y_pVl hF (s_X6_cut_9 l D t a v9_1 v9_2 p1 r9_2) m_1325 m_1327 m_s36 m_12 m_1328 hd_X6_cut ⟨Nat.le_of_ble_eq_true rfl, Nat.le_of_ble_eq_true rfl⟩ hK hN hP hS [0] rfl 0 (ci := 6) rfl rfl rfl hl.1 rfl (Nat.le_of_ble_eq_true rfl) dX6_set_7 ⟨Nat.zero_le _, Nat.zero_le _⟩ (fun r_1 H locs hr_1 hP hS => ?_)
  refine x_last hx hb hK hP hD hS 1 2 rfl rfl (in_rg rp0 (by decide) (by decide)) dX6_set_10 (fun g_2 H locs hP hD hS => ?_)
  have hP : va_P D classes [(a 9, .inr (6, [.ref (a 13), .int v9_1, .int v9_2])), (a 13, .inl (t 2, 60, .inr (.inl g_2)))] H := hP
  have hD : va_D A [(a 9, .inr (6, [.ref (a 13), .int v9_1, .int v9_2])), (a 13, .inl (t 2, 60, .inr (.inl g_2)))] := hD
  have hP9 := hP.sub (ws' := [(a 9, .inr (6, [.ref (a 13), .int v9_1, .int v9_2])), (a 13, .inl (t 2, 60, .inr (.inl g_2)))]) [0, 1] rfl
  have hD9 := hD.sub (ws' := [(a 9, .inr (6, [.ref (a 13), .int v9_1, .int v9_2])), (a 13, .inl (t 2, 60, .inr (.inl g_2)))]) [0, 1] (by decide) rfl
  exact W.vret hx hb hr (fun t9 ht hW => ⟨⟨(fun k => [].getD k 0, fun k => [].getD k (fun _ => 0), fun k => [g_2].getD k (fun _ => 0), fun _ => 0), rfl, trivial, by rw [ht]; exact hP9, hD9⟩, hS.F ht⟩) hS.2.2 dX6_set_11

set_option maxHeartbeats 4000000 in
set_option maxRecDepth 100000 in
theorem s_X6_reaches_9 (l : Launch) (D : va_G) (t : Nat → ClassId) (a : Nat → Nat) (v9_1 : Int32) (v9_2 : Int32) (p0 : Int32) (p1 : Int32) (r9_2 : rg 0 60 v9_2) : Met l yX6_reaches (wd yX6_reaches cX6_reaches 3 (some .boolean)) (RM 0 0 0) (PreP D (TY t) [.ref (a 9), .int p0, .int p1] [(a 9, .inr (6, [.ref (a 13), .int v9_1, .int v9_2]))]) (QP (fun r => rg 0 1 r ∧ (r = 0 ∨ (0 ≤ p0.toInt ∧ 0 ≤ p1.toInt ∧ p0.toInt + p1.toInt ≤ v9_2.toInt)))) 0 0 NoF := by
  refine Met.ofW (cc := cX6_reaches) (maxL := 3) (ret := (some .boolean)) (by decide) rfl ?_
  intro p e s m args below meth c s₁ B hml hv
  obtain ⟨rfl, hP, hK, hN⟩ := hv
  have hx := B.exec
  have hb := B.bytes
  have hr := B.returns
  have hts : ∀ w ∈ TB, w.before _ s = true := fun w h => atoms_spec (ws := wd yX6_reaches cX6_reaches 3 (some .boolean)) B.pre w (List.mem_cons_of_mem _ h)
  have hown : s.vm.findClass RX6 = some m.cls := findClass_of_methodNamed B.named
  have hlocks := B.notSynchronized
  have hF : CallFix p m c cX6_reaches 3 s _ TB RX6 := ⟨hx, hb, hml, hown, hts⟩
  have hl := lv_entry ([.ref (a 9), .int p0, .int p1]) (n := 3) (Nat.le_of_ble_eq_true rfl)
  rw [lg_entry_eq]
  generalize (lg_sl ([.ref (a 9), .int p0, .int p1]) ++ List.replicate (3 - (lg_sl ([.ref (a 9), .int p0, .int p1])).length) Slot.unset).toArray = ls at hl ⊢
  have hl : lv_has ls 3 [(0, .ref (a 9)), (1, .int p0), (2, .int p1)] := hl
  have hS : va_S NoF s.heap s.heap [] := va_S.rf
  have hP : va_P D classes [(a 9, .inr (6, [.ref (a 13), .int v9_1, .int v9_2]))] s.heap := hP
  refine lv_iload_n hx hb dX6_reaches_0 rfl (lv_at hl 1 rfl) ?_
  refine lv_if_lt (tgt := 26) hx hb dX6_reaches_1 (by decide) (fun c_1 => ?_) (fun c_1 => ?_)
  · skip
    have zc_2 : (0 : Int32).toInt = 0 := rfl
    have tc_1 := t_lt c_1
    have h_3 : rg (-2147483648) (-1) p0 := ⟨((rg_any p0)).1, Int.le_trans (c_lt c_1 (rg_c (x := 0) (k := 0) (by decide))) (by decide)⟩
    refine lv_iconst (v := 0) hx hb dX6_reaches_26 (by decide) ?_
    exact W.zret (v := 0) hx hb hr rfl (fun t9 ht hW => ⟨⟨0, (), rfl, ⟨(rg_w (c := 0) (d := 1) (rg_c (x := 0) (k := 0) (by decide)) (by decide) (by decide)), (Or.inl rfl)⟩, trivial⟩, hS.F ht⟩) hS.2.2 dX6_reaches_27
  · skip
    have zc_4 : (0 : Int32).toInt = 0 := rfl
    have tc_1 := t_nlt c_1
    have h_5 : rg 0 2147483647 p0 := ⟨Int.le_trans (by decide) (c_nlt c_1 (rg_c (x := 0) (k := 0) (by decide))), ((rg_any p0)).2⟩
    refine lv_iload_n hx hb dX6_reaches_4 rfl (lv_at hl 2 rfl) ?_
    refine lv_if_lt (tgt := 26) hx hb dX6_reaches_5 (by decide) (fun c_6 => ?_) (fun c_6 => ?_)
    · skip
      have zc_7 : (0 : Int32).toInt = 0 := rfl
      have tc_6 := t_lt c_6
      have h_8 : rg (-2147483648) (-1) p1 := ⟨((rg_any p1)).1, Int.le_trans (c_lt c_6 (rg_c (x := 0) (k := 0) (by decide))) (by decide)⟩
      refine lv_iconst (v := 0) hx hb dX6_reaches_26 (by decide) ?_
      exact W.zret (v := 0) hx hb hr rfl (fun t9 ht hW => ⟨⟨0, (), rfl, ⟨(rg_w (c := 0) (d := 1) (rg_c (x := 0) (k := 0) (by decide)) (by decide) (by decide)), (Or.inl rfl)⟩, trivial⟩, hS.F ht⟩) hS.2.2 dX6_reaches_27
    · skip
      have zc_9 : (0 : Int32).toInt = 0 := rfl
      have tc_6 := t_nlt c_6
      have h_10 : rg 0 2147483647 p1 := ⟨Int.le_trans (by decide) (c_nlt c_6 (rg_c (x := 0) (k := 0) (by decide))), ((rg_any p1)).2⟩
      refine lv_iload_n hx hb dX6_reaches_8 rfl (lv_at hl 1 rfl) ?_
      refine lv_i2l hx hb dX6_reaches_9 rfl ?_
      refine lv_iload_n hx hb dX6_reaches_10 rfl (lv_at hl 2 rfl) ?_
      refine lv_i2l hx hb dX6_reaches_11 rfl ?_
      refine lv_ladd hx hb dX6_reaches_12 ?_
      refine lv_topl (fun x_11 ex_11 => ?_)
      refine lv_aload_n hx hb dX6_reaches_13 rfl (lv_at hl 0 rfl) ?_
      refine va_get (D := D) (ci := 6) (v := .int v9_2) (C := RX6) (T := TX6) (N := 3) hx hb hts iX6 hown hK hP 0 rfl rfl 2 (by decide) (hts _ m_423) (fun _ h9 => h9) rfl dX6_reaches_14 ?_
      refine lv_i2l hx hb dX6_reaches_17 rfl ?_
      refine W.lcmp hx hb dX6_reaches_18 ?_
      refine lv_topi (fun x_12 ex_12 => ?_)
      refine lv_if_gt (tgt := 26) hx hb dX6_reaches_19 (by decide) (fun c_13 => ?_) (fun c_13 => ?_)
      · skip
        have zc_14 : (0 : Int32).toInt = 0 := rfl
        have tc_13 := t_lt c_13
        have h_15 : rg 1 2147483647 x_12 := ⟨Int.le_trans (by decide) (c_ltR c_13 (rg_c (x := 0) (k := 0) (by decide))), ((rg_any x_12)).2⟩
        refine lv_iconst (v := 0) hx hb dX6_reaches_26 (by decide) ?_
        exact W.zret (v := 0) hx hb hr rfl (fun t9 ht hW => ⟨⟨0, (), rfl, ⟨(rg_w (c := 0) (d := 1) (rg_c (x := 0) (k := 0) (by decide)) (by decide) (by decide)), (Or.inl rfl)⟩, trivial⟩, hS.F ht⟩) hS.2.2 dX6_reaches_27
      · skip
        have zc_16 : (0 : Int32).toInt = 0 := rfl
        have tc_13 := t_nlt c_13
        have h_17 : rg (-2147483648) 0 x_12 := ⟨((rg_any x_12)).1, Int.le_trans (c_nltR c_13 (rg_c (x := 0) (k := 0) (by decide))) (by decide)⟩
        refine lv_iconst (v := 1) hx hb dX6_reaches_22 (by decide) ?_
        refine lv_goto (tgt := 27) hx hb dX6_reaches_23 (by decide) ?_
        exact W.zret (v := 1) hx hb hr rfl (fun t9 ht hW => ⟨⟨1, (), rfl, ⟨(rg_w (c := 0) (d := 1) (rg_c (x := 1) (k := 1) (by decide)) (by decide) (by decide)), (Or.inr ⟨by have z0 := zt0; omega, by have z0 := zt0; omega, lc_le ex_11 ex_12 (by first | exact c_13 | exact t_gtn c_13)⟩)⟩, trivial⟩, hS.F ht⟩) hS.2.2 dX6_reaches_27

set_option maxHeartbeats 4000000 in
set_option maxRecDepth 100000 in
theorem s_X11_isSlot (l : Launch) (D : va_G) (t : Nat → ClassId) (a : Nat → Nat) (p0 : Int32) : Met l yX11_isSlot (wd yX11_isSlot cX11_isSlot 1 (some .boolean)) (RM 0 0 0) (PreP D (TY t) [.int p0] []) (QP (fun r => rg 0 1 r ∧ (r = 0 ∨ (rg 0 3 p0)))) 0 0 NoF := by
  refine Met.ofW (cc := cX11_isSlot) (maxL := 1) (ret := (some .boolean)) (by decide) rfl ?_
  intro p e s m args below meth c s₁ B hml hv
  obtain ⟨rfl, hP, hK, hN⟩ := hv
  have hx := B.exec
  have hb := B.bytes
  have hr := B.returns
  have hts : ∀ w ∈ TB, w.before _ s = true := fun w h => atoms_spec (ws := wd yX11_isSlot cX11_isSlot 1 (some .boolean)) B.pre w (List.mem_cons_of_mem _ h)
  have hown : s.vm.findClass RX11 = some m.cls := findClass_of_methodNamed B.named
  have hlocks := B.notSynchronized
  have hF : CallFix p m c cX11_isSlot 1 s _ TB RX11 := ⟨hx, hb, hml, hown, hts⟩
  have hl := lv_entry ([.int p0]) (n := 1) (Nat.le_of_ble_eq_true rfl)
  rw [lg_entry_eq]
  generalize (lg_sl ([.int p0]) ++ List.replicate (1 - (lg_sl ([.int p0])).length) Slot.unset).toArray = ls at hl ⊢
  have hl : lv_has ls 1 [(0, .int p0)] := hl
  have hS : va_S NoF s.heap s.heap [] := va_S.rf
  have hP : va_P D classes [] s.heap := hP
  refine lv_iload_n hx hb dX11_isSlot_0 rfl (lv_at hl 0 rfl) ?_
  refine lv_if_lt (tgt := 13) hx hb dX11_isSlot_1 (by decide) (fun c_1 => ?_) (fun c_1 => ?_)
  · skip
    have h_2 : rg (-2147483648) (-1) p0 := ⟨((rg_any p0)).1, Int.le_trans (c_lt c_1 (rg_c (x := 0) (k := 0) (by decide))) (by decide)⟩
    refine lv_iconst (v := 0) hx hb dX11_isSlot_13 (by decide) ?_
    exact W.zret (v := 0) hx hb hr rfl (fun t9 ht hW => ⟨⟨0, (), rfl, ⟨⟨by decide, by decide⟩, Or.inl rfl⟩, trivial⟩, hS.F ht⟩) hS.2.2 dX11_isSlot_14
  · skip
    have h_3 : rg 0 2147483647 p0 := ⟨Int.le_trans (by decide) (c_nlt c_1 (rg_c (x := 0) (k := 0) (by decide))), ((rg_any p0)).2⟩
    refine lv_iload_n hx hb dX11_isSlot_4 rfl (lv_at hl 0 rfl) ?_
    refine lv_iconst (v := 4) hx hb dX11_isSlot_5 (by decide) ?_
    refine lv_icmp_ge (tgt := 13) hx hb dX11_isSlot_6 (by decide) (fun c_4 => ?_) (fun c_4 => ?_)
    · skip
      have h_5 : rg 4 2147483647 p0 := ⟨Int.le_trans (by decide) (c_leR c_4 (rg_c (x := 4) (k := 4) (by decide))), (h_3).2⟩
      refine lv_iconst (v := 0) hx hb dX11_isSlot_13 (by decide) ?_
      exact W.zret (v := 0) hx hb hr rfl (fun t9 ht hW => ⟨⟨0, (), rfl, ⟨⟨by decide, by decide⟩, Or.inl rfl⟩, trivial⟩, hS.F ht⟩) hS.2.2 dX11_isSlot_14
    · skip
      have h_6 : rg 0 3 p0 := ⟨(h_3).1, Int.le_trans (c_nleR c_4 (rg_c (x := 4) (k := 4) (by decide))) (by decide)⟩
      refine lv_iconst (v := 1) hx hb dX11_isSlot_9 (by decide) ?_
      refine lv_goto (tgt := 14) hx hb dX11_isSlot_10 (by decide) ?_
      exact W.zret (v := 1) hx hb hr rfl (fun t9 ht hW => ⟨⟨1, (), rfl, ⟨⟨by decide, by decide⟩, Or.inr h_6⟩, trivial⟩, hS.F ht⟩) hS.2.2 dX11_isSlot_14

set_option maxHeartbeats 4000000 in
set_option maxRecDepth 100000 in
theorem s_X11_isLaw (l : Launch) (D : va_G) (t : Nat → ClassId) (a : Nat → Nat) (p0 : Int32) : Met l yX11_isLaw (wd yX11_isLaw cX11_isLaw 1 (some .boolean)) (RM 0 0 0) (PreP D (TY t) [.int p0] []) (QP (fun r => rg 0 1 r ∧ (r = 0 ∨ (rg 0 3 p0)))) 0 0 NoF := by
  refine Met.ofW (cc := cX11_isLaw) (maxL := 1) (ret := (some .boolean)) (by decide) rfl ?_
  intro p e s m args below meth c s₁ B hml hv
  obtain ⟨rfl, hP, hK, hN⟩ := hv
  have hx := B.exec
  have hb := B.bytes
  have hr := B.returns
  have hts : ∀ w ∈ TB, w.before _ s = true := fun w h => atoms_spec (ws := wd yX11_isLaw cX11_isLaw 1 (some .boolean)) B.pre w (List.mem_cons_of_mem _ h)
  have hown : s.vm.findClass RX11 = some m.cls := findClass_of_methodNamed B.named
  have hlocks := B.notSynchronized
  have hF : CallFix p m c cX11_isLaw 1 s _ TB RX11 := ⟨hx, hb, hml, hown, hts⟩
  have hl := lv_entry ([.int p0]) (n := 1) (Nat.le_of_ble_eq_true rfl)
  rw [lg_entry_eq]
  generalize (lg_sl ([.int p0]) ++ List.replicate (1 - (lg_sl ([.int p0])).length) Slot.unset).toArray = ls at hl ⊢
  have hl : lv_has ls 1 [(0, .int p0)] := hl
  have hS : va_S NoF s.heap s.heap [] := va_S.rf
  have hP : va_P D classes [] s.heap := hP
  refine lv_iload_n hx hb dX11_isLaw_0 rfl (lv_at hl 0 rfl) ?_
  refine lv_if_lt (tgt := 13) hx hb dX11_isLaw_1 (by decide) (fun c_1 => ?_) (fun c_1 => ?_)
  · skip
    have h_2 : rg (-2147483648) (-1) p0 := ⟨((rg_any p0)).1, Int.le_trans (c_lt c_1 (rg_c (x := 0) (k := 0) (by decide))) (by decide)⟩
    refine lv_iconst (v := 0) hx hb dX11_isLaw_13 (by decide) ?_
    exact W.zret (v := 0) hx hb hr rfl (fun t9 ht hW => ⟨⟨0, (), rfl, ⟨⟨by decide, by decide⟩, Or.inl rfl⟩, trivial⟩, hS.F ht⟩) hS.2.2 dX11_isLaw_14
  · skip
    have h_3 : rg 0 2147483647 p0 := ⟨Int.le_trans (by decide) (c_nlt c_1 (rg_c (x := 0) (k := 0) (by decide))), ((rg_any p0)).2⟩
    refine lv_iload_n hx hb dX11_isLaw_4 rfl (lv_at hl 0 rfl) ?_
    refine lv_iconst (v := 4) hx hb dX11_isLaw_5 (by decide) ?_
    refine lv_icmp_ge (tgt := 13) hx hb dX11_isLaw_6 (by decide) (fun c_4 => ?_) (fun c_4 => ?_)
    · skip
      have h_5 : rg 4 2147483647 p0 := ⟨Int.le_trans (by decide) (c_leR c_4 (rg_c (x := 4) (k := 4) (by decide))), (h_3).2⟩
      refine lv_iconst (v := 0) hx hb dX11_isLaw_13 (by decide) ?_
      exact W.zret (v := 0) hx hb hr rfl (fun t9 ht hW => ⟨⟨0, (), rfl, ⟨⟨by decide, by decide⟩, Or.inl rfl⟩, trivial⟩, hS.F ht⟩) hS.2.2 dX11_isLaw_14
    · skip
      have h_6 : rg 0 3 p0 := ⟨(h_3).1, Int.le_trans (c_nleR c_4 (rg_c (x := 4) (k := 4) (by decide))) (by decide)⟩
      refine lv_iconst (v := 1) hx hb dX11_isLaw_9 (by decide) ?_
      refine lv_goto (tgt := 14) hx hb dX11_isLaw_10 (by decide) ?_
      exact W.zret (v := 1) hx hb hr rfl (fun t9 ht hW => ⟨⟨1, (), rfl, ⟨⟨by decide, by decide⟩, Or.inr h_6⟩, trivial⟩, hS.F ht⟩) hS.2.2 dX11_isLaw_14

set_option maxHeartbeats 4000000 in
set_option maxRecDepth 100000 in
theorem s_X11_isParty (l : Launch) (D : va_G) (t : Nat → ClassId) (a : Nat → Nat) (p0 : Int32) : Met l yX11_isParty (wd yX11_isParty cX11_isParty 1 (some .boolean)) (RM 0 0 0) (PreP D (TY t) [.int p0] []) (QP (fun r => rg 0 1 r ∧ (r = 0 ∨ (rg 0 3 p0)))) 0 0 NoF := by
  refine Met.ofW (cc := cX11_isParty) (maxL := 1) (ret := (some .boolean)) (by decide) rfl ?_
  intro p e s m args below meth c s₁ B hml hv
  obtain ⟨rfl, hP, hK, hN⟩ := hv
  have hx := B.exec
  have hb := B.bytes
  have hr := B.returns
  have hts : ∀ w ∈ TB, w.before _ s = true := fun w h => atoms_spec (ws := wd yX11_isParty cX11_isParty 1 (some .boolean)) B.pre w (List.mem_cons_of_mem _ h)
  have hown : s.vm.findClass RX11 = some m.cls := findClass_of_methodNamed B.named
  have hlocks := B.notSynchronized
  have hF : CallFix p m c cX11_isParty 1 s _ TB RX11 := ⟨hx, hb, hml, hown, hts⟩
  have hl := lv_entry ([.int p0]) (n := 1) (Nat.le_of_ble_eq_true rfl)
  rw [lg_entry_eq]
  generalize (lg_sl ([.int p0]) ++ List.replicate (1 - (lg_sl ([.int p0])).length) Slot.unset).toArray = ls at hl ⊢
  have hl : lv_has ls 1 [(0, .int p0)] := hl
  have hS : va_S NoF s.heap s.heap [] := va_S.rf
  have hP : va_P D classes [] s.heap := hP
  refine lv_iload_n hx hb dX11_isParty_0 rfl (lv_at hl 0 rfl) ?_
  refine lv_if_lt (tgt := 13) hx hb dX11_isParty_1 (by decide) (fun c_1 => ?_) (fun c_1 => ?_)
  · skip
    have h_2 : rg (-2147483648) (-1) p0 := ⟨((rg_any p0)).1, Int.le_trans (c_lt c_1 (rg_c (x := 0) (k := 0) (by decide))) (by decide)⟩
    refine lv_iconst (v := 0) hx hb dX11_isParty_13 (by decide) ?_
    exact W.zret (v := 0) hx hb hr rfl (fun t9 ht hW => ⟨⟨0, (), rfl, ⟨⟨by decide, by decide⟩, Or.inl rfl⟩, trivial⟩, hS.F ht⟩) hS.2.2 dX11_isParty_14
  · skip
    have h_3 : rg 0 2147483647 p0 := ⟨Int.le_trans (by decide) (c_nlt c_1 (rg_c (x := 0) (k := 0) (by decide))), ((rg_any p0)).2⟩
    refine lv_iload_n hx hb dX11_isParty_4 rfl (lv_at hl 0 rfl) ?_
    refine lv_iconst (v := 4) hx hb dX11_isParty_5 (by decide) ?_
    refine lv_icmp_ge (tgt := 13) hx hb dX11_isParty_6 (by decide) (fun c_4 => ?_) (fun c_4 => ?_)
    · skip
      have h_5 : rg 4 2147483647 p0 := ⟨Int.le_trans (by decide) (c_leR c_4 (rg_c (x := 4) (k := 4) (by decide))), (h_3).2⟩
      refine lv_iconst (v := 0) hx hb dX11_isParty_13 (by decide) ?_
      exact W.zret (v := 0) hx hb hr rfl (fun t9 ht hW => ⟨⟨0, (), rfl, ⟨⟨by decide, by decide⟩, Or.inl rfl⟩, trivial⟩, hS.F ht⟩) hS.2.2 dX11_isParty_14
    · skip
      have h_6 : rg 0 3 p0 := ⟨(h_3).1, Int.le_trans (c_nleR c_4 (rg_c (x := 4) (k := 4) (by decide))) (by decide)⟩
      refine lv_iconst (v := 1) hx hb dX11_isParty_9 (by decide) ?_
      refine lv_goto (tgt := 14) hx hb dX11_isParty_10 (by decide) ?_
      exact W.zret (v := 1) hx hb hr rfl (fun t9 ht hW => ⟨⟨1, (), rfl, ⟨⟨by decide, by decide⟩, Or.inr h_6⟩, trivial⟩, hS.F ht⟩) hS.2.2 dX11_isParty_14

set_option maxHeartbeats 4000000 in
set_option maxRecDepth 100000 in
theorem s_X11_isSeed (l : Launch) (D : va_G) (t : Nat → ClassId) (a : Nat → Nat) (p0 : Int32) : Met l yX11_isSeed (wd yX11_isSeed cX11_isSeed 1 (some .boolean)) (RM 0 0 0) (PreP D (TY t) [.int p0] []) (QP (fun r => rg 0 1 r ∧ (r = 0 ∨ (rg 0 2000000000 p0)))) 0 0 NoF := by
  refine Met.ofW (cc := cX11_isSeed) (maxL := 1) (ret := (some .boolean)) (by decide) rfl ?_
  intro p e s m args below meth c s₁ B hml hv
  obtain ⟨rfl, hP, hK, hN⟩ := hv
  have hx := B.exec
  have hb := B.bytes
  have hr := B.returns
  have hts : ∀ w ∈ TB, w.before _ s = true := fun w h => atoms_spec (ws := wd yX11_isSeed cX11_isSeed 1 (some .boolean)) B.pre w (List.mem_cons_of_mem _ h)
  have hown : s.vm.findClass RX11 = some m.cls := findClass_of_methodNamed B.named
  have hlocks := B.notSynchronized
  have hF : CallFix p m c cX11_isSeed 1 s _ TB RX11 := ⟨hx, hb, hml, hown, hts⟩
  have hl := lv_entry ([.int p0]) (n := 1) (Nat.le_of_ble_eq_true rfl)
  rw [lg_entry_eq]
  generalize (lg_sl ([.int p0]) ++ List.replicate (1 - (lg_sl ([.int p0])).length) Slot.unset).toArray = ls at hl ⊢
  have hl : lv_has ls 1 [(0, .int p0)] := hl
  have hS : va_S NoF s.heap s.heap [] := va_S.rf
  have hP : va_P D classes [] s.heap := hP
  refine lv_iload_n hx hb dX11_isSeed_0 rfl (lv_at hl 0 rfl) ?_
  refine lv_if_lt (tgt := 15) hx hb dX11_isSeed_1 (by decide) (fun c_1 => ?_) (fun c_1 => ?_)
  · skip
    have h_2 : rg (-2147483648) (-1) p0 := ⟨((rg_any p0)).1, Int.le_trans (c_lt c_1 (rg_c (x := 0) (k := 0) (by decide))) (by decide)⟩
    refine lv_iconst (v := 0) hx hb dX11_isSeed_15 (by decide) ?_
    exact W.zret (v := 0) hx hb hr rfl (fun t9 ht hW => ⟨⟨0, (), rfl, ⟨⟨by decide, by decide⟩, Or.inl rfl⟩, trivial⟩, hS.F ht⟩) hS.2.2 dX11_isSeed_16
  · skip
    have h_3 : rg 0 2147483647 p0 := ⟨Int.le_trans (by decide) (c_nlt c_1 (rg_c (x := 0) (k := 0) (by decide))), ((rg_any p0)).2⟩
    refine lv_iload_n hx hb dX11_isSeed_4 rfl (lv_at hl 0 rfl) ?_
    refine lv_ldcw (v := 2000000000) hx hb hown (hts _ m_1272) dX11_isSeed_5 ?_
    refine lv_icmp_gt (tgt := 15) hx hb dX11_isSeed_8 (by decide) (fun c_4 => ?_) (fun c_4 => ?_)
    · skip
      have h_5 : rg 2000000001 2147483647 p0 := ⟨Int.le_trans (by decide) (c_ltR c_4 (rg_c (x := 2000000000) (k := 2000000000) (by decide))), (h_3).2⟩
      refine lv_iconst (v := 0) hx hb dX11_isSeed_15 (by decide) ?_
      exact W.zret (v := 0) hx hb hr rfl (fun t9 ht hW => ⟨⟨0, (), rfl, ⟨⟨by decide, by decide⟩, Or.inl rfl⟩, trivial⟩, hS.F ht⟩) hS.2.2 dX11_isSeed_16
    · skip
      have h_6 : rg 0 2000000000 p0 := ⟨(h_3).1, Int.le_trans (c_nltR c_4 (rg_c (x := 2000000000) (k := 2000000000) (by decide))) (by decide)⟩
      refine lv_iconst (v := 1) hx hb dX11_isSeed_11 (by decide) ?_
      refine lv_goto (tgt := 16) hx hb dX11_isSeed_12 (by decide) ?_
      exact W.zret (v := 1) hx hb hr rfl (fun t9 ht hW => ⟨⟨1, (), rfl, ⟨⟨by decide, by decide⟩, Or.inr h_6⟩, trivial⟩, hS.F ht⟩) hS.2.2 dX11_isSeed_16

set_option maxHeartbeats 4000000 in
set_option maxRecDepth 100000 in
theorem s_X11_isSet (l : Launch) (D : va_G) (t : Nat → ClassId) (a : Nat → Nat) (p0 : Int32) (p1 : Int32) : Met l yX11_isSet (wd yX11_isSet cX11_isSet 2 (some .boolean)) (RM 0 0 0) (PreP D (TY t) [.int p0, .int p1] []) (QP (fun r => rg 0 1 r)) 0 0 NoF := by
  refine Met.ofW (cc := cX11_isSet) (maxL := 2) (ret := (some .boolean)) (by decide) rfl ?_
  intro p e s m args below meth c s₁ B hml hv
  obtain ⟨rfl, hP, hK, hN⟩ := hv
  have hx := B.exec
  have hb := B.bytes
  have hr := B.returns
  have hts : ∀ w ∈ TB, w.before _ s = true := fun w h => atoms_spec (ws := wd yX11_isSet cX11_isSet 2 (some .boolean)) B.pre w (List.mem_cons_of_mem _ h)
  have hown : s.vm.findClass RX11 = some m.cls := findClass_of_methodNamed B.named
  have hlocks := B.notSynchronized
  have hF : CallFix p m c cX11_isSet 2 s _ TB RX11 := ⟨hx, hb, hml, hown, hts⟩
  have hl := lv_entry ([.int p0, .int p1]) (n := 2) (Nat.le_of_ble_eq_true rfl)
  rw [lg_entry_eq]
  generalize (lg_sl ([.int p0, .int p1]) ++ List.replicate (2 - (lg_sl ([.int p0, .int p1])).length) Slot.unset).toArray = ls at hl ⊢
  have hl : lv_has ls 2 [(0, .int p0), (1, .int p1)] := hl
  have hS : va_S NoF s.heap s.heap [] := va_S.rf
  have hP : va_P D classes [] s.heap := hP
  refine lv_iload_n hx hb dX11_isSet_0 rfl (lv_at hl 0 rfl) ?_
  refine lv_if_lt (tgt := 15) hx hb dX11_isSet_1 (by decide) (fun c_1 => ?_) (fun c_1 => ?_)
  · skip
    have h_2 : rg (-2147483648) (-1) p0 := ⟨((rg_any p0)).1, Int.le_trans (c_lt c_1 (rg_c (x := 0) (k := 0) (by decide))) (by decide)⟩
    refine lv_iconst (v := 0) hx hb dX11_isSet_15 (by decide) ?_
    exact W.zret (v := 0) hx hb hr rfl (fun t9 ht hW => ⟨⟨0, (), rfl, (rg_w (c := 0) (d := 1) (rg_c (x := 0) (k := 0) (by decide)) (by decide) (by decide)), trivial⟩, hS.F ht⟩) hS.2.2 dX11_isSet_16
  · skip
    have h_3 : rg 0 2147483647 p0 := ⟨Int.le_trans (by decide) (c_nlt c_1 (rg_c (x := 0) (k := 0) (by decide))), ((rg_any p0)).2⟩
    refine lv_iload_n hx hb dX11_isSet_4 rfl (lv_at hl 0 rfl) ?_
    refine lv_iconst (v := 1) hx hb dX11_isSet_5 (by decide) ?_
    refine lv_iload_n hx hb dX11_isSet_6 rfl (lv_at hl 1 rfl) ?_
    refine lv_ishl hx hb dX11_isSet_7 ?_
    refine lv_topi (fun x_4 ex_4 => ?_)
    refine lv_icmp_ge (tgt := 15) hx hb dX11_isSet_8 (by decide) (fun c_5 => ?_) (fun c_5 => ?_)
    · skip
      refine lv_iconst (v := 0) hx hb dX11_isSet_15 (by decide) ?_
      exact W.zret (v := 0) hx hb hr rfl (fun t9 ht hW => ⟨⟨0, (), rfl, (rg_w (c := 0) (d := 1) (rg_c (x := 0) (k := 0) (by decide)) (by decide) (by decide)), trivial⟩, hS.F ht⟩) hS.2.2 dX11_isSet_16
    · skip
      have h_6 : rg 0 2147483646 p0 := ⟨(h_3).1, Int.le_trans (c_nleR c_5 (rg_any x_4)) (by decide)⟩
      have h_7 : rg 1 2147483647 x_4 := ⟨Int.le_trans (by decide) (c_nle c_5 h_3), ((rg_any x_4)).2⟩
      refine lv_iconst (v := 1) hx hb dX11_isSet_11 (by decide) ?_
      refine lv_goto (tgt := 16) hx hb dX11_isSet_12 (by decide) ?_
      exact W.zret (v := 1) hx hb hr rfl (fun t9 ht hW => ⟨⟨1, (), rfl, (rg_w (c := 0) (d := 1) (rg_c (x := 1) (k := 1) (by decide)) (by decide) (by decide)), trivial⟩, hS.F ht⟩) hS.2.2 dX11_isSet_16

set_option maxHeartbeats 4000000 in
set_option maxRecDepth 100000 in
theorem s_X11_filledSlots (l : Launch) (D : va_G) (t : Nat → ClassId) (a : Nat → Nat) (v0_5 : Int32) (v6_1 : Int32) (v6_2 : Int32) (v7_1 : Int32) (v7_2 : Int32) (v8_1 : Int32) (v8_2 : Int32) (v9_1 : Int32) (v9_2 : Int32) (r6_2 : rg 0 60 v6_2) (r7_2 : rg 0 60 v7_2) (r8_2 : rg 0 60 v8_2) (r9_2 : rg 0 60 v9_2) : Met l yX11_filledSlots (wd yX11_filledSlots cX11_filledSlots 3 (some .int)) (RM 1 0 0) (PreP D (TY t) [.ref (a 0)] [(a 0, .inr (11, [.ref (a 1), .ref (a 20), .ref (a 3), .ref (a 40), .ref (a 4), .int v0_5, .ref (a 5), .ref (a 14), .ref (a 15), .ref (a 16), .ref (a 17), .ref (a 18)])), (a 5, .inl (t 5, 4, .inr (.inr (.inr (.inr ((va_up (va_up (va_up (va_up (fun _ => none) 0 (some (a 6))) 1 (some (a 7))) 2 (some (a 8))) 3 (some (a 9))))))))), (a 6, .inr (6, [.ref (a 10), .int v6_1, .int v6_2])), (a 7, .inr (6, [.ref (a 11), .int v7_1, .int v7_2])), (a 8, .inr (6, [.ref (a 12), .int v8_1, .int v8_2])), (a 9, .inr (6, [.ref (a 13), .int v9_1, .int v9_2]))]) (QP (fun _ => True)) 0 0 NoF := by
  refine Met.ofW (cc := cX11_filledSlots) (maxL := 3) (ret := (some .int)) (by decide) rfl ?_
  intro p e s m args below meth c s₁ B hml hv
  obtain ⟨rfl, hP, hK, hN⟩ := hv
  have hx := B.exec
  have hb := B.bytes
  have hr := B.returns
  have hts : ∀ w ∈ TB, w.before _ s = true := fun w h => atoms_spec (ws := wd yX11_filledSlots cX11_filledSlots 3 (some .int)) B.pre w (List.mem_cons_of_mem _ h)
  have hown : s.vm.findClass RX11 = some m.cls := findClass_of_methodNamed B.named
  have hlocks := B.notSynchronized
  have hF : CallFix p m c cX11_filledSlots 3 s _ TB RX11 := ⟨hx, hb, hml, hown, hts⟩
  have hl := lv_entry ([.ref (a 0)]) (n := 3) (Nat.le_of_ble_eq_true rfl)
  rw [lg_entry_eq]
  generalize (lg_sl ([.ref (a 0)]) ++ List.replicate (3 - (lg_sl ([.ref (a 0)])).length) Slot.unset).toArray = ls at hl ⊢
  have hl : lv_has ls 3 [(0, .ref (a 0))] := hl
  have hS : va_S NoF s.heap s.heap [] := va_S.rf
  have hP : va_P D classes [(a 0, .inr (11, [.ref (a 1), .ref (a 20), .ref (a 3), .ref (a 40), .ref (a 4), .int v0_5, .ref (a 5), .ref (a 14), .ref (a 15), .ref (a 16), .ref (a 17), .ref (a 18)])), (a 5, .inl (t 5, 4, .inr (.inr (.inr (.inr ((va_up (va_up (va_up (va_up (fun _ => none) 0 (some (a 6))) 1 (some (a 7))) 2 (some (a 8))) 3 (some (a 9))))))))), (a 6, .inr (6, [.ref (a 10), .int v6_1, .int v6_2])), (a 7, .inr (6, [.ref (a 11), .int v7_1, .int v7_2])), (a 8, .inr (6, [.ref (a 12), .int v8_1, .int v8_2])), (a 9, .inr (6, [.ref (a 13), .int v9_1, .int v9_2]))] s.heap := hP
  refine lv_iconst (v := 0) hx hb dX11_filledSlots_0 (by decide) ?_
  refine lv_istore_n (lv' := [(1, .int 0), (0, .ref (a 0))]) hx hb dX11_filledSlots_1 rfl hl (by decide) rfl (fun ls hl => ?_)
  refine lv_iconst (v := 0) hx hb dX11_filledSlots_2 (by decide) ?_
  refine lv_istore_n (lv' := [(2, .int 0), (1, .int 0), (0, .ref (a 0))]) hx hb dX11_filledSlots_3 rfl hl (by decide) rfl (fun ls hl => ?_)
  refine loopW (α := US) (fun n y_1 H locs ls => 4 < (y_1.1 0).toInt + (n : Int) ∧ rg 0 4 (y_1.1 0) ∧ va_P D classes [(a 0, .inr (11, [.ref (a 1), .ref (a 20), .ref (a 3), .ref (a 40), .ref (a 4), .int v0_5, .ref (a 5), .ref (a 14), .ref (a 15), .ref (a 16), .ref (a 17), .ref (a 18)])), (a 5, .inl (t 5, 4, .inr (.inr (.inr (.inr ((va_up (va_up (va_up (va_up (fun _ => none) 0 (some (a 6))) 1 (some (a 7))) 2 (some (a 8))) 3 (some (a 9))))))))), (a 6, .inr (6, [.ref (a 10), .int v6_1, .int v6_2])), (a 7, .inr (6, [.ref (a 11), .int v7_1, .int v7_2])), (a 8, .inr (6, [.ref (a 12), .int v8_1, .int v8_2])), (a 9, .inr (6, [.ref (a 13), .int v9_1, .int v9_2]))] H ∧ va_S NoF s.heap H locs ∧ lv_has ls 3 [(2, .int (y_1.1 0)), (1, .int (y_1.1 1)), (0, .ref (a 0))]) 4 (fun y_1 => []) (fun _ _ _ _ h9 => m_0 h9.1 h9.2.1) (fun n ih_3 y_1 H locs ls hI => ?_) 5 (fun k => [0, 0].getD k 0, fun k => [].getD k (fun _ => 0), fun k => [].getD k (fun _ => 0), fun k => [].getD k 0) ⟨(m_i (rg_c (x := 0) (k := 0) (by decide)) (by decide)), (rg_w (c := 0) (d := 4) (rg_c (x := 0) (k := 0) (by decide)) (by decide) (by decide)), hP, hS, (lv_sub hl [0, 1, 2] rfl)⟩
  obtain ⟨me_4, h_2, hP, hS, hl⟩ := hI
  refine lv_iload_n hx hb dX11_filledSlots_4 rfl (lv_at hl 0 rfl) ?_
  refine lv_iconst (v := 4) hx hb dX11_filledSlots_5 (by decide) ?_
  refine lv_icmp_ge (tgt := 30) hx hb dX11_filledSlots_6 (by decide) (fun c_5 => ?_) (fun c_5 => ?_)
  · skip
    have h_6 : rg 4 4 (y_1.1 0) := ⟨Int.le_trans (by decide) (c_leR c_5 (rg_c (x := 4) (k := 4) (by decide))), (h_2).2⟩
    refine lv_iload_n hx hb dX11_filledSlots_30 rfl (lv_at hl 1 rfl) ?_
    exact W.iret (v := (y_1.1 1)) hx hb hr (fun t9 ht hW => ⟨⟨(y_1.1 1), (), rfl, trivial, trivial⟩, hS.F ht⟩) hS.2.2 dX11_filledSlots_31
  · skip
    have h_7 : rg 0 3 (y_1.1 0) := ⟨(h_2).1, Int.le_trans (c_nleR c_5 (rg_c (x := 4) (k := 4) (by decide))) (by decide)⟩
    refine lv_aload_n hx hb dX11_filledSlots_9 rfl (lv_at hl 2 rfl) ?_
    refine va_get (D := D) (ci := 11) (v := .ref (a 5)) (C := RX11) (T := TX11) (N := 12) hx hb hts iX11 hown hK hP 0 rfl rfl 6 (by decide) (hts _ m_439) (fun _ h9 => h9) rfl dX11_filledSlots_10 ?_
    refine lv_iload_n hx hb dX11_filledSlots_13 rfl (lv_at hl 0 rfl) ?_
    obtain ⟨j_8, hj_8, ej_8, bj_8⟩ := rg_nat h_7
    obtain rfl | rfl | rfl | rfl : j_8 = 0 ∨ j_8 = 1 ∨ j_8 = 2 ∨ j_8 = 3 := by omega
    · refine x_seti (nI 0) ej_8 ?_
      refine va_aldq hx hb hK hP 1 5 rfl rfl (vp_in_nI (n := 0) (by decide) (by decide)) dX11_filledSlots_14 ?_
      refine W.eq (g2 := F0 m 15 ls [.ref (a 6)]) rfl ?_
      refine y_pV hF (s_X6_isNothing_6 l D t a v6_1 v6_2 r6_2) m_1223 m_1224 m_1225 m_12 m_1226 hd_X6_isNothing ⟨Nat.le_of_ble_eq_true rfl, Nat.le_of_ble_eq_true rfl⟩ hK hN hP hS [2] rfl 0 (ci := 6) rfl rfl rfl hl.1 rfl (Nat.le_of_ble_eq_true rfl) dX11_filledSlots_15 ⟨Nat.zero_le _, Nat.zero_le _⟩ (fun r_9 H locs hr_9 hP hS => ?_)
      refine lv_if_ne (tgt := 24) hx hb dX11_filledSlots_18 (by decide) (fun c_10 => ?_) (fun c_10 => ?_)
      · skip
        have h_11 : rg 1 1 r_9 := rg_w (rg_neL hr_9 c_10 (by decide)) (by decide) (by decide)
        obtain ⟨x_12, ex_12⟩ : ∃ y9 : Int32, y9 = (y_1.1 0) + 1 := ⟨_, rfl⟩
        have hx_12 : rg 1 4 x_12 := by rw [ex_12]; exact rg_add h_7 (rg_c (x := 1) (k := 1) (by decide)) (by decide) (by decide) (by decide) (by decide)
        have tx_12 : x_12.toInt = (y_1.1 0).toInt + 1 := by rw [ex_12]; exact inc_tk h_7 (by decide) (by decide) (by decide)
        refine lv_iinc (v := x_12) (lv' := [(2, .int x_12), (1, .int (y_1.1 1)), (0, .ref (a 0))]) hx hb dX11_filledSlots_24 hl (k := 0) rfl (by rw [ex_12]; rfl) (by decide) rfl (fun ls hl => ?_)
        refine lv_goto (tgt := 4) hx hb dX11_filledSlots_27 (by decide) ?_
        exact ih_3 (fun k => [x_12, (y_1.1 1)].getD k 0, fun k => [].getD k (fun _ => 0), fun k => [].getD k (fun _ => 0), fun k => [].getD k 0) _ _ ls ⟨(m_upk me_4 tx_12 (by decide)), (rg_w (c := 0) (d := 4) hx_12 (by decide) (by decide)), hP, hS, (lv_sub hl [0, 1, 2] rfl)⟩
      · skip
        have h_13 : rg 0 0 r_9 := rg_eq c_10 (rg_c (x := 0) (k := 0) (by decide))
        obtain ⟨x_14, ex_14⟩ : ∃ y9 : Int32, y9 = (y_1.1 1) + 1 := ⟨_, rfl⟩
        refine lv_iinc (v := x_14) (lv' := [(1, .int x_14), (2, .int (y_1.1 0)), (0, .ref (a 0))]) hx hb dX11_filledSlots_21 hl (k := 1) rfl (by rw [ex_14]; rfl) (by decide) rfl (fun ls hl => ?_)
        obtain ⟨x_15, ex_15⟩ : ∃ y9 : Int32, y9 = (y_1.1 0) + 1 := ⟨_, rfl⟩
        have hx_15 : rg 1 4 x_15 := by rw [ex_15]; exact rg_add h_7 (rg_c (x := 1) (k := 1) (by decide)) (by decide) (by decide) (by decide) (by decide)
        have tx_15 : x_15.toInt = (y_1.1 0).toInt + 1 := by rw [ex_15]; exact inc_tk h_7 (by decide) (by decide) (by decide)
        refine lv_iinc (v := x_15) (lv' := [(2, .int x_15), (1, .int x_14), (0, .ref (a 0))]) hx hb dX11_filledSlots_24 hl (k := 1) rfl (by rw [ex_15]; rfl) (by decide) rfl (fun ls hl => ?_)
        refine lv_goto (tgt := 4) hx hb dX11_filledSlots_27 (by decide) ?_
        exact ih_3 (fun k => [x_15, x_14].getD k 0, fun k => [].getD k (fun _ => 0), fun k => [].getD k (fun _ => 0), fun k => [].getD k 0) _ _ ls ⟨(m_upk me_4 tx_15 (by decide)), (rg_w (c := 0) (d := 4) hx_15 (by decide) (by decide)), hP, hS, (lv_sub hl [0, 1, 2] rfl)⟩
    · refine x_seti (nI 1) ej_8 ?_
      refine va_aldq hx hb hK hP 1 5 rfl rfl (vp_in_nI (n := 1) (by decide) (by decide)) dX11_filledSlots_14 ?_
      refine W.eq (g2 := F0 m 15 ls [.ref (a 7)]) rfl ?_
      refine y_pV hF (s_X6_isNothing_7 l D t a v7_1 v7_2 r7_2) m_1223 m_1224 m_1225 m_12 m_1226 hd_X6_isNothing ⟨Nat.le_of_ble_eq_true rfl, Nat.le_of_ble_eq_true rfl⟩ hK hN hP hS [3] rfl 0 (ci := 6) rfl rfl rfl hl.1 rfl (Nat.le_of_ble_eq_true rfl) dX11_filledSlots_15 ⟨Nat.zero_le _, Nat.zero_le _⟩ (fun r_16 H locs hr_16 hP hS => ?_)
      refine lv_if_ne (tgt := 24) hx hb dX11_filledSlots_18 (by decide) (fun c_17 => ?_) (fun c_17 => ?_)
      · skip
        have h_18 : rg 1 1 r_16 := rg_w (rg_neL hr_16 c_17 (by decide)) (by decide) (by decide)
        obtain ⟨x_19, ex_19⟩ : ∃ y9 : Int32, y9 = (y_1.1 0) + 1 := ⟨_, rfl⟩
        have hx_19 : rg 1 4 x_19 := by rw [ex_19]; exact rg_add h_7 (rg_c (x := 1) (k := 1) (by decide)) (by decide) (by decide) (by decide) (by decide)
        have tx_19 : x_19.toInt = (y_1.1 0).toInt + 1 := by rw [ex_19]; exact inc_tk h_7 (by decide) (by decide) (by decide)
        refine lv_iinc (v := x_19) (lv' := [(2, .int x_19), (1, .int (y_1.1 1)), (0, .ref (a 0))]) hx hb dX11_filledSlots_24 hl (k := 0) rfl (by rw [ex_19]; rfl) (by decide) rfl (fun ls hl => ?_)
        refine lv_goto (tgt := 4) hx hb dX11_filledSlots_27 (by decide) ?_
        exact ih_3 (fun k => [x_19, (y_1.1 1)].getD k 0, fun k => [].getD k (fun _ => 0), fun k => [].getD k (fun _ => 0), fun k => [].getD k 0) _ _ ls ⟨(m_upk me_4 tx_19 (by decide)), (rg_w (c := 0) (d := 4) hx_19 (by decide) (by decide)), hP, hS, (lv_sub hl [0, 1, 2] rfl)⟩
      · skip
        have h_20 : rg 0 0 r_16 := rg_eq c_17 (rg_c (x := 0) (k := 0) (by decide))
        obtain ⟨x_21, ex_21⟩ : ∃ y9 : Int32, y9 = (y_1.1 1) + 1 := ⟨_, rfl⟩
        refine lv_iinc (v := x_21) (lv' := [(1, .int x_21), (2, .int (y_1.1 0)), (0, .ref (a 0))]) hx hb dX11_filledSlots_21 hl (k := 1) rfl (by rw [ex_21]; rfl) (by decide) rfl (fun ls hl => ?_)
        obtain ⟨x_22, ex_22⟩ : ∃ y9 : Int32, y9 = (y_1.1 0) + 1 := ⟨_, rfl⟩
        have hx_22 : rg 1 4 x_22 := by rw [ex_22]; exact rg_add h_7 (rg_c (x := 1) (k := 1) (by decide)) (by decide) (by decide) (by decide) (by decide)
        have tx_22 : x_22.toInt = (y_1.1 0).toInt + 1 := by rw [ex_22]; exact inc_tk h_7 (by decide) (by decide) (by decide)
        refine lv_iinc (v := x_22) (lv' := [(2, .int x_22), (1, .int x_21), (0, .ref (a 0))]) hx hb dX11_filledSlots_24 hl (k := 1) rfl (by rw [ex_22]; rfl) (by decide) rfl (fun ls hl => ?_)
        refine lv_goto (tgt := 4) hx hb dX11_filledSlots_27 (by decide) ?_
        exact ih_3 (fun k => [x_22, x_21].getD k 0, fun k => [].getD k (fun _ => 0), fun k => [].getD k (fun _ => 0), fun k => [].getD k 0) _ _ ls ⟨(m_upk me_4 tx_22 (by decide)), (rg_w (c := 0) (d := 4) hx_22 (by decide) (by decide)), hP, hS, (lv_sub hl [0, 1, 2] rfl)⟩
    · refine x_seti (nI 2) ej_8 ?_
      refine va_aldq hx hb hK hP 1 5 rfl rfl (vp_in_nI (n := 2) (by decide) (by decide)) dX11_filledSlots_14 ?_
      refine W.eq (g2 := F0 m 15 ls [.ref (a 8)]) rfl ?_
      refine y_pV hF (s_X6_isNothing_8 l D t a v8_1 v8_2 r8_2) m_1223 m_1224 m_1225 m_12 m_1226 hd_X6_isNothing ⟨Nat.le_of_ble_eq_true rfl, Nat.le_of_ble_eq_true rfl⟩ hK hN hP hS [4] rfl 0 (ci := 6) rfl rfl rfl hl.1 rfl (Nat.le_of_ble_eq_true rfl) dX11_filledSlots_15 ⟨Nat.zero_le _, Nat.zero_le _⟩ (fun r_23 H locs hr_23 hP hS => ?_)
      refine lv_if_ne (tgt := 24) hx hb dX11_filledSlots_18 (by decide) (fun c_24 => ?_) (fun c_24 => ?_)
      · skip
        have h_25 : rg 1 1 r_23 := rg_w (rg_neL hr_23 c_24 (by decide)) (by decide) (by decide)
        obtain ⟨x_26, ex_26⟩ : ∃ y9 : Int32, y9 = (y_1.1 0) + 1 := ⟨_, rfl⟩
        have hx_26 : rg 1 4 x_26 := by rw [ex_26]; exact rg_add h_7 (rg_c (x := 1) (k := 1) (by decide)) (by decide) (by decide) (by decide) (by decide)
        have tx_26 : x_26.toInt = (y_1.1 0).toInt + 1 := by rw [ex_26]; exact inc_tk h_7 (by decide) (by decide) (by decide)
        refine lv_iinc (v := x_26) (lv' := [(2, .int x_26), (1, .int (y_1.1 1)), (0, .ref (a 0))]) hx hb dX11_filledSlots_24 hl (k := 0) rfl (by rw [ex_26]; rfl) (by decide) rfl (fun ls hl => ?_)
        refine lv_goto (tgt := 4) hx hb dX11_filledSlots_27 (by decide) ?_
        exact ih_3 (fun k => [x_26, (y_1.1 1)].getD k 0, fun k => [].getD k (fun _ => 0), fun k => [].getD k (fun _ => 0), fun k => [].getD k 0) _ _ ls ⟨(m_upk me_4 tx_26 (by decide)), (rg_w (c := 0) (d := 4) hx_26 (by decide) (by decide)), hP, hS, (lv_sub hl [0, 1, 2] rfl)⟩
      · skip
        have h_27 : rg 0 0 r_23 := rg_eq c_24 (rg_c (x := 0) (k := 0) (by decide))
        obtain ⟨x_28, ex_28⟩ : ∃ y9 : Int32, y9 = (y_1.1 1) + 1 := ⟨_, rfl⟩
        refine lv_iinc (v := x_28) (lv' := [(1, .int x_28), (2, .int (y_1.1 0)), (0, .ref (a 0))]) hx hb dX11_filledSlots_21 hl (k := 1) rfl (by rw [ex_28]; rfl) (by decide) rfl (fun ls hl => ?_)
        obtain ⟨x_29, ex_29⟩ : ∃ y9 : Int32, y9 = (y_1.1 0) + 1 := ⟨_, rfl⟩
        have hx_29 : rg 1 4 x_29 := by rw [ex_29]; exact rg_add h_7 (rg_c (x := 1) (k := 1) (by decide)) (by decide) (by decide) (by decide) (by decide)
        have tx_29 : x_29.toInt = (y_1.1 0).toInt + 1 := by rw [ex_29]; exact inc_tk h_7 (by decide) (by decide) (by decide)
        refine lv_iinc (v := x_29) (lv' := [(2, .int x_29), (1, .int x_28), (0, .ref (a 0))]) hx hb dX11_filledSlots_24 hl (k := 1) rfl (by rw [ex_29]; rfl) (by decide) rfl (fun ls hl => ?_)
        refine lv_goto (tgt := 4) hx hb dX11_filledSlots_27 (by decide) ?_
        exact ih_3 (fun k => [x_29, x_28].getD k 0, fun k => [].getD k (fun _ => 0), fun k => [].getD k (fun _ => 0), fun k => [].getD k 0) _ _ ls ⟨(m_upk me_4 tx_29 (by decide)), (rg_w (c := 0) (d := 4) hx_29 (by decide) (by decide)), hP, hS, (lv_sub hl [0, 1, 2] rfl)⟩
    · refine x_seti (nI 3) ej_8 ?_
      refine va_aldq hx hb hK hP 1 5 rfl rfl (vp_in_nI (n := 3) (by decide) (by decide)) dX11_filledSlots_14 ?_
      refine W.eq (g2 := F0 m 15 ls [.ref (a 9)]) rfl ?_
      refine y_pV hF (s_X6_isNothing_9 l D t a v9_1 v9_2 r9_2) m_1223 m_1224 m_1225 m_12 m_1226 hd_X6_isNothing ⟨Nat.le_of_ble_eq_true rfl, Nat.le_of_ble_eq_true rfl⟩ hK hN hP hS [5] rfl 0 (ci := 6) rfl rfl rfl hl.1 rfl (Nat.le_of_ble_eq_true rfl) dX11_filledSlots_15 ⟨Nat.zero_le _, Nat.zero_le _⟩ (fun r_30 H locs hr_30 hP hS => ?_)
      refine lv_if_ne (tgt := 24) hx hb dX11_filledSlots_18 (by decide) (fun c_31 => ?_) (fun c_31 => ?_)
      · skip
        have h_32 : rg 1 1 r_30 := rg_w (rg_neL hr_30 c_31 (by decide)) (by decide) (by decide)
        obtain ⟨x_33, ex_33⟩ : ∃ y9 : Int32, y9 = (y_1.1 0) + 1 := ⟨_, rfl⟩
        have hx_33 : rg 1 4 x_33 := by rw [ex_33]; exact rg_add h_7 (rg_c (x := 1) (k := 1) (by decide)) (by decide) (by decide) (by decide) (by decide)
        have tx_33 : x_33.toInt = (y_1.1 0).toInt + 1 := by rw [ex_33]; exact inc_tk h_7 (by decide) (by decide) (by decide)
        refine lv_iinc (v := x_33) (lv' := [(2, .int x_33), (1, .int (y_1.1 1)), (0, .ref (a 0))]) hx hb dX11_filledSlots_24 hl (k := 0) rfl (by rw [ex_33]; rfl) (by decide) rfl (fun ls hl => ?_)
        refine lv_goto (tgt := 4) hx hb dX11_filledSlots_27 (by decide) ?_
        exact ih_3 (fun k => [x_33, (y_1.1 1)].getD k 0, fun k => [].getD k (fun _ => 0), fun k => [].getD k (fun _ => 0), fun k => [].getD k 0) _ _ ls ⟨(m_upk me_4 tx_33 (by decide)), (rg_w (c := 0) (d := 4) hx_33 (by decide) (by decide)), hP, hS, (lv_sub hl [0, 1, 2] rfl)⟩
      · skip
        have h_34 : rg 0 0 r_30 := rg_eq c_31 (rg_c (x := 0) (k := 0) (by decide))
        obtain ⟨x_35, ex_35⟩ : ∃ y9 : Int32, y9 = (y_1.1 1) + 1 := ⟨_, rfl⟩
        refine lv_iinc (v := x_35) (lv' := [(1, .int x_35), (2, .int (y_1.1 0)), (0, .ref (a 0))]) hx hb dX11_filledSlots_21 hl (k := 1) rfl (by rw [ex_35]; rfl) (by decide) rfl (fun ls hl => ?_)
        obtain ⟨x_36, ex_36⟩ : ∃ y9 : Int32, y9 = (y_1.1 0) + 1 := ⟨_, rfl⟩
        have hx_36 : rg 1 4 x_36 := by rw [ex_36]; exact rg_add h_7 (rg_c (x := 1) (k := 1) (by decide)) (by decide) (by decide) (by decide) (by decide)
        have tx_36 : x_36.toInt = (y_1.1 0).toInt + 1 := by rw [ex_36]; exact inc_tk h_7 (by decide) (by decide) (by decide)
        refine lv_iinc (v := x_36) (lv' := [(2, .int x_36), (1, .int x_35), (0, .ref (a 0))]) hx hb dX11_filledSlots_24 hl (k := 1) rfl (by rw [ex_36]; rfl) (by decide) rfl (fun ls hl => ?_)
        refine lv_goto (tgt := 4) hx hb dX11_filledSlots_27 (by decide) ?_
        exact ih_3 (fun k => [x_36, x_35].getD k 0, fun k => [].getD k (fun _ => 0), fun k => [].getD k (fun _ => 0), fun k => [].getD k 0) _ _ ls ⟨(m_upk me_4 tx_36 (by decide)), (rg_w (c := 0) (d := 4) hx_36 (by decide) (by decide)), hP, hS, (lv_sub hl [0, 1, 2] rfl)⟩

set_option maxHeartbeats 4000000 in
set_option maxRecDepth 100000 in
theorem s_X11_feed (l : Launch) (D : va_G) (t : Nat → ClassId) (a : Nat → Nat) (v0_5 : Int32) (v1_1 : Int32) (f2 : Nat → Int32) (p0 : Int32) (p1 : Int32) (p2 : Int32) (p3 : Int32) (p4 : Int32) (r1_1 : rg 0 1600 v1_1) (sz : Nat) : Met l yX11_feed (wd yX11_feed cX11_feed 6 (some .int)) (RM 1 0 0) (PreW D (TY t) [.ref (a 0), .int p0, .int p1, .int p2, .int p3, .int p4] [(a 0, .inr (11, [.ref (a 1), .ref (a 20), .ref (a 3), .ref (a 40), .ref (a 4), .int v0_5, .ref (a 5), .ref (a 14), .ref (a 15), .ref (a 16), .ref (a 17), .ref (a 18)])), (a 1, .inr (8, [.ref (a 2), .int v1_1])), (a 2, .inl (t 1, 1600, .inl f2))] sz) (va_Qi (fun (r : Int32) (u : US) => rg (-1) 1600 r ∧ rg 0 1600 (u.1 0)) (fun (u : US) t9 => va_P D classes ((fun u : US => [(a 0, .inr (11, [.ref (a 1), .ref (a 20), .ref (a 3), .ref (a 40), .ref (a 4), .int v0_5, .ref (a 5), .ref (a 14), .ref (a 15), .ref (a 16), .ref (a 17), .ref (a 18)])), (a 1, .inr (8, [.ref (a 2), .int (u.1 0)])), (a 2, .inl (t 1, 1600, .inl (u.2.1 0)))]) u) t9.heap ∧ va_D (va_A [(a 0, .inr (11, [.ref (a 1), .ref (a 20), .ref (a 3), .ref (a 40), .ref (a 4), .int v0_5, .ref (a 5), .ref (a 14), .ref (a 15), .ref (a 16), .ref (a 17), .ref (a 18)])), (a 1, .inr (8, [.ref (a 2), .int v1_1])), (a 2, .inl (t 1, 1600, .inl f2))] sz) ((fun u : US => [(a 0, .inr (11, [.ref (a 1), .ref (a 20), .ref (a 3), .ref (a 40), .ref (a 4), .int v0_5, .ref (a 5), .ref (a 14), .ref (a 15), .ref (a 16), .ref (a 17), .ref (a 18)])), (a 1, .inr (8, [.ref (a 2), .int (u.1 0)])), (a 2, .inl (t 1, 1600, .inl (u.2.1 0)))]) u)) (va_A [(a 0, .inr (11, [.ref (a 1), .ref (a 20), .ref (a 3), .ref (a 40), .ref (a 4), .int v0_5, .ref (a 5), .ref (a 14), .ref (a 15), .ref (a 16), .ref (a 17), .ref (a 18)])), (a 1, .inr (8, [.ref (a 2), .int v1_1])), (a 2, .inl (t 1, 1600, .inl f2))] sz)) 0 0 (va_A [(a 0, .inr (11, [.ref (a 1), .ref (a 20), .ref (a 3), .ref (a 40), .ref (a 4), .int v0_5, .ref (a 5), .ref (a 14), .ref (a 15), .ref (a 16), .ref (a 17), .ref (a 18)])), (a 1, .inr (8, [.ref (a 2), .int v1_1])), (a 2, .inl (t 1, 1600, .inl f2))] sz) := by
  refine Met.ofW (cc := cX11_feed) (maxL := 6) (ret := (some .int)) (by decide) rfl ?_
  intro p e s m args below meth c s₁ B hml hv
  obtain ⟨rfl, hsz, hP, hK, hD0, hN⟩ := hv
  have hx := B.exec
  have hb := B.bytes
  have hr := B.returns
  have hts : ∀ w ∈ TB, w.before _ s = true := fun w h => atoms_spec (ws := wd yX11_feed cX11_feed 6 (some .int)) B.pre w (List.mem_cons_of_mem _ h)
  have hown : s.vm.findClass RX11 = some m.cls := findClass_of_methodNamed B.named
  have hlocks := B.notSynchronized
  have hF : CallFix p m c cX11_feed 6 s _ TB RX11 := ⟨hx, hb, hml, hown, hts⟩
  have hl := lv_entry ([.ref (a 0), .int p0, .int p1, .int p2, .int p3, .int p4]) (n := 6) (Nat.le_of_ble_eq_true rfl)
  rw [lg_entry_eq]
  generalize (lg_sl ([.ref (a 0), .int p0, .int p1, .int p2, .int p3, .int p4]) ++ List.replicate (6 - (lg_sl ([.ref (a 0), .int p0, .int p1, .int p2, .int p3, .int p4])).length) Slot.unset).toArray = ls at hl ⊢
  have hl : lv_has ls 6 [(0, .ref (a 0)), (1, .int p0), (2, .int p1), (3, .int p2), (4, .int p3), (5, .int p4)] := hl
  subst hsz
  have hD := hD0.self (sz := s.heap.size)
  generalize hAe : va_A [(a 0, .inr (11, [.ref (a 1), .ref (a 20), .ref (a 3), .ref (a 40), .ref (a 4), .int v0_5, .ref (a 5), .ref (a 14), .ref (a 15), .ref (a 16), .ref (a 17), .ref (a 18)])), (a 1, .inr (8, [.ref (a 2), .int v1_1])), (a 2, .inl (t 1, 1600, .inl f2))] s.heap.size = A at hD ⊢
  have hA : ∀ q : Nat, s.heap.size ≤ q → A q := fun q h => by rw [← hAe]; exact Or.inr h
  have hS : va_S A s.heap s.heap [] := va_S.rf
  have hP : va_P D classes [(a 0, .inr (11, [.ref (a 1), .ref (a 20), .ref (a 3), .ref (a 40), .ref (a 4), .int v0_5, .ref (a 5), .ref (a 14), .ref (a 15), .ref (a 16), .ref (a 17), .ref (a 18)])), (a 1, .inr (8, [.ref (a 2), .int v1_1])), (a 2, .inl (t 1, 1600, .inl f2))] s.heap := hP
  refine lv_aload_n hx hb dX11_feed_0 rfl (lv_at hl 0 rfl) ?_
  refine va_get (D := D) (ci := 11) (v := .ref (a 1)) (C := RX11) (T := TX11) (N := 12) hx hb hts iX11 hown hK hP 0 rfl rfl 0 (by decide) (hts _ m_433) (fun _ h9 => h9) rfl dX11_feed_1 ?_
  refine y_pV hF (s_X8_hasRoom l D t a v1_1 r1_1) m_474 m_475 m_476 m_2 m_477 hd_X8_hasRoom ⟨Nat.le_of_ble_eq_true rfl, Nat.le_of_ble_eq_true rfl⟩ hK hN hP hS [1] rfl 0 (ci := 8) rfl rfl rfl hl.1 rfl (Nat.le_of_ble_eq_true rfl) dX11_feed_4 ⟨Nat.zero_le _, Nat.zero_le _⟩ (fun r_1 H locs hr_1 hP hS => ?_)
  refine lv_if_ne (tgt := 12) hx hb dX11_feed_7 (by decide) (fun c_2 => ?_) (fun c_2 => ?_)
  · skip
    have h_3 : rg 1 1 r_1 := rg_w (rg_neL hr_1 c_2 (by decide)) (by decide) (by decide)
    refine lv_aload_n hx hb dX11_feed_12 rfl (lv_at hl 0 rfl) ?_
    refine va_get (D := D) (ci := 11) (v := .ref (a 1)) (C := RX11) (T := TX11) (N := 12) hx hb hts iX11 hown hK hP 0 rfl rfl 0 (by decide) (hts _ m_433) (fun _ h9 => h9) rfl dX11_feed_13 ?_
    refine lv_iload_n hx hb dX11_feed_16 rfl (lv_at hl 1 rfl) ?_
    refine y_wV (wr := [(a 0, .inr (11, [.ref (a 1), .ref (a 20), .ref (a 3), .ref (a 40), .ref (a 4), .int v0_5, .ref (a 5), .ref (a 14), .ref (a 15), .ref (a 16), .ref (a 17), .ref (a 18)]))]) hF (s_X8_add l D t a v1_1 f2 p0 r1_1 H.size) m_478 m_479 m_480 m_2 m_481 hd_X8_add ⟨Nat.le_of_ble_eq_true rfl, Nat.le_of_ble_eq_true rfl⟩ hK hN hP hD hS hA 0 (ci := 8) rfl rfl rfl [1, 2] [0] rfl rfl (by decide) (by decide) (by decide) hl.1 rfl (Nat.le_of_ble_eq_true rfl) dX11_feed_17 ⟨Nat.zero_le _, Nat.zero_le _⟩ (fun u_4 H locs hu_4 hP hD hS => ?_)
    have h_6 := hu_4
    have hP : va_P D classes [(a 0, .inr (11, [.ref (a 1), .ref (a 20), .ref (a 3), .ref (a 40), .ref (a 4), .int v0_5, .ref (a 5), .ref (a 14), .ref (a 15), .ref (a 16), .ref (a 17), .ref (a 18)])), (a 1, .inr (8, [.ref (a 2), .int (u_4.1 0)])), (a 2, .inl (t 1, 1600, .inl (u_4.2.1 0)))] H := hP
    have hD : va_D A [(a 0, .inr (11, [.ref (a 1), .ref (a 20), .ref (a 3), .ref (a 40), .ref (a 4), .int v0_5, .ref (a 5), .ref (a 14), .ref (a 15), .ref (a 16), .ref (a 17), .ref (a 18)])), (a 1, .inr (8, [.ref (a 2), .int (u_4.1 0)])), (a 2, .inl (t 1, 1600, .inl (u_4.2.1 0)))] := hD
    refine lv_aload_n hx hb dX11_feed_20 rfl (lv_at hl 0 rfl) ?_
    refine va_get (D := D) (ci := 11) (v := .ref (a 1)) (C := RX11) (T := TX11) (N := 12) hx hb hts iX11 hown hK hP 0 rfl rfl 0 (by decide) (hts _ m_433) (fun _ h9 => h9) rfl dX11_feed_21 ?_
    refine lv_iload_n hx hb dX11_feed_24 rfl (lv_at hl 2 rfl) ?_
    refine y_wV (wr := [(a 0, .inr (11, [.ref (a 1), .ref (a 20), .ref (a 3), .ref (a 40), .ref (a 4), .int v0_5, .ref (a 5), .ref (a 14), .ref (a 15), .ref (a 16), .ref (a 17), .ref (a 18)]))]) hF (s_X8_add l D t a (u_4.1 0) (u_4.2.1 0) p1 h_6 H.size) m_478 m_479 m_480 m_2 m_481 hd_X8_add ⟨Nat.le_of_ble_eq_true rfl, Nat.le_of_ble_eq_true rfl⟩ hK hN hP hD hS hA 0 (ci := 8) rfl rfl rfl [1, 2] [0] rfl rfl (by decide) (by decide) (by decide) hl.1 rfl (Nat.le_of_ble_eq_true rfl) dX11_feed_25 ⟨Nat.zero_le _, Nat.zero_le _⟩ (fun u_7 H locs hu_7 hP hD hS => ?_)
    have h_9 := hu_7
    have hP : va_P D classes [(a 0, .inr (11, [.ref (a 1), .ref (a 20), .ref (a 3), .ref (a 40), .ref (a 4), .int v0_5, .ref (a 5), .ref (a 14), .ref (a 15), .ref (a 16), .ref (a 17), .ref (a 18)])), (a 1, .inr (8, [.ref (a 2), .int (u_7.1 0)])), (a 2, .inl (t 1, 1600, .inl (u_7.2.1 0)))] H := hP
    have hD : va_D A [(a 0, .inr (11, [.ref (a 1), .ref (a 20), .ref (a 3), .ref (a 40), .ref (a 4), .int v0_5, .ref (a 5), .ref (a 14), .ref (a 15), .ref (a 16), .ref (a 17), .ref (a 18)])), (a 1, .inr (8, [.ref (a 2), .int (u_7.1 0)])), (a 2, .inl (t 1, 1600, .inl (u_7.2.1 0)))] := hD
    refine lv_aload_n hx hb dX11_feed_28 rfl (lv_at hl 0 rfl) ?_
    refine va_get (D := D) (ci := 11) (v := .ref (a 1)) (C := RX11) (T := TX11) (N := 12) hx hb hts iX11 hown hK hP 0 rfl rfl 0 (by decide) (hts _ m_433) (fun _ h9 => h9) rfl dX11_feed_29 ?_
    refine lv_iload_n hx hb dX11_feed_32 rfl (lv_at hl 3 rfl) ?_
    refine y_wV (wr := [(a 0, .inr (11, [.ref (a 1), .ref (a 20), .ref (a 3), .ref (a 40), .ref (a 4), .int v0_5, .ref (a 5), .ref (a 14), .ref (a 15), .ref (a 16), .ref (a 17), .ref (a 18)]))]) hF (s_X8_add l D t a (u_7.1 0) (u_7.2.1 0) p2 h_9 H.size) m_478 m_479 m_480 m_2 m_481 hd_X8_add ⟨Nat.le_of_ble_eq_true rfl, Nat.le_of_ble_eq_true rfl⟩ hK hN hP hD hS hA 0 (ci := 8) rfl rfl rfl [1, 2] [0] rfl rfl (by decide) (by decide) (by decide) hl.1 rfl (Nat.le_of_ble_eq_true rfl) dX11_feed_33 ⟨Nat.zero_le _, Nat.zero_le _⟩ (fun u_10 H locs hu_10 hP hD hS => ?_)
    have h_12 := hu_10
    have hP : va_P D classes [(a 0, .inr (11, [.ref (a 1), .ref (a 20), .ref (a 3), .ref (a 40), .ref (a 4), .int v0_5, .ref (a 5), .ref (a 14), .ref (a 15), .ref (a 16), .ref (a 17), .ref (a 18)])), (a 1, .inr (8, [.ref (a 2), .int (u_10.1 0)])), (a 2, .inl (t 1, 1600, .inl (u_10.2.1 0)))] H := hP
    have hD : va_D A [(a 0, .inr (11, [.ref (a 1), .ref (a 20), .ref (a 3), .ref (a 40), .ref (a 4), .int v0_5, .ref (a 5), .ref (a 14), .ref (a 15), .ref (a 16), .ref (a 17), .ref (a 18)])), (a 1, .inr (8, [.ref (a 2), .int (u_10.1 0)])), (a 2, .inl (t 1, 1600, .inl (u_10.2.1 0)))] := hD
    refine lv_aload_n hx hb dX11_feed_36 rfl (lv_at hl 0 rfl) ?_
    refine va_get (D := D) (ci := 11) (v := .ref (a 1)) (C := RX11) (T := TX11) (N := 12) hx hb hts iX11 hown hK hP 0 rfl rfl 0 (by decide) (hts _ m_433) (fun _ h9 => h9) rfl dX11_feed_37 ?_
    refine lv_iload hx hb dX11_feed_40 (lv_at hl 4 rfl) ?_
    refine y_wV (wr := [(a 0, .inr (11, [.ref (a 1), .ref (a 20), .ref (a 3), .ref (a 40), .ref (a 4), .int v0_5, .ref (a 5), .ref (a 14), .ref (a 15), .ref (a 16), .ref (a 17), .ref (a 18)]))]) hF (s_X8_add l D t a (u_10.1 0) (u_10.2.1 0) p3 h_12 H.size) m_478 m_479 m_480 m_2 m_481 hd_X8_add ⟨Nat.le_of_ble_eq_true rfl, Nat.le_of_ble_eq_true rfl⟩ hK hN hP hD hS hA 0 (ci := 8) rfl rfl rfl [1, 2] [0] rfl rfl (by decide) (by decide) (by decide) hl.1 rfl (Nat.le_of_ble_eq_true rfl) dX11_feed_42 ⟨Nat.zero_le _, Nat.zero_le _⟩ (fun u_13 H locs hu_13 hP hD hS => ?_)
    have h_15 := hu_13
    have hP : va_P D classes [(a 0, .inr (11, [.ref (a 1), .ref (a 20), .ref (a 3), .ref (a 40), .ref (a 4), .int v0_5, .ref (a 5), .ref (a 14), .ref (a 15), .ref (a 16), .ref (a 17), .ref (a 18)])), (a 1, .inr (8, [.ref (a 2), .int (u_13.1 0)])), (a 2, .inl (t 1, 1600, .inl (u_13.2.1 0)))] H := hP
    have hD : va_D A [(a 0, .inr (11, [.ref (a 1), .ref (a 20), .ref (a 3), .ref (a 40), .ref (a 4), .int v0_5, .ref (a 5), .ref (a 14), .ref (a 15), .ref (a 16), .ref (a 17), .ref (a 18)])), (a 1, .inr (8, [.ref (a 2), .int (u_13.1 0)])), (a 2, .inl (t 1, 1600, .inl (u_13.2.1 0)))] := hD
    refine lv_aload_n hx hb dX11_feed_45 rfl (lv_at hl 0 rfl) ?_
    refine va_get (D := D) (ci := 11) (v := .ref (a 1)) (C := RX11) (T := TX11) (N := 12) hx hb hts iX11 hown hK hP 0 rfl rfl 0 (by decide) (hts _ m_433) (fun _ h9 => h9) rfl dX11_feed_46 ?_
    refine lv_iload hx hb dX11_feed_49 (lv_at hl 5 rfl) ?_
    refine y_wV (wr := [(a 0, .inr (11, [.ref (a 1), .ref (a 20), .ref (a 3), .ref (a 40), .ref (a 4), .int v0_5, .ref (a 5), .ref (a 14), .ref (a 15), .ref (a 16), .ref (a 17), .ref (a 18)]))]) hF (s_X8_add l D t a (u_13.1 0) (u_13.2.1 0) p4 h_15 H.size) m_478 m_479 m_480 m_2 m_481 hd_X8_add ⟨Nat.le_of_ble_eq_true rfl, Nat.le_of_ble_eq_true rfl⟩ hK hN hP hD hS hA 0 (ci := 8) rfl rfl rfl [1, 2] [0] rfl rfl (by decide) (by decide) (by decide) hl.1 rfl (Nat.le_of_ble_eq_true rfl) dX11_feed_51 ⟨Nat.zero_le _, Nat.zero_le _⟩ (fun u_16 H locs hu_16 hP hD hS => ?_)
    have h_18 := hu_16
    have hP : va_P D classes [(a 0, .inr (11, [.ref (a 1), .ref (a 20), .ref (a 3), .ref (a 40), .ref (a 4), .int v0_5, .ref (a 5), .ref (a 14), .ref (a 15), .ref (a 16), .ref (a 17), .ref (a 18)])), (a 1, .inr (8, [.ref (a 2), .int (u_16.1 0)])), (a 2, .inl (t 1, 1600, .inl (u_16.2.1 0)))] H := hP
    have hD : va_D A [(a 0, .inr (11, [.ref (a 1), .ref (a 20), .ref (a 3), .ref (a 40), .ref (a 4), .int v0_5, .ref (a 5), .ref (a 14), .ref (a 15), .ref (a 16), .ref (a 17), .ref (a 18)])), (a 1, .inr (8, [.ref (a 2), .int (u_16.1 0)])), (a 2, .inl (t 1, 1600, .inl (u_16.2.1 0)))] := hD
    refine lv_aload_n hx hb dX11_feed_54 rfl (lv_at hl 0 rfl) ?_
    refine va_get (D := D) (ci := 11) (v := .ref (a 1)) (C := RX11) (T := TX11) (N := 12) hx hb hts iX11 hown hK hP 0 rfl rfl 0 (by decide) (hts _ m_433) (fun _ h9 => h9) rfl dX11_feed_55 ?_
    refine va_getN (D := D) (ci := 8) (v := .int (u_16.1 0)) (C := RX8) (T := TX8) (N := 2) (host := "WordSeats") hx hb hts iX8 hown hK hP 1 rfl rfl 1 (by decide) (va_Nw.use rfl (hN _ n_38)) (fun _ h9 => h9) rfl dX11_feed_58 ?_
    have hP9 := hP.sub (ws' := [(a 0, .inr (11, [.ref (a 1), .ref (a 20), .ref (a 3), .ref (a 40), .ref (a 4), .int v0_5, .ref (a 5), .ref (a 14), .ref (a 15), .ref (a 16), .ref (a 17), .ref (a 18)])), (a 1, .inr (8, [.ref (a 2), .int (u_16.1 0)])), (a 2, .inl (t 1, 1600, .inl (u_16.2.1 0)))]) [0, 1, 2] rfl
    have hD9 := hD.sub (ws' := [(a 0, .inr (11, [.ref (a 1), .ref (a 20), .ref (a 3), .ref (a 40), .ref (a 4), .int v0_5, .ref (a 5), .ref (a 14), .ref (a 15), .ref (a 16), .ref (a 17), .ref (a 18)])), (a 1, .inr (8, [.ref (a 2), .int (u_16.1 0)])), (a 2, .inl (t 1, 1600, .inl (u_16.2.1 0)))]) [0, 1, 2] (by decide) rfl
    exact W.iret (v := (u_16.1 0)) hx hb hr (fun t9 ht hW => ⟨⟨(u_16.1 0), (fun k => [(u_16.1 0)].getD k 0, fun k => [(u_16.2.1 0)].getD k (fun _ => 0), fun k => [].getD k (fun _ => 0), fun _ => 0), rfl, ⟨(rg_w (c := (-1)) (d := 1600) h_18 (by decide) (by decide)), h_18⟩, by rw [ht]; exact hP9, hD9⟩, hS.F ht⟩) hS.2.2 dX11_feed_61
  · skip
    have h_19 : rg 0 0 r_1 := rg_eq c_2 (rg_c (x := 0) (k := 0) (by decide))
    refine lv_iconst (v := (-1)) hx hb dX11_feed_10 (by decide) ?_
    have hP9 := hP.sub (ws' := [(a 0, .inr (11, [.ref (a 1), .ref (a 20), .ref (a 3), .ref (a 40), .ref (a 4), .int v0_5, .ref (a 5), .ref (a 14), .ref (a 15), .ref (a 16), .ref (a 17), .ref (a 18)])), (a 1, .inr (8, [.ref (a 2), .int v1_1])), (a 2, .inl (t 1, 1600, .inl f2))]) [0, 1, 2] rfl
    have hD9 := hD.sub (ws' := [(a 0, .inr (11, [.ref (a 1), .ref (a 20), .ref (a 3), .ref (a 40), .ref (a 4), .int v0_5, .ref (a 5), .ref (a 14), .ref (a 15), .ref (a 16), .ref (a 17), .ref (a 18)])), (a 1, .inr (8, [.ref (a 2), .int v1_1])), (a 2, .inl (t 1, 1600, .inl f2))]) [0, 1, 2] (by decide) rfl
    exact W.iret (v := (-1)) hx hb hr (fun t9 ht hW => ⟨⟨(-1), (fun k => [v1_1].getD k 0, fun k => [f2].getD k (fun _ => 0), fun k => [].getD k (fun _ => 0), fun _ => 0), rfl, ⟨(rg_w (c := (-1)) (d := 1600) (rg_c (x := (-1)) (k := (-1)) (by decide)) (by decide) (by decide)), r1_1⟩, by rw [ht]; exact hP9, hD9⟩, hS.F ht⟩) hS.2.2 dX11_feed_11

set_option maxHeartbeats 4000000 in
set_option maxRecDepth 100000 in
theorem s_X11_end (l : Launch) (D : va_G) (t : Nat → ClassId) (a : Nat → Nat) (v0_5 : Int32) (v1_1 : Int32) (p0 : Int32) (r1_1 : rg 0 1600 v1_1) (sz : Nat) : Met l yX11_end (wd yX11_end cX11_end 2 (some .int)) (RM 0 0 0) (PreW D (TY t) [.ref (a 0), .int p0] [(a 0, .inr (11, [.ref (a 1), .ref (a 20), .ref (a 3), .ref (a 40), .ref (a 4), .int v0_5, .ref (a 5), .ref (a 14), .ref (a 15), .ref (a 16), .ref (a 17), .ref (a 18)])), (a 1, .inr (8, [.ref (a 2), .int v1_1]))] sz) (va_Qi (fun (r : Int32) (u : US) => rg (-1) 1600 r ∧ rg 0 1600 (u.1 0)) (fun (u : US) t9 => va_P D classes ((fun u : US => [(a 0, .inr (11, [.ref (a 1), .ref (a 20), .ref (a 3), .ref (a 40), .ref (a 4), .int v0_5, .ref (a 5), .ref (a 14), .ref (a 15), .ref (a 16), .ref (a 17), .ref (a 18)])), (a 1, .inr (8, [.ref (a 2), .int (u.1 0)]))]) u) t9.heap ∧ va_D (va_A [(a 0, .inr (11, [.ref (a 1), .ref (a 20), .ref (a 3), .ref (a 40), .ref (a 4), .int v0_5, .ref (a 5), .ref (a 14), .ref (a 15), .ref (a 16), .ref (a 17), .ref (a 18)])), (a 1, .inr (8, [.ref (a 2), .int v1_1]))] sz) ((fun u : US => [(a 0, .inr (11, [.ref (a 1), .ref (a 20), .ref (a 3), .ref (a 40), .ref (a 4), .int v0_5, .ref (a 5), .ref (a 14), .ref (a 15), .ref (a 16), .ref (a 17), .ref (a 18)])), (a 1, .inr (8, [.ref (a 2), .int (u.1 0)]))]) u)) (va_A [(a 0, .inr (11, [.ref (a 1), .ref (a 20), .ref (a 3), .ref (a 40), .ref (a 4), .int v0_5, .ref (a 5), .ref (a 14), .ref (a 15), .ref (a 16), .ref (a 17), .ref (a 18)])), (a 1, .inr (8, [.ref (a 2), .int v1_1]))] sz)) 0 0 (va_A [(a 0, .inr (11, [.ref (a 1), .ref (a 20), .ref (a 3), .ref (a 40), .ref (a 4), .int v0_5, .ref (a 5), .ref (a 14), .ref (a 15), .ref (a 16), .ref (a 17), .ref (a 18)])), (a 1, .inr (8, [.ref (a 2), .int v1_1]))] sz) := by
  refine Met.ofW (cc := cX11_end) (maxL := 2) (ret := (some .int)) (by decide) rfl ?_
  intro p e s m args below meth c s₁ B hml hv
  obtain ⟨rfl, hsz, hP, hK, hD0, hN⟩ := hv
  have hx := B.exec
  have hb := B.bytes
  have hr := B.returns
  have hts : ∀ w ∈ TB, w.before _ s = true := fun w h => atoms_spec (ws := wd yX11_end cX11_end 2 (some .int)) B.pre w (List.mem_cons_of_mem _ h)
  have hown : s.vm.findClass RX11 = some m.cls := findClass_of_methodNamed B.named
  have hlocks := B.notSynchronized
  have hF : CallFix p m c cX11_end 2 s _ TB RX11 := ⟨hx, hb, hml, hown, hts⟩
  have hl := lv_entry ([.ref (a 0), .int p0]) (n := 2) (Nat.le_of_ble_eq_true rfl)
  rw [lg_entry_eq]
  generalize (lg_sl ([.ref (a 0), .int p0]) ++ List.replicate (2 - (lg_sl ([.ref (a 0), .int p0])).length) Slot.unset).toArray = ls at hl ⊢
  have hl : lv_has ls 2 [(0, .ref (a 0)), (1, .int p0)] := hl
  subst hsz
  have hD := hD0.self (sz := s.heap.size)
  generalize hAe : va_A [(a 0, .inr (11, [.ref (a 1), .ref (a 20), .ref (a 3), .ref (a 40), .ref (a 4), .int v0_5, .ref (a 5), .ref (a 14), .ref (a 15), .ref (a 16), .ref (a 17), .ref (a 18)])), (a 1, .inr (8, [.ref (a 2), .int v1_1]))] s.heap.size = A at hD ⊢
  have hA : ∀ q : Nat, s.heap.size ≤ q → A q := fun q h => by rw [← hAe]; exact Or.inr h
  have hS : va_S A s.heap s.heap [] := va_S.rf
  have hP : va_P D classes [(a 0, .inr (11, [.ref (a 1), .ref (a 20), .ref (a 3), .ref (a 40), .ref (a 4), .int v0_5, .ref (a 5), .ref (a 14), .ref (a 15), .ref (a 16), .ref (a 17), .ref (a 18)])), (a 1, .inr (8, [.ref (a 2), .int v1_1]))] s.heap := hP
  refine lv_iload_n hx hb dX11_end_0 rfl (lv_at hl 1 rfl) ?_
  refine lv_if_lt (tgt := 15) hx hb dX11_end_1 (by decide) (fun c_1 => ?_) (fun c_1 => ?_)
  · skip
    have h_2 : rg (-2147483648) (-1) p0 := ⟨((rg_any p0)).1, Int.le_trans (c_lt c_1 (rg_c (x := 0) (k := 0) (by decide))) (by decide)⟩
    refine lv_iconst (v := (-1)) hx hb dX11_end_15 (by decide) ?_
    have hP9 := hP.sub (ws' := [(a 0, .inr (11, [.ref (a 1), .ref (a 20), .ref (a 3), .ref (a 40), .ref (a 4), .int v0_5, .ref (a 5), .ref (a 14), .ref (a 15), .ref (a 16), .ref (a 17), .ref (a 18)])), (a 1, .inr (8, [.ref (a 2), .int v1_1]))]) [0, 1] rfl
    have hD9 := hD.sub (ws' := [(a 0, .inr (11, [.ref (a 1), .ref (a 20), .ref (a 3), .ref (a 40), .ref (a 4), .int v0_5, .ref (a 5), .ref (a 14), .ref (a 15), .ref (a 16), .ref (a 17), .ref (a 18)])), (a 1, .inr (8, [.ref (a 2), .int v1_1]))]) [0, 1] (by decide) rfl
    exact W.iret (v := (-1)) hx hb hr (fun t9 ht hW => ⟨⟨(-1), (fun k => [v1_1].getD k 0, fun k => [].getD k (fun _ => 0), fun k => [].getD k (fun _ => 0), fun _ => 0), rfl, ⟨(rg_w (c := (-1)) (d := 1600) (rg_c (x := (-1)) (k := (-1)) (by decide)) (by decide) (by decide)), r1_1⟩, by rw [ht]; exact hP9, hD9⟩, hS.F ht⟩) hS.2.2 dX11_end_16
  · skip
    have h_3 : rg 0 2147483647 p0 := ⟨Int.le_trans (by decide) (c_nlt c_1 (rg_c (x := 0) (k := 0) (by decide))), ((rg_any p0)).2⟩
    refine lv_iload_n hx hb dX11_end_4 rfl (lv_at hl 1 rfl) ?_
    refine lv_aload_n hx hb dX11_end_5 rfl (lv_at hl 0 rfl) ?_
    refine va_get (D := D) (ci := 11) (v := .ref (a 1)) (C := RX11) (T := TX11) (N := 12) hx hb hts iX11 hown hK hP 0 rfl rfl 0 (by decide) (hts _ m_433) (fun _ h9 => h9) rfl dX11_end_6 ?_
    refine va_getN (D := D) (ci := 8) (v := .int v1_1) (C := RX8) (T := TX8) (N := 2) (host := "WordSeats") hx hb hts iX8 hown hK hP 1 rfl rfl 1 (by decide) (va_Nw.use rfl (hN _ n_38)) (fun _ h9 => h9) rfl dX11_end_9 ?_
    refine lv_icmp_le (tgt := 17) hx hb dX11_end_12 (by decide) (fun c_4 => ?_) (fun c_4 => ?_)
    · skip
      have h_5 : rg 0 1600 p0 := ⟨(h_3).1, Int.le_trans (c_le c_4 r1_1) (by decide)⟩
      refine lv_aload_n hx hb dX11_end_17 rfl (lv_at hl 0 rfl) ?_
      refine va_get (D := D) (ci := 11) (v := .ref (a 1)) (C := RX11) (T := TX11) (N := 12) hx hb hts iX11 hown hK hP 0 rfl rfl 0 (by decide) (hts _ m_433) (fun _ h9 => h9) rfl dX11_end_18 ?_
      refine lv_iload_n hx hb dX11_end_21 rfl (lv_at hl 1 rfl) ?_
      refine va_putN (D := D) (ci := 8) (v := .int p0) (ty := .int) (C := RX8) (T := TX8) (N := 2) (host := "WordSeats") hx hb hts iX8 tyX8 tyX8_ok nmX8 hown hK hP hD hS 1 rfl rfl 1 (by decide) (va_Nw.use rfl (hN _ n_38)) (fun _ h9 => h9) rfl (tyX8_ok 1 (by decide)) rfl rfl (Nat.le_of_ble_eq_true rfl) dX11_end_22 (fun H locs hP hD hS => ?_)
      have hP : va_P D classes [(a 0, .inr (11, [.ref (a 1), .ref (a 20), .ref (a 3), .ref (a 40), .ref (a 4), .int v0_5, .ref (a 5), .ref (a 14), .ref (a 15), .ref (a 16), .ref (a 17), .ref (a 18)])), (a 1, .inr (8, [.ref (a 2), .int p0]))] H := hP
      have hD : va_D A [(a 0, .inr (11, [.ref (a 1), .ref (a 20), .ref (a 3), .ref (a 40), .ref (a 4), .int v0_5, .ref (a 5), .ref (a 14), .ref (a 15), .ref (a 16), .ref (a 17), .ref (a 18)])), (a 1, .inr (8, [.ref (a 2), .int p0]))] := hD
      refine lv_iload_n hx hb dX11_end_25 rfl (lv_at hl 1 rfl) ?_
      have hP9 := hP.sub (ws' := [(a 0, .inr (11, [.ref (a 1), .ref (a 20), .ref (a 3), .ref (a 40), .ref (a 4), .int v0_5, .ref (a 5), .ref (a 14), .ref (a 15), .ref (a 16), .ref (a 17), .ref (a 18)])), (a 1, .inr (8, [.ref (a 2), .int p0]))]) [0, 1] rfl
      have hD9 := hD.sub (ws' := [(a 0, .inr (11, [.ref (a 1), .ref (a 20), .ref (a 3), .ref (a 40), .ref (a 4), .int v0_5, .ref (a 5), .ref (a 14), .ref (a 15), .ref (a 16), .ref (a 17), .ref (a 18)])), (a 1, .inr (8, [.ref (a 2), .int p0]))]) [0, 1] (by decide) rfl
      exact W.iret (v := p0) hx hb hr (fun t9 ht hW => ⟨⟨p0, (fun k => [p0].getD k 0, fun k => [].getD k (fun _ => 0), fun k => [].getD k (fun _ => 0), fun _ => 0), rfl, ⟨(rg_w (c := (-1)) (d := 1600) h_5 (by decide) (by decide)), h_5⟩, by rw [ht]; exact hP9, hD9⟩, hS.F ht⟩) hS.2.2 dX11_end_26
    · skip
      have h_6 : rg 1 2147483647 p0 := ⟨Int.le_trans (by decide) (c_nle c_4 r1_1), (h_3).2⟩
      refine lv_iconst (v := (-1)) hx hb dX11_end_15 (by decide) ?_
      have hP9 := hP.sub (ws' := [(a 0, .inr (11, [.ref (a 1), .ref (a 20), .ref (a 3), .ref (a 40), .ref (a 4), .int v0_5, .ref (a 5), .ref (a 14), .ref (a 15), .ref (a 16), .ref (a 17), .ref (a 18)])), (a 1, .inr (8, [.ref (a 2), .int v1_1]))]) [0, 1] rfl
      have hD9 := hD.sub (ws' := [(a 0, .inr (11, [.ref (a 1), .ref (a 20), .ref (a 3), .ref (a 40), .ref (a 4), .int v0_5, .ref (a 5), .ref (a 14), .ref (a 15), .ref (a 16), .ref (a 17), .ref (a 18)])), (a 1, .inr (8, [.ref (a 2), .int v1_1]))]) [0, 1] (by decide) rfl
      exact W.iret (v := (-1)) hx hb hr (fun t9 ht hW => ⟨⟨(-1), (fun k => [v1_1].getD k 0, fun k => [].getD k (fun _ => 0), fun k => [].getD k (fun _ => 0), fun _ => 0), rfl, ⟨(rg_w (c := (-1)) (d := 1600) (rg_c (x := (-1)) (k := (-1)) (by decide)) (by decide) (by decide)), r1_1⟩, by rw [ht]; exact hP9, hD9⟩, hS.F ht⟩) hS.2.2 dX11_end_16

set_option maxHeartbeats 4000000 in
set_option maxRecDepth 100000 in
theorem s_X11_fault (l : Launch) (D : va_G) (t : Nat → ClassId) (a : Nat → Nat) (v0_5 : Int32) (v3_2 : Int32) (v3_3 : Int32) (v3_4 : Int32) (v3_5 : Int32) (v3_6 : Int32) (v3_7 : Int32) (p0 : Int32) (r3_5 : rg 0 1600 v3_5) (r3_6 : rg 0 1600 v3_6) : Met l yX11_fault (wd yX11_fault cX11_fault 2 (some .int)) (RM 0 0 0) (PreP D (TY t) [.ref (a 0), .int p0] [(a 0, .inr (11, [.ref (a 1), .ref (a 20), .ref (a 3), .ref (a 40), .ref (a 4), .int v0_5, .ref (a 5), .ref (a 14), .ref (a 15), .ref (a 16), .ref (a 17), .ref (a 18)])), (a 3, .inr (4, [.ref (a 1), .ref (a 20), .int v3_2, .int v3_3, .int v3_4, .int v3_5, .int v3_6, .int v3_7]))]) (QP (fun _ => True)) 0 0 NoF := by
  refine Met.ofW (cc := cX11_fault) (maxL := 2) (ret := (some .int)) (by decide) rfl ?_
  intro p e s m args below meth c s₁ B hml hv
  obtain ⟨rfl, hP, hK, hN⟩ := hv
  have hx := B.exec
  have hb := B.bytes
  have hr := B.returns
  have hts : ∀ w ∈ TB, w.before _ s = true := fun w h => atoms_spec (ws := wd yX11_fault cX11_fault 2 (some .int)) B.pre w (List.mem_cons_of_mem _ h)
  have hown : s.vm.findClass RX11 = some m.cls := findClass_of_methodNamed B.named
  have hlocks := B.notSynchronized
  have hF : CallFix p m c cX11_fault 2 s _ TB RX11 := ⟨hx, hb, hml, hown, hts⟩
  have hl := lv_entry ([.ref (a 0), .int p0]) (n := 2) (Nat.le_of_ble_eq_true rfl)
  rw [lg_entry_eq]
  generalize (lg_sl ([.ref (a 0), .int p0]) ++ List.replicate (2 - (lg_sl ([.ref (a 0), .int p0])).length) Slot.unset).toArray = ls at hl ⊢
  have hl : lv_has ls 2 [(0, .ref (a 0)), (1, .int p0)] := hl
  have hS : va_S NoF s.heap s.heap [] := va_S.rf
  have hP : va_P D classes [(a 0, .inr (11, [.ref (a 1), .ref (a 20), .ref (a 3), .ref (a 40), .ref (a 4), .int v0_5, .ref (a 5), .ref (a 14), .ref (a 15), .ref (a 16), .ref (a 17), .ref (a 18)])), (a 3, .inr (4, [.ref (a 1), .ref (a 20), .int v3_2, .int v3_3, .int v3_4, .int v3_5, .int v3_6, .int v3_7]))] s.heap := hP
  refine lv_iload_n hx hb dX11_fault_0 rfl (lv_at hl 1 rfl) ?_
  by_cases s_1 : p0 = 0
  · refine x_seti 0 s_1 ?_
    refine lv_lookup (off := 27) (tgt := 28) hx hb dX11_fault_1 (by decide) (by decide) (by decide) ?_
    refine lv_aload_n hx hb dX11_fault_28 rfl (lv_at hl 0 rfl) ?_
    refine va_get (D := D) (ci := 11) (v := .ref (a 3)) (C := RX11) (T := TX11) (N := 12) hx hb hts iX11 hown hK hP 0 rfl rfl 2 (by decide) (hts _ m_435) (fun _ h9 => h9) rfl dX11_fault_29 ?_
    refine va_getN (D := D) (ci := 4) (v := .int v3_2) (C := RX4) (T := TX4) (N := 8) (host := "WordSeats") hx hb hts iX4 hown hK hP 1 rfl rfl 2 (by decide) (va_Nw.use rfl (hN _ n_242)) (fun _ h9 => h9) rfl dX11_fault_32 ?_
    exact W.iret (v := v3_2) hx hb hr (fun t9 ht hW => ⟨⟨v3_2, (), rfl, trivial, trivial⟩, hS.F ht⟩) hS.2.2 dX11_fault_35
  · by_cases s_2 : p0 = 1
    · refine x_seti 1 s_2 ?_
      refine lv_lookup (off := 35) (tgt := 36) hx hb dX11_fault_1 (by decide) (by decide) (by decide) ?_
      refine lv_aload_n hx hb dX11_fault_36 rfl (lv_at hl 0 rfl) ?_
      refine va_get (D := D) (ci := 11) (v := .ref (a 3)) (C := RX11) (T := TX11) (N := 12) hx hb hts iX11 hown hK hP 0 rfl rfl 2 (by decide) (hts _ m_435) (fun _ h9 => h9) rfl dX11_fault_37 ?_
      refine va_getN (D := D) (ci := 4) (v := .int v3_3) (C := RX4) (T := TX4) (N := 8) (host := "WordSeats") hx hb hts iX4 hown hK hP 1 rfl rfl 3 (by decide) (va_Nw.use rfl (hN _ n_244)) (fun _ h9 => h9) rfl dX11_fault_40 ?_
      exact W.iret (v := v3_3) hx hb hr (fun t9 ht hW => ⟨⟨v3_3, (), rfl, trivial, trivial⟩, hS.F ht⟩) hS.2.2 dX11_fault_43
    · refine lv_lookup (off := 43) (tgt := 44) hx hb dX11_fault_1 (by decide) ((lv_osw s_1 (by decide)).trans ((lv_osw s_2 (by decide)).trans rfl)) (by decide) ?_
      refine lv_iconst (v := (-1)) hx hb dX11_fault_44 (by decide) ?_
      exact W.iret (v := (-1)) hx hb hr (fun t9 ht hW => ⟨⟨(-1), (), rfl, trivial, trivial⟩, hS.F ht⟩) hS.2.2 dX11_fault_45

set_option maxHeartbeats 4000000 in
set_option maxRecDepth 100000 in
theorem s_X11_word (l : Launch) (D : va_G) (t : Nat → ClassId) (a : Nat → Nat) (v0_5 : Int32) (v40_0 : Int32) (v40_1 : Int32) (v40_2 : Int32) (v40_3 : Int32) (v40_4 : Int32) (v40_5 : Int32) (v40_6 : Int32) (v40_7 : Int32) (f42 : Nat → Int32) (f43 : Nat → Int32) (f44 : Nat → Int32) (f45 : Nat → Int32) (v54_0 : Int32) (v54_1 : Int32) (v54_2 : Int32) (f55 : Nat → Int32) (p0 : Int32) (p1 : Int32) (r40_1 : rg 0 8 v40_1) (r40_5 : rg 0 4 v40_5) (r40_6 : rg 0 9 v40_6) (r40_7 : rg 0 9 v40_7) (q43 : ∀ j, j < 9 → rg 0 3 (f43 j)) (q44 : ∀ j, j < 9 → rg 0 3 (f44 j)) (r54_0 : rg 0 60 v54_0) : Met l yX11_word (wd yX11_word cX11_word 3 (some .int)) (RM 1 0 0) (PreP D (TY t) [.ref (a 0), .int p0, .int p1] [(a 0, .inr (11, [.ref (a 1), .ref (a 20), .ref (a 3), .ref (a 40), .ref (a 4), .int v0_5, .ref (a 5), .ref (a 14), .ref (a 15), .ref (a 16), .ref (a 17), .ref (a 18)])), (a 40, .inr (0, [.int v40_0, .int v40_1, .int v40_2, .int v40_3, .int v40_4, .int v40_5, .int v40_6, .int v40_7, .ref (a 41), .ref (a 42), .ref (a 43), .ref (a 44), .ref (a 45), .ref (a 46), .ref (a 47), .ref (a 48), .ref (a 49), .ref (a 50), .ref (a 54)])), (a 42, .inl (t 0, 9, .inl f42)), (a 43, .inl (t 0, 9, .inl f43)), (a 44, .inl (t 0, 9, .inl f44)), (a 45, .inl (t 0, 9, .inl f45)), (a 54, .inr (9, [.int v54_0, .int v54_1, .int v54_2, .ref (a 55), .ref (a 56), .ref (a 57), .ref (a 58)])), (a 55, .inl (t 0, 9, .inl f55))]) (QP (fun _ => True)) 0 0 NoF := by
  refine Met.ofW (cc := cX11_word) (maxL := 3) (ret := (some .int)) (by decide) rfl ?_
  intro p e s m args below meth c s₁ B hml hv
  obtain ⟨rfl, hP, hK, hN⟩ := hv
  have hx := B.exec
  have hb := B.bytes
  have hr := B.returns
  have hts : ∀ w ∈ TB, w.before _ s = true := fun w h => atoms_spec (ws := wd yX11_word cX11_word 3 (some .int)) B.pre w (List.mem_cons_of_mem _ h)
  have hown : s.vm.findClass RX11 = some m.cls := findClass_of_methodNamed B.named
  have hlocks := B.notSynchronized
  have hF : CallFix p m c cX11_word 3 s _ TB RX11 := ⟨hx, hb, hml, hown, hts⟩
  have hl := lv_entry ([.ref (a 0), .int p0, .int p1]) (n := 3) (Nat.le_of_ble_eq_true rfl)
  rw [lg_entry_eq]
  generalize (lg_sl ([.ref (a 0), .int p0, .int p1]) ++ List.replicate (3 - (lg_sl ([.ref (a 0), .int p0, .int p1])).length) Slot.unset).toArray = ls at hl ⊢
  have hl : lv_has ls 3 [(0, .ref (a 0)), (1, .int p0), (2, .int p1)] := hl
  have hS : va_S NoF s.heap s.heap [] := va_S.rf
  have hP : va_P D classes [(a 0, .inr (11, [.ref (a 1), .ref (a 20), .ref (a 3), .ref (a 40), .ref (a 4), .int v0_5, .ref (a 5), .ref (a 14), .ref (a 15), .ref (a 16), .ref (a 17), .ref (a 18)])), (a 40, .inr (0, [.int v40_0, .int v40_1, .int v40_2, .int v40_3, .int v40_4, .int v40_5, .int v40_6, .int v40_7, .ref (a 41), .ref (a 42), .ref (a 43), .ref (a 44), .ref (a 45), .ref (a 46), .ref (a 47), .ref (a 48), .ref (a 49), .ref (a 50), .ref (a 54)])), (a 42, .inl (t 0, 9, .inl f42)), (a 43, .inl (t 0, 9, .inl f43)), (a 44, .inl (t 0, 9, .inl f44)), (a 45, .inl (t 0, 9, .inl f45)), (a 54, .inr (9, [.int v54_0, .int v54_1, .int v54_2, .ref (a 55), .ref (a 56), .ref (a 57), .ref (a 58)])), (a 55, .inl (t 0, 9, .inl f55))] s.heap := hP
  refine lv_aload_n hx hb dX11_word_0 rfl (lv_at hl 0 rfl) ?_
  refine va_get (D := D) (ci := 11) (v := .ref (a 40)) (C := RX11) (T := TX11) (N := 12) hx hb hts iX11 hown hK hP 0 rfl rfl 3 (by decide) (hts _ m_436) (fun _ h9 => h9) rfl dX11_word_1 ?_
  refine lv_iload_n hx hb dX11_word_4 rfl (lv_at hl 1 rfl) ?_
  refine y_pV hF (s_X0_hasWord_40 l D t a v40_0 v40_1 v40_2 v40_3 v40_4 v40_5 v40_6 v40_7 p0 r40_1 r40_5 r40_6 r40_7) m_702 m_703 m_704 m_3 m_705 hd_X0_hasWord ⟨Nat.le_of_ble_eq_true rfl, Nat.le_of_ble_eq_true rfl⟩ hK hN hP hS [1] rfl 0 (ci := 0) rfl rfl rfl hl.1 rfl (Nat.le_of_ble_eq_true rfl) dX11_word_5 ⟨Nat.zero_le _, Nat.zero_le _⟩ (fun r_1 H locs hr_1 hP hS => ?_)
  refine lv_if_ne (tgt := 14) hx hb dX11_word_8 (by decide) (fun c_2 => ?_) (fun c_2 => ?_)
  · skip
    have o_3 := Or.resolve_left hr_1.2 c_2
    refine lv_iload_n hx hb dX11_word_14 rfl (lv_at hl 2 rfl) ?_
    by_cases s_4 : p1 = 0
    · refine x_seti 0 s_4 ?_
      refine lv_tableIn (off := 37) (tgt := 52) hx hb dX11_word_15 (by decide) (by decide) rfl (by decide) ?_
      refine lv_aload_n hx hb dX11_word_52 rfl (lv_at hl 0 rfl) ?_
      refine va_get (D := D) (ci := 11) (v := .ref (a 40)) (C := RX11) (T := TX11) (N := 12) hx hb hts iX11 hown hK hP 0 rfl rfl 3 (by decide) (hts _ m_436) (fun _ h9 => h9) rfl dX11_word_53 ?_
      refine va_getN (D := D) (ci := 0) (v := .ref (a 42)) (C := RX0) (T := TX0) (N := 19) (host := "WordSeats") hx hb hts iX0 hown hK hP 1 rfl rfl 9 (by decide) (va_Nw.use rfl (hN _ n_159)) (fun _ h9 => h9) rfl dX11_word_56 ?_
      refine lv_iload_n hx hb dX11_word_59 rfl (lv_at hl 1 rfl) ?_
      refine va_iald hx hb hK hP 2 0 rfl rfl (in_rg o_3 (by decide) (by decide)) dX11_word_60 ?_
      refine lv_topi (fun x_5 ex_5 => ?_)
      exact W.iret (v := x_5) hx hb hr (fun t9 ht hW => ⟨⟨x_5, (), rfl, trivial, trivial⟩, hS.F ht⟩) hS.2.2 dX11_word_61
    · by_cases s_6 : p1 = 1
      · refine x_seti 1 s_6 ?_
        refine lv_tableIn (off := 47) (tgt := 62) hx hb dX11_word_15 (by decide) (by decide) rfl (by decide) ?_
        refine lv_aload_n hx hb dX11_word_62 rfl (lv_at hl 0 rfl) ?_
        refine va_get (D := D) (ci := 11) (v := .ref (a 40)) (C := RX11) (T := TX11) (N := 12) hx hb hts iX11 hown hK hP 0 rfl rfl 3 (by decide) (hts _ m_436) (fun _ h9 => h9) rfl dX11_word_63 ?_
        refine va_getN (D := D) (ci := 0) (v := .ref (a 43)) (C := RX0) (T := TX0) (N := 19) (host := "WordSeats") hx hb hts iX0 hown hK hP 1 rfl rfl 10 (by decide) (va_Nw.use rfl (hN _ n_162)) (fun _ h9 => h9) rfl dX11_word_66 ?_
        refine lv_iload_n hx hb dX11_word_69 rfl (lv_at hl 1 rfl) ?_
        refine va_iald hx hb hK hP 3 0 rfl rfl (in_rg o_3 (by decide) (by decide)) dX11_word_70 ?_
        refine lv_topi (fun x_7 ex_7 => ?_)
        have hx_7 : rg 0 3 x_7 := by rw [ex_7]; exact q43 _ (cl_rg o_3 (by decide) (by decide))
        exact W.iret (v := x_7) hx hb hr (fun t9 ht hW => ⟨⟨x_7, (), rfl, trivial, trivial⟩, hS.F ht⟩) hS.2.2 dX11_word_71
      · by_cases s_8 : p1 = 2
        · refine x_seti 2 s_8 ?_
          refine lv_tableIn (off := 57) (tgt := 72) hx hb dX11_word_15 (by decide) (by decide) rfl (by decide) ?_
          refine lv_aload_n hx hb dX11_word_72 rfl (lv_at hl 0 rfl) ?_
          refine va_get (D := D) (ci := 11) (v := .ref (a 40)) (C := RX11) (T := TX11) (N := 12) hx hb hts iX11 hown hK hP 0 rfl rfl 3 (by decide) (hts _ m_436) (fun _ h9 => h9) rfl dX11_word_73 ?_
          refine va_getN (D := D) (ci := 0) (v := .ref (a 44)) (C := RX0) (T := TX0) (N := 19) (host := "WordSeats") hx hb hts iX0 hown hK hP 1 rfl rfl 11 (by decide) (va_Nw.use rfl (hN _ n_167)) (fun _ h9 => h9) rfl dX11_word_76 ?_
          refine lv_iload_n hx hb dX11_word_79 rfl (lv_at hl 1 rfl) ?_
          refine va_iald hx hb hK hP 4 0 rfl rfl (in_rg o_3 (by decide) (by decide)) dX11_word_80 ?_
          refine lv_topi (fun x_9 ex_9 => ?_)
          have hx_9 : rg 0 3 x_9 := by rw [ex_9]; exact q44 _ (cl_rg o_3 (by decide) (by decide))
          exact W.iret (v := x_9) hx hb hr (fun t9 ht hW => ⟨⟨x_9, (), rfl, trivial, trivial⟩, hS.F ht⟩) hS.2.2 dX11_word_81
        · by_cases s_10 : p1 = 3
          · refine x_seti 3 s_10 ?_
            refine lv_tableIn (off := 67) (tgt := 82) hx hb dX11_word_15 (by decide) (by decide) rfl (by decide) ?_
            refine lv_aload_n hx hb dX11_word_82 rfl (lv_at hl 0 rfl) ?_
            refine va_get (D := D) (ci := 11) (v := .ref (a 40)) (C := RX11) (T := TX11) (N := 12) hx hb hts iX11 hown hK hP 0 rfl rfl 3 (by decide) (hts _ m_436) (fun _ h9 => h9) rfl dX11_word_83 ?_
            refine va_getN (D := D) (ci := 0) (v := .ref (a 45)) (C := RX0) (T := TX0) (N := 19) (host := "WordSeats") hx hb hts iX0 hown hK hP 1 rfl rfl 12 (by decide) (va_Nw.use rfl (hN _ n_171)) (fun _ h9 => h9) rfl dX11_word_86 ?_
            refine lv_iload_n hx hb dX11_word_89 rfl (lv_at hl 1 rfl) ?_
            refine va_iald hx hb hK hP 5 0 rfl rfl (in_rg o_3 (by decide) (by decide)) dX11_word_90 ?_
            refine lv_topi (fun x_11 ex_11 => ?_)
            exact W.iret (v := x_11) hx hb hr (fun t9 ht hW => ⟨⟨x_11, (), rfl, trivial, trivial⟩, hS.F ht⟩) hS.2.2 dX11_word_91
          · by_cases s_12 : p1 = 4
            · refine x_seti 4 s_12 ?_
              refine lv_tableIn (off := 77) (tgt := 92) hx hb dX11_word_15 (by decide) (by decide) rfl (by decide) ?_
              refine lv_aload_n hx hb dX11_word_92 rfl (lv_at hl 0 rfl) ?_
              refine va_get (D := D) (ci := 11) (v := .ref (a 40)) (C := RX11) (T := TX11) (N := 12) hx hb hts iX11 hown hK hP 0 rfl rfl 3 (by decide) (hts _ m_436) (fun _ h9 => h9) rfl dX11_word_93 ?_
              refine va_getN (D := D) (ci := 0) (v := .ref (a 54)) (C := RX0) (T := TX0) (N := 19) (host := "WordSeats") hx hb hts iX0 hown hK hP 1 rfl rfl 18 (by decide) (va_Nw.use rfl (hN _ n_191)) (fun _ h9 => h9) rfl dX11_word_96 ?_
              refine va_getN (D := D) (ci := 9) (v := .ref (a 55)) (C := RX9) (T := TX9) (N := 7) (host := "WordSeats") hx hb hts iX9 hown hK hP 6 rfl rfl 3 (by decide) (va_Nw.use rfl (hN _ n_97)) (fun _ h9 => h9) rfl dX11_word_99 ?_
              refine lv_iload_n hx hb dX11_word_102 rfl (lv_at hl 1 rfl) ?_
              refine va_iald hx hb hK hP 7 0 rfl rfl (in_rg o_3 (by decide) (by decide)) dX11_word_103 ?_
              refine lv_topi (fun x_13 ex_13 => ?_)
              exact W.iret (v := x_13) hx hb hr (fun t9 ht hW => ⟨⟨x_13, (), rfl, trivial, trivial⟩, hS.F ht⟩) hS.2.2 dX11_word_104
            · by_cases s_14 : p1 = 5
              · refine x_seti 5 s_14 ?_
                refine lv_tableIn (off := 90) (tgt := 105) hx hb dX11_word_15 (by decide) (by decide) rfl (by decide) ?_
                refine lv_aload_n hx hb dX11_word_105 rfl (lv_at hl 0 rfl) ?_
                refine va_get (D := D) (ci := 11) (v := .ref (a 40)) (C := RX11) (T := TX11) (N := 12) hx hb hts iX11 hown hK hP 0 rfl rfl 3 (by decide) (hts _ m_436) (fun _ h9 => h9) rfl dX11_word_106 ?_
                refine va_getN (D := D) (ci := 0) (v := .ref (a 54)) (C := RX0) (T := TX0) (N := 19) (host := "WordSeats") hx hb hts iX0 hown hK hP 1 rfl rfl 18 (by decide) (va_Nw.use rfl (hN _ n_191)) (fun _ h9 => h9) rfl dX11_word_109 ?_
                refine va_getN (D := D) (ci := 9) (v := .int v54_2) (C := RX9) (T := TX9) (N := 7) (host := "WordSeats") hx hb hts iX9 hown hK hP 6 rfl rfl 2 (by decide) (va_Nw.use rfl (hN _ n_92)) (fun _ h9 => h9) rfl dX11_word_112 ?_
                refine lv_iload_n hx hb dX11_word_115 rfl (lv_at hl 1 rfl) ?_
                refine y_pS hF (s_X11_holds l D t a v54_2 p0) m_706 m_707 m_1 m_708 hd_X11_holds ⟨Nat.le_of_ble_eq_true rfl, Nat.le_of_ble_eq_true rfl⟩ hK hN hP hS [] rfl hl.1 rfl (Nat.le_of_ble_eq_true rfl) dX11_word_116 ⟨Nat.zero_le _, Nat.zero_le _⟩ (fun r_15 H locs hr_15 hP hS => ?_)
                refine lv_if_eq (tgt := 126) hx hb dX11_word_119 (by decide) (fun c_16 => ?_) (fun c_16 => ?_)
                · skip
                  have h_17 : rg 0 0 r_15 := rg_eq c_16 (rg_c (x := 0) (k := 0) (by decide))
                  refine lv_iconst (v := 0) hx hb dX11_word_126 (by decide) ?_
                  exact W.iret (v := 0) hx hb hr (fun t9 ht hW => ⟨⟨0, (), rfl, trivial, trivial⟩, hS.F ht⟩) hS.2.2 dX11_word_127
                · skip
                  have h_18 : rg 1 1 r_15 := rg_w (rg_neL hr_15 c_16 (by decide)) (by decide) (by decide)
                  refine lv_iconst (v := 1) hx hb dX11_word_122 (by decide) ?_
                  refine lv_goto (tgt := 127) hx hb dX11_word_123 (by decide) ?_
                  exact W.iret (v := 1) hx hb hr (fun t9 ht hW => ⟨⟨1, (), rfl, trivial, trivial⟩, hS.F ht⟩) hS.2.2 dX11_word_127
              · refine lv_tableOut (tgt := 128) hx hb dX11_word_15 (by have q0 := c_ne s_4 (k := 0) (by decide); have q1 := c_ne s_6 (k := 1) (by decide); have q2 := c_ne s_8 (k := 2) (by decide); have q3 := c_ne s_10 (k := 3) (by decide); have q4 := c_ne s_12 (k := 4) (by decide); have q5 := c_ne s_14 (k := 5) (by decide); omega) (by decide) ?_
                refine lv_bipush (v := (-2)) hx hb dX11_word_128 (by decide) ?_
                exact W.iret (v := (-2)) hx hb hr (fun t9 ht hW => ⟨⟨(-2), (), rfl, trivial, trivial⟩, hS.F ht⟩) hS.2.2 dX11_word_130
  · skip
    refine lv_bipush (v := (-2)) hx hb dX11_word_11 (by decide) ?_
    exact W.iret (v := (-2)) hx hb hr (fun t9 ht hW => ⟨⟨(-2), (), rfl, trivial, trivial⟩, hS.F ht⟩) hS.2.2 dX11_word_13

set_option maxHeartbeats 4000000 in
set_option maxRecDepth 100000 in
theorem s_X11_speaker (l : Launch) (D : va_G) (t : Nat → ClassId) (a : Nat → Nat) (v0_5 : Int32) (v40_0 : Int32) (v40_1 : Int32) (v40_2 : Int32) (v40_3 : Int32) (v40_4 : Int32) (v40_5 : Int32) (v40_6 : Int32) (v40_7 : Int32) (f46 : Nat → Int32) (f47 : Nat → Int32) (f48 : Nat → Int32) (f49 : Nat → Int32) (p0 : Int32) (p1 : Int32) (r40_1 : rg 0 8 v40_1) (r40_5 : rg 0 4 v40_5) (r40_6 : rg 0 9 v40_6) (r40_7 : rg 0 9 v40_7) : Met l yX11_speaker (wd yX11_speaker cX11_speaker 3 (some .int)) (RM 1 0 0) (PreP D (TY t) [.ref (a 0), .int p0, .int p1] [(a 0, .inr (11, [.ref (a 1), .ref (a 20), .ref (a 3), .ref (a 40), .ref (a 4), .int v0_5, .ref (a 5), .ref (a 14), .ref (a 15), .ref (a 16), .ref (a 17), .ref (a 18)])), (a 40, .inr (0, [.int v40_0, .int v40_1, .int v40_2, .int v40_3, .int v40_4, .int v40_5, .int v40_6, .int v40_7, .ref (a 41), .ref (a 42), .ref (a 43), .ref (a 44), .ref (a 45), .ref (a 46), .ref (a 47), .ref (a 48), .ref (a 49), .ref (a 50), .ref (a 54)])), (a 46, .inl (t 0, 9, .inl f46)), (a 47, .inl (t 0, 9, .inl f47)), (a 48, .inl (t 0, 9, .inl f48)), (a 49, .inl (t 0, 9, .inl f49))]) (QP (fun _ => True)) 0 0 NoF := by
  refine Met.ofW (cc := cX11_speaker) (maxL := 3) (ret := (some .int)) (by decide) rfl ?_
  intro p e s m args below meth c s₁ B hml hv
  obtain ⟨rfl, hP, hK, hN⟩ := hv
  have hx := B.exec
  have hb := B.bytes
  have hr := B.returns
  have hts : ∀ w ∈ TB, w.before _ s = true := fun w h => atoms_spec (ws := wd yX11_speaker cX11_speaker 3 (some .int)) B.pre w (List.mem_cons_of_mem _ h)
  have hown : s.vm.findClass RX11 = some m.cls := findClass_of_methodNamed B.named
  have hlocks := B.notSynchronized
  have hF : CallFix p m c cX11_speaker 3 s _ TB RX11 := ⟨hx, hb, hml, hown, hts⟩
  have hl := lv_entry ([.ref (a 0), .int p0, .int p1]) (n := 3) (Nat.le_of_ble_eq_true rfl)
  rw [lg_entry_eq]
  generalize (lg_sl ([.ref (a 0), .int p0, .int p1]) ++ List.replicate (3 - (lg_sl ([.ref (a 0), .int p0, .int p1])).length) Slot.unset).toArray = ls at hl ⊢
  have hl : lv_has ls 3 [(0, .ref (a 0)), (1, .int p0), (2, .int p1)] := hl
  have hS : va_S NoF s.heap s.heap [] := va_S.rf
  have hP : va_P D classes [(a 0, .inr (11, [.ref (a 1), .ref (a 20), .ref (a 3), .ref (a 40), .ref (a 4), .int v0_5, .ref (a 5), .ref (a 14), .ref (a 15), .ref (a 16), .ref (a 17), .ref (a 18)])), (a 40, .inr (0, [.int v40_0, .int v40_1, .int v40_2, .int v40_3, .int v40_4, .int v40_5, .int v40_6, .int v40_7, .ref (a 41), .ref (a 42), .ref (a 43), .ref (a 44), .ref (a 45), .ref (a 46), .ref (a 47), .ref (a 48), .ref (a 49), .ref (a 50), .ref (a 54)])), (a 46, .inl (t 0, 9, .inl f46)), (a 47, .inl (t 0, 9, .inl f47)), (a 48, .inl (t 0, 9, .inl f48)), (a 49, .inl (t 0, 9, .inl f49))] s.heap := hP
  refine lv_aload_n hx hb dX11_speaker_0 rfl (lv_at hl 0 rfl) ?_
  refine va_get (D := D) (ci := 11) (v := .ref (a 40)) (C := RX11) (T := TX11) (N := 12) hx hb hts iX11 hown hK hP 0 rfl rfl 3 (by decide) (hts _ m_436) (fun _ h9 => h9) rfl dX11_speaker_1 ?_
  refine lv_iload_n hx hb dX11_speaker_4 rfl (lv_at hl 1 rfl) ?_
  refine y_pV hF (s_X0_hasSpeaker_40 l D t a v40_0 v40_1 v40_2 v40_3 v40_4 v40_5 v40_6 v40_7 p0 r40_1 r40_5 r40_6 r40_7) m_713 m_714 m_715 m_3 m_716 hd_X0_hasSpeaker ⟨Nat.le_of_ble_eq_true rfl, Nat.le_of_ble_eq_true rfl⟩ hK hN hP hS [1] rfl 0 (ci := 0) rfl rfl rfl hl.1 rfl (Nat.le_of_ble_eq_true rfl) dX11_speaker_5 ⟨Nat.zero_le _, Nat.zero_le _⟩ (fun r_1 H locs hr_1 hP hS => ?_)
  refine lv_if_ne (tgt := 14) hx hb dX11_speaker_8 (by decide) (fun c_2 => ?_) (fun c_2 => ?_)
  · skip
    have o_3 := Or.resolve_left hr_1.2 c_2
    refine lv_iload_n hx hb dX11_speaker_14 rfl (lv_at hl 2 rfl) ?_
    by_cases s_4 : p1 = 0
    · refine x_seti 0 s_4 ?_
      refine lv_tableIn (off := 29) (tgt := 44) hx hb dX11_speaker_15 (by decide) (by decide) rfl (by decide) ?_
      refine lv_aload_n hx hb dX11_speaker_44 rfl (lv_at hl 0 rfl) ?_
      refine va_get (D := D) (ci := 11) (v := .ref (a 40)) (C := RX11) (T := TX11) (N := 12) hx hb hts iX11 hown hK hP 0 rfl rfl 3 (by decide) (hts _ m_436) (fun _ h9 => h9) rfl dX11_speaker_45 ?_
      refine va_getN (D := D) (ci := 0) (v := .ref (a 46)) (C := RX0) (T := TX0) (N := 19) (host := "WordSeats") hx hb hts iX0 hown hK hP 1 rfl rfl 13 (by decide) (va_Nw.use rfl (hN _ n_173)) (fun _ h9 => h9) rfl dX11_speaker_48 ?_
      refine lv_iload_n hx hb dX11_speaker_51 rfl (lv_at hl 1 rfl) ?_
      refine va_iald hx hb hK hP 2 0 rfl rfl (in_rg o_3 (by decide) (by decide)) dX11_speaker_52 ?_
      refine lv_topi (fun x_5 ex_5 => ?_)
      exact W.iret (v := x_5) hx hb hr (fun t9 ht hW => ⟨⟨x_5, (), rfl, trivial, trivial⟩, hS.F ht⟩) hS.2.2 dX11_speaker_53
    · by_cases s_6 : p1 = 1
      · refine x_seti 1 s_6 ?_
        refine lv_tableIn (off := 39) (tgt := 54) hx hb dX11_speaker_15 (by decide) (by decide) rfl (by decide) ?_
        refine lv_aload_n hx hb dX11_speaker_54 rfl (lv_at hl 0 rfl) ?_
        refine va_get (D := D) (ci := 11) (v := .ref (a 40)) (C := RX11) (T := TX11) (N := 12) hx hb hts iX11 hown hK hP 0 rfl rfl 3 (by decide) (hts _ m_436) (fun _ h9 => h9) rfl dX11_speaker_55 ?_
        refine va_getN (D := D) (ci := 0) (v := .ref (a 47)) (C := RX0) (T := TX0) (N := 19) (host := "WordSeats") hx hb hts iX0 hown hK hP 1 rfl rfl 14 (by decide) (va_Nw.use rfl (hN _ n_176)) (fun _ h9 => h9) rfl dX11_speaker_58 ?_
        refine lv_iload_n hx hb dX11_speaker_61 rfl (lv_at hl 1 rfl) ?_
        refine va_iald hx hb hK hP 3 0 rfl rfl (in_rg o_3 (by decide) (by decide)) dX11_speaker_62 ?_
        refine lv_topi (fun x_7 ex_7 => ?_)
        exact W.iret (v := x_7) hx hb hr (fun t9 ht hW => ⟨⟨x_7, (), rfl, trivial, trivial⟩, hS.F ht⟩) hS.2.2 dX11_speaker_63
      · by_cases s_8 : p1 = 2
        · refine x_seti 2 s_8 ?_
          refine lv_tableIn (off := 49) (tgt := 64) hx hb dX11_speaker_15 (by decide) (by decide) rfl (by decide) ?_
          refine lv_aload_n hx hb dX11_speaker_64 rfl (lv_at hl 0 rfl) ?_
          refine va_get (D := D) (ci := 11) (v := .ref (a 40)) (C := RX11) (T := TX11) (N := 12) hx hb hts iX11 hown hK hP 0 rfl rfl 3 (by decide) (hts _ m_436) (fun _ h9 => h9) rfl dX11_speaker_65 ?_
          refine va_getN (D := D) (ci := 0) (v := .ref (a 48)) (C := RX0) (T := TX0) (N := 19) (host := "WordSeats") hx hb hts iX0 hown hK hP 1 rfl rfl 15 (by decide) (va_Nw.use rfl (hN _ n_180)) (fun _ h9 => h9) rfl dX11_speaker_68 ?_
          refine lv_iload_n hx hb dX11_speaker_71 rfl (lv_at hl 1 rfl) ?_
          refine va_iald hx hb hK hP 4 0 rfl rfl (in_rg o_3 (by decide) (by decide)) dX11_speaker_72 ?_
          refine lv_topi (fun x_9 ex_9 => ?_)
          exact W.iret (v := x_9) hx hb hr (fun t9 ht hW => ⟨⟨x_9, (), rfl, trivial, trivial⟩, hS.F ht⟩) hS.2.2 dX11_speaker_73
        · by_cases s_10 : p1 = 3
          · refine x_seti 3 s_10 ?_
            refine lv_tableIn (off := 59) (tgt := 74) hx hb dX11_speaker_15 (by decide) (by decide) rfl (by decide) ?_
            refine lv_aload_n hx hb dX11_speaker_74 rfl (lv_at hl 0 rfl) ?_
            refine va_get (D := D) (ci := 11) (v := .ref (a 40)) (C := RX11) (T := TX11) (N := 12) hx hb hts iX11 hown hK hP 0 rfl rfl 3 (by decide) (hts _ m_436) (fun _ h9 => h9) rfl dX11_speaker_75 ?_
            refine va_getN (D := D) (ci := 0) (v := .ref (a 49)) (C := RX0) (T := TX0) (N := 19) (host := "WordSeats") hx hb hts iX0 hown hK hP 1 rfl rfl 16 (by decide) (va_Nw.use rfl (hN _ n_183)) (fun _ h9 => h9) rfl dX11_speaker_78 ?_
            refine lv_iload_n hx hb dX11_speaker_81 rfl (lv_at hl 1 rfl) ?_
            refine va_iald hx hb hK hP 5 0 rfl rfl (in_rg o_3 (by decide) (by decide)) dX11_speaker_82 ?_
            refine lv_topi (fun x_11 ex_11 => ?_)
            exact W.iret (v := x_11) hx hb hr (fun t9 ht hW => ⟨⟨x_11, (), rfl, trivial, trivial⟩, hS.F ht⟩) hS.2.2 dX11_speaker_83
          · refine lv_tableOut (tgt := 84) hx hb dX11_speaker_15 (by have q0 := c_ne s_4 (k := 0) (by decide); have q1 := c_ne s_6 (k := 1) (by decide); have q2 := c_ne s_8 (k := 2) (by decide); have q3 := c_ne s_10 (k := 3) (by decide); omega) (by decide) ?_
            refine lv_bipush (v := (-2)) hx hb dX11_speaker_84 (by decide) ?_
            exact W.iret (v := (-2)) hx hb hr (fun t9 ht hW => ⟨⟨(-2), (), rfl, trivial, trivial⟩, hS.F ht⟩) hS.2.2 dX11_speaker_86
  · skip
    refine lv_bipush (v := (-2)) hx hb dX11_speaker_11 (by decide) ?_
    exact W.iret (v := (-2)) hx hb hr (fun t9 ht hW => ⟨⟨(-2), (), rfl, trivial, trivial⟩, hS.F ht⟩) hS.2.2 dX11_speaker_13

set_option maxHeartbeats 4000000 in
set_option maxRecDepth 100000 in
theorem s_X11_district (l : Launch) (D : va_G) (t : Nat → ClassId) (a : Nat → Nat) (v0_5 : Int32) (v40_0 : Int32) (v40_1 : Int32) (v40_2 : Int32) (v40_3 : Int32) (v40_4 : Int32) (v40_5 : Int32) (v40_6 : Int32) (v40_7 : Int32) (f41 : Nat → Int32) (f43 : Nat → Int32) (f46 : Nat → Int32) (f47 : Nat → Int32) (v54_0 : Int32) (v54_1 : Int32) (v54_2 : Int32) (p0 : Int32) (p1 : Int32) (r40_1 : rg 0 8 v40_1) (r40_5 : rg 0 4 v40_5) (r40_6 : rg 0 9 v40_6) (r40_7 : rg 0 9 v40_7) (q43 : ∀ j, j < 9 → rg 0 3 (f43 j)) (r54_0 : rg 0 60 v54_0) : Met l yX11_district (wd yX11_district cX11_district 3 (some .int)) (RM 2 0 0) (PreP D (TY t) [.ref (a 0), .int p0, .int p1] [(a 0, .inr (11, [.ref (a 1), .ref (a 20), .ref (a 3), .ref (a 40), .ref (a 4), .int v0_5, .ref (a 5), .ref (a 14), .ref (a 15), .ref (a 16), .ref (a 17), .ref (a 18)])), (a 40, .inr (0, [.int v40_0, .int v40_1, .int v40_2, .int v40_3, .int v40_4, .int v40_5, .int v40_6, .int v40_7, .ref (a 41), .ref (a 42), .ref (a 43), .ref (a 44), .ref (a 45), .ref (a 46), .ref (a 47), .ref (a 48), .ref (a 49), .ref (a 50), .ref (a 54)])), (a 41, .inl (t 0, 4, .inl f41)), (a 43, .inl (t 0, 9, .inl f43)), (a 46, .inl (t 0, 9, .inl f46)), (a 47, .inl (t 0, 9, .inl f47)), (a 54, .inr (9, [.int v54_0, .int v54_1, .int v54_2, .ref (a 55), .ref (a 56), .ref (a 57), .ref (a 58)]))]) (QP (fun _ => True)) 0 0 NoF := by
  refine Met.ofW (cc := cX11_district) (maxL := 3) (ret := (some .int)) (by decide) rfl ?_
  intro p e s m args below meth c s₁ B hml hv
  obtain ⟨rfl, hP, hK, hN⟩ := hv
  have hx := B.exec
  have hb := B.bytes
  have hr := B.returns
  have hts : ∀ w ∈ TB, w.before _ s = true := fun w h => atoms_spec (ws := wd yX11_district cX11_district 3 (some .int)) B.pre w (List.mem_cons_of_mem _ h)
  have hown : s.vm.findClass RX11 = some m.cls := findClass_of_methodNamed B.named
  have hlocks := B.notSynchronized
  have hF : CallFix p m c cX11_district 3 s _ TB RX11 := ⟨hx, hb, hml, hown, hts⟩
  have hl := lv_entry ([.ref (a 0), .int p0, .int p1]) (n := 3) (Nat.le_of_ble_eq_true rfl)
  rw [lg_entry_eq]
  generalize (lg_sl ([.ref (a 0), .int p0, .int p1]) ++ List.replicate (3 - (lg_sl ([.ref (a 0), .int p0, .int p1])).length) Slot.unset).toArray = ls at hl ⊢
  have hl : lv_has ls 3 [(0, .ref (a 0)), (1, .int p0), (2, .int p1)] := hl
  have hS : va_S NoF s.heap s.heap [] := va_S.rf
  have hP : va_P D classes [(a 0, .inr (11, [.ref (a 1), .ref (a 20), .ref (a 3), .ref (a 40), .ref (a 4), .int v0_5, .ref (a 5), .ref (a 14), .ref (a 15), .ref (a 16), .ref (a 17), .ref (a 18)])), (a 40, .inr (0, [.int v40_0, .int v40_1, .int v40_2, .int v40_3, .int v40_4, .int v40_5, .int v40_6, .int v40_7, .ref (a 41), .ref (a 42), .ref (a 43), .ref (a 44), .ref (a 45), .ref (a 46), .ref (a 47), .ref (a 48), .ref (a 49), .ref (a 50), .ref (a 54)])), (a 41, .inl (t 0, 4, .inl f41)), (a 43, .inl (t 0, 9, .inl f43)), (a 46, .inl (t 0, 9, .inl f46)), (a 47, .inl (t 0, 9, .inl f47)), (a 54, .inr (9, [.int v54_0, .int v54_1, .int v54_2, .ref (a 55), .ref (a 56), .ref (a 57), .ref (a 58)]))] s.heap := hP
  refine lv_aload_n hx hb dX11_district_0 rfl (lv_at hl 0 rfl) ?_
  refine va_get (D := D) (ci := 11) (v := .ref (a 40)) (C := RX11) (T := TX11) (N := 12) hx hb hts iX11 hown hK hP 0 rfl rfl 3 (by decide) (hts _ m_436) (fun _ h9 => h9) rfl dX11_district_1 ?_
  refine lv_iload_n hx hb dX11_district_4 rfl (lv_at hl 1 rfl) ?_
  refine y_pV hF (s_X0_hasDistrict_40 l D t a v40_0 v40_1 v40_2 v40_3 v40_4 v40_5 v40_6 v40_7 p0 r40_1 r40_5 r40_6 r40_7) m_721 m_722 m_723 m_3 m_724 hd_X0_hasDistrict ⟨Nat.le_of_ble_eq_true rfl, Nat.le_of_ble_eq_true rfl⟩ hK hN hP hS [1] rfl 0 (ci := 0) rfl rfl rfl hl.1 rfl (Nat.le_of_ble_eq_true rfl) dX11_district_5 ⟨Nat.zero_le _, Nat.zero_le _⟩ (fun r_1 H locs hr_1 hP hS => ?_)
  refine lv_if_ne (tgt := 14) hx hb dX11_district_8 (by decide) (fun c_2 => ?_) (fun c_2 => ?_)
  · skip
    have o_3 := Or.resolve_left hr_1.2 c_2
    refine lv_iload_n hx hb dX11_district_14 rfl (lv_at hl 2 rfl) ?_
    by_cases s_4 : p1 = 0
    · refine x_seti 0 s_4 ?_
      refine lv_tableIn (off := 25) (tgt := 40) hx hb dX11_district_15 (by decide) (by decide) rfl (by decide) ?_
      refine lv_aload_n hx hb dX11_district_40 rfl (lv_at hl 0 rfl) ?_
      refine va_get (D := D) (ci := 11) (v := .ref (a 40)) (C := RX11) (T := TX11) (N := 12) hx hb hts iX11 hown hK hP 0 rfl rfl 3 (by decide) (hts _ m_436) (fun _ h9 => h9) rfl dX11_district_41 ?_
      refine va_getN (D := D) (ci := 0) (v := .ref (a 41)) (C := RX0) (T := TX0) (N := 19) (host := "WordSeats") hx hb hts iX0 hown hK hP 1 rfl rfl 8 (by decide) (va_Nw.use rfl (hN _ n_155)) (fun _ h9 => h9) rfl dX11_district_44 ?_
      refine lv_iload_n hx hb dX11_district_47 rfl (lv_at hl 1 rfl) ?_
      refine va_iald hx hb hK hP 2 0 rfl rfl (in_rg o_3 (by decide) (by decide)) dX11_district_48 ?_
      refine lv_topi (fun x_5 ex_5 => ?_)
      exact W.iret (v := x_5) hx hb hr (fun t9 ht hW => ⟨⟨x_5, (), rfl, trivial, trivial⟩, hS.F ht⟩) hS.2.2 dX11_district_49
    · by_cases s_6 : p1 = 1
      · refine x_seti 1 s_6 ?_
        refine lv_tableIn (off := 35) (tgt := 50) hx hb dX11_district_15 (by decide) (by decide) rfl (by decide) ?_
        refine lv_aload_n hx hb dX11_district_50 rfl (lv_at hl 0 rfl) ?_
        refine va_get (D := D) (ci := 11) (v := .ref (a 40)) (C := RX11) (T := TX11) (N := 12) hx hb hts iX11 hown hK hP 0 rfl rfl 3 (by decide) (hts _ m_436) (fun _ h9 => h9) rfl dX11_district_51 ?_
        refine lv_iload_n hx hb dX11_district_54 rfl (lv_at hl 1 rfl) ?_
        refine y_pV hF (s_X0_standingIn_40 l D t a v40_0 v40_1 v40_2 v40_3 v40_4 v40_5 v40_6 v40_7 f43 v54_0 v54_1 v54_2 p0 r40_1 r40_5 r40_6 r40_7 q43 r54_0) m_725 m_726 m_727 m_3 m_728 hd_X0_standingIn ⟨Nat.le_of_ble_eq_true rfl, Nat.le_of_ble_eq_true rfl⟩ hK hN hP hS [1, 3, 6] rfl 0 (ci := 0) rfl rfl rfl hl.1 rfl (Nat.le_of_ble_eq_true rfl) dX11_district_55 ⟨Nat.zero_le _, Nat.zero_le _⟩ (fun r_7 H locs hr_7 hP hS => ?_)
        exact W.iret (v := r_7) hx hb hr (fun t9 ht hW => ⟨⟨r_7, (), rfl, trivial, trivial⟩, hS.F ht⟩) hS.2.2 dX11_district_58
      · by_cases s_8 : p1 = 2
        · refine x_seti 2 s_8 ?_
          refine lv_tableIn (off := 44) (tgt := 59) hx hb dX11_district_15 (by decide) (by decide) rfl (by decide) ?_
          refine lv_aload_n hx hb dX11_district_59 rfl (lv_at hl 0 rfl) ?_
          refine va_get (D := D) (ci := 11) (v := .ref (a 40)) (C := RX11) (T := TX11) (N := 12) hx hb hts iX11 hown hK hP 0 rfl rfl 3 (by decide) (hts _ m_436) (fun _ h9 => h9) rfl dX11_district_60 ?_
          refine lv_aload_n hx hb dX11_district_63 rfl (lv_at hl 0 rfl) ?_
          refine va_get (D := D) (ci := 11) (v := .ref (a 40)) (C := RX11) (T := TX11) (N := 12) hx hb hts iX11 hown hK hP 0 rfl rfl 3 (by decide) (hts _ m_436) (fun _ h9 => h9) rfl dX11_district_64 ?_
          refine lv_iload_n hx hb dX11_district_67 rfl (lv_at hl 1 rfl) ?_
          refine y_pV hF (s_X0_speakersIn_40 l D t a v40_0 v40_1 v40_2 v40_3 v40_4 v40_5 v40_6 v40_7 f46 p0 r40_1 r40_5 r40_6 r40_7) m_733 m_734 m_735 m_3 m_736 hd_X0_speakersIn ⟨Nat.le_of_ble_eq_true rfl, Nat.le_of_ble_eq_true rfl⟩ hK hN hP hS [1, 4] rfl 0 (ci := 0) rfl rfl rfl hl.1 rfl (Nat.le_of_ble_eq_true rfl) dX11_district_68 ⟨Nat.zero_le _, Nat.zero_le _⟩ (fun r_9 H locs hr_9 hP hS => ?_)
          refine y_pV hF (s_X0_weightOf_40 l D t a v40_0 v40_1 v40_2 v40_3 v40_4 v40_5 v40_6 v40_7 f47 r_9 r40_1 r40_5 r40_6 r40_7) m_737 m_738 m_739 m_3 m_740 hd_X0_weightOf ⟨Nat.le_of_ble_eq_true rfl, Nat.le_of_ble_eq_true rfl⟩ hK hN hP hS [1, 5] rfl 0 (ci := 0) rfl rfl rfl hl.1 rfl (Nat.le_of_ble_eq_true rfl) dX11_district_71 ⟨Nat.zero_le _, Nat.zero_le _⟩ (fun r_10 H locs hr_10 hP hS => ?_)
          exact W.iret (v := r_10) hx hb hr (fun t9 ht hW => ⟨⟨r_10, (), rfl, trivial, trivial⟩, hS.F ht⟩) hS.2.2 dX11_district_74
        · refine lv_tableOut (tgt := 75) hx hb dX11_district_15 (by have q0 := c_ne s_4 (k := 0) (by decide); have q1 := c_ne s_6 (k := 1) (by decide); have q2 := c_ne s_8 (k := 2) (by decide); omega) (by decide) ?_
          refine lv_bipush (v := (-2)) hx hb dX11_district_75 (by decide) ?_
          exact W.iret (v := (-2)) hx hb hr (fun t9 ht hW => ⟨⟨(-2), (), rfl, trivial, trivial⟩, hS.F ht⟩) hS.2.2 dX11_district_77
  · skip
    refine lv_bipush (v := (-2)) hx hb dX11_district_11 (by decide) ?_
    exact W.iret (v := (-2)) hx hb hr (fun t9 ht hW => ⟨⟨(-2), (), rfl, trivial, trivial⟩, hS.F ht⟩) hS.2.2 dX11_district_13

set_option maxHeartbeats 4000000 in
set_option maxRecDepth 100000 in
theorem s_X11_likes (l : Launch) (D : va_G) (t : Nat → ClassId) (a : Nat → Nat) (v0_5 : Int32) (v40_0 : Int32) (v40_1 : Int32) (v40_2 : Int32) (v40_3 : Int32) (v40_4 : Int32) (v40_5 : Int32) (v40_6 : Int32) (v40_7 : Int32) (f45 : Nat → Int32) (f49 : Nat → Int32) (p0 : Int32) (p1 : Int32) (r40_1 : rg 0 8 v40_1) (r40_5 : rg 0 4 v40_5) (r40_6 : rg 0 9 v40_6) (r40_7 : rg 0 9 v40_7) : Met l yX11_likes (wd yX11_likes cX11_likes 3 (some .int)) (RM 2 0 0) (PreP D (TY t) [.ref (a 0), .int p0, .int p1] [(a 0, .inr (11, [.ref (a 1), .ref (a 20), .ref (a 3), .ref (a 40), .ref (a 4), .int v0_5, .ref (a 5), .ref (a 14), .ref (a 15), .ref (a 16), .ref (a 17), .ref (a 18)])), (a 40, .inr (0, [.int v40_0, .int v40_1, .int v40_2, .int v40_3, .int v40_4, .int v40_5, .int v40_6, .int v40_7, .ref (a 41), .ref (a 42), .ref (a 43), .ref (a 44), .ref (a 45), .ref (a 46), .ref (a 47), .ref (a 48), .ref (a 49), .ref (a 50), .ref (a 54)])), (a 45, .inl (t 0, 9, .inl f45)), (a 49, .inl (t 0, 9, .inl f49))]) (QP (fun r => rg (-2) 63 r)) 0 0 NoF := by
  refine Met.ofW (cc := cX11_likes) (maxL := 3) (ret := (some .int)) (by decide) rfl ?_
  intro p e s m args below meth c s₁ B hml hv
  obtain ⟨rfl, hP, hK, hN⟩ := hv
  have hx := B.exec
  have hb := B.bytes
  have hr := B.returns
  have hts : ∀ w ∈ TB, w.before _ s = true := fun w h => atoms_spec (ws := wd yX11_likes cX11_likes 3 (some .int)) B.pre w (List.mem_cons_of_mem _ h)
  have hown : s.vm.findClass RX11 = some m.cls := findClass_of_methodNamed B.named
  have hlocks := B.notSynchronized
  have hF : CallFix p m c cX11_likes 3 s _ TB RX11 := ⟨hx, hb, hml, hown, hts⟩
  have hl := lv_entry ([.ref (a 0), .int p0, .int p1]) (n := 3) (Nat.le_of_ble_eq_true rfl)
  rw [lg_entry_eq]
  generalize (lg_sl ([.ref (a 0), .int p0, .int p1]) ++ List.replicate (3 - (lg_sl ([.ref (a 0), .int p0, .int p1])).length) Slot.unset).toArray = ls at hl ⊢
  have hl : lv_has ls 3 [(0, .ref (a 0)), (1, .int p0), (2, .int p1)] := hl
  have hS : va_S NoF s.heap s.heap [] := va_S.rf
  have hP : va_P D classes [(a 0, .inr (11, [.ref (a 1), .ref (a 20), .ref (a 3), .ref (a 40), .ref (a 4), .int v0_5, .ref (a 5), .ref (a 14), .ref (a 15), .ref (a 16), .ref (a 17), .ref (a 18)])), (a 40, .inr (0, [.int v40_0, .int v40_1, .int v40_2, .int v40_3, .int v40_4, .int v40_5, .int v40_6, .int v40_7, .ref (a 41), .ref (a 42), .ref (a 43), .ref (a 44), .ref (a 45), .ref (a 46), .ref (a 47), .ref (a 48), .ref (a 49), .ref (a 50), .ref (a 54)])), (a 45, .inl (t 0, 9, .inl f45)), (a 49, .inl (t 0, 9, .inl f49))] s.heap := hP
  refine lv_aload_n hx hb dX11_likes_0 rfl (lv_at hl 0 rfl) ?_
  refine va_get (D := D) (ci := 11) (v := .ref (a 40)) (C := RX11) (T := TX11) (N := 12) hx hb hts iX11 hown hK hP 0 rfl rfl 3 (by decide) (hts _ m_436) (fun _ h9 => h9) rfl dX11_likes_1 ?_
  refine lv_iload_n hx hb dX11_likes_4 rfl (lv_at hl 1 rfl) ?_
  refine y_pV hF (s_X0_hasSpeaker_40 l D t a v40_0 v40_1 v40_2 v40_3 v40_4 v40_5 v40_6 v40_7 p0 r40_1 r40_5 r40_6 r40_7) m_713 m_714 m_715 m_3 m_716 hd_X0_hasSpeaker ⟨Nat.le_of_ble_eq_true rfl, Nat.le_of_ble_eq_true rfl⟩ hK hN hP hS [1] rfl 0 (ci := 0) rfl rfl rfl hl.1 rfl (Nat.le_of_ble_eq_true rfl) dX11_likes_5 ⟨Nat.zero_le _, Nat.zero_le _⟩ (fun r_1 H locs hr_1 hP hS => ?_)
  refine lv_if_eq (tgt := 22) hx hb dX11_likes_8 (by decide) (fun c_2 => ?_) (fun c_2 => ?_)
  · skip
    refine lv_bipush (v := (-2)) hx hb dX11_likes_22 (by decide) ?_
    exact W.iret (v := (-2)) hx hb hr (fun t9 ht hW => ⟨⟨(-2), (), rfl, (rg_w (c := (-2)) (d := 63) (rg_c (x := (-2)) (k := (-2)) (by decide)) (by decide) (by decide)), trivial⟩, hS.F ht⟩) hS.2.2 dX11_likes_24
  · skip
    have o_3 := Or.resolve_left hr_1.2 c_2
    refine lv_aload_n hx hb dX11_likes_11 rfl (lv_at hl 0 rfl) ?_
    refine va_get (D := D) (ci := 11) (v := .ref (a 40)) (C := RX11) (T := TX11) (N := 12) hx hb hts iX11 hown hK hP 0 rfl rfl 3 (by decide) (hts _ m_436) (fun _ h9 => h9) rfl dX11_likes_12 ?_
    refine lv_iload_n hx hb dX11_likes_15 rfl (lv_at hl 2 rfl) ?_
    refine y_pV hF (s_X0_hasWord_40 l D t a v40_0 v40_1 v40_2 v40_3 v40_4 v40_5 v40_6 v40_7 p1 r40_1 r40_5 r40_6 r40_7) m_702 m_703 m_704 m_3 m_705 hd_X0_hasWord ⟨Nat.le_of_ble_eq_true rfl, Nat.le_of_ble_eq_true rfl⟩ hK hN hP hS [1] rfl 0 (ci := 0) rfl rfl rfl hl.1 rfl (Nat.le_of_ble_eq_true rfl) dX11_likes_16 ⟨Nat.zero_le _, Nat.zero_le _⟩ (fun r_4 H locs hr_4 hP hS => ?_)
    refine lv_if_ne (tgt := 25) hx hb dX11_likes_19 (by decide) (fun c_5 => ?_) (fun c_5 => ?_)
    · skip
      have o_6 := Or.resolve_left hr_4.2 c_5
      refine lv_aload_n hx hb dX11_likes_25 rfl (lv_at hl 0 rfl) ?_
      refine va_get (D := D) (ci := 11) (v := .ref (a 40)) (C := RX11) (T := TX11) (N := 12) hx hb hts iX11 hown hK hP 0 rfl rfl 3 (by decide) (hts _ m_436) (fun _ h9 => h9) rfl dX11_likes_26 ?_
      refine lv_iload_n hx hb dX11_likes_29 rfl (lv_at hl 1 rfl) ?_
      refine lv_iload_n hx hb dX11_likes_30 rfl (lv_at hl 2 rfl) ?_
      refine y_pV hF (s_X0_liking_40 l D t a v40_0 v40_1 v40_2 v40_3 v40_4 v40_5 v40_6 v40_7 f45 f49 p0 p1 r40_1 r40_5 r40_6 r40_7) m_746 m_747 m_748 m_3 m_749 hd_X0_liking ⟨Nat.le_of_ble_eq_true rfl, Nat.le_of_ble_eq_true rfl⟩ hK hN hP hS [1, 2, 3] rfl 0 (ci := 0) rfl rfl rfl hl.1 rfl (Nat.le_of_ble_eq_true rfl) dX11_likes_31 ⟨Nat.zero_le _, Nat.zero_le _⟩ (fun r_7 H locs hr_7 hP hS => ?_)
      exact W.iret (v := r_7) hx hb hr (fun t9 ht hW => ⟨⟨r_7, (), rfl, (rg_w (c := (-2)) (d := 63) hr_7 (by decide) (by decide)), trivial⟩, hS.F ht⟩) hS.2.2 dX11_likes_34
    · skip
      refine lv_bipush (v := (-2)) hx hb dX11_likes_22 (by decide) ?_
      exact W.iret (v := (-2)) hx hb hr (fun t9 ht hW => ⟨⟨(-2), (), rfl, (rg_w (c := (-2)) (d := 63) (rg_c (x := (-2)) (k := (-2)) (by decide)) (by decide) (by decide)), trivial⟩, hS.F ht⟩) hS.2.2 dX11_likes_24

set_option maxHeartbeats 4000000 in
set_option maxRecDepth 100000 in
theorem s_X11_order (l : Launch) (D : va_G) (t : Nat → ClassId) (a : Nat → Nat) (v0_5 : Int32) (v14_1 : Int32) (v14_2 : Int32) (v14_3 : Int32) (v14_6 : Int32) (v14_8 : Int32) (v14_9 : Int32) (v14_10 : Int32) (v14_11 : Int32) (v14_12 : Int32) (v40_0 : Int32) (v40_1 : Int32) (v40_2 : Int32) (v40_3 : Int32) (v40_4 : Int32) (v40_5 : Int32) (v40_6 : Int32) (v40_7 : Int32) (f42 : Nat → Int32) (f43 : Nat → Int32) (f45 : Nat → Int32) (f46 : Nat → Int32) (f47 : Nat → Int32) (f49 : Nat → Int32) (v54_0 : Int32) (v54_1 : Int32) (v54_2 : Int32) (f120 : Nat → Int32) (p0 : Int32) (p1 : Int32) (r14_8 : rg 0 9 v14_8) (r14_9 : rg (-1) 8 v14_9) (r40_1 : rg 0 8 v40_1) (r40_5 : rg 0 4 v40_5) (r40_6 : rg 0 9 v40_6) (r40_7 : rg 0 9 v40_7) (q43 : ∀ j, j < 9 → rg 0 3 (f43 j)) (r54_0 : rg 0 60 v54_0) (sz : Nat) : Met l yX11_order (wd yX11_order cX11_order 3 (some .int)) (RM 4 0 0) (PreW D (TY t) [.ref (a 0), .int p0, .int p1] [(a 0, .inr (11, [.ref (a 1), .ref (a 20), .ref (a 3), .ref (a 40), .ref (a 4), .int v0_5, .ref (a 5), .ref (a 14), .ref (a 15), .ref (a 16), .ref (a 17), .ref (a 18)])), (a 14, .inr (2, [.ref (a 40), .int v14_1, .int v14_2, .int v14_3, .ref (a 120), .ref (a 121), .int v14_6, .ref (a 122), .int v14_8, .int v14_9, .int v14_10, .int v14_11, .int v14_12])), (a 40, .inr (0, [.int v40_0, .int v40_1, .int v40_2, .int v40_3, .int v40_4, .int v40_5, .int v40_6, .int v40_7, .ref (a 41), .ref (a 42), .ref (a 43), .ref (a 44), .ref (a 45), .ref (a 46), .ref (a 47), .ref (a 48), .ref (a 49), .ref (a 50), .ref (a 54)])), (a 42, .inl (t 0, 9, .inl f42)), (a 43, .inl (t 0, 9, .inl f43)), (a 45, .inl (t 0, 9, .inl f45)), (a 46, .inl (t 0, 9, .inl f46)), (a 47, .inl (t 0, 9, .inl f47)), (a 49, .inl (t 0, 9, .inl f49)), (a 54, .inr (9, [.int v54_0, .int v54_1, .int v54_2, .ref (a 55), .ref (a 56), .ref (a 57), .ref (a 58)])), (a 120, .inl (t 0, 81, .inl f120))] sz) (va_Qi (fun (r : Int32) (_ : US) => rg (-2) 8 r) (fun (u : US) t9 => va_P D classes ((fun u : US => [(a 0, .inr (11, [.ref (a 1), .ref (a 20), .ref (a 3), .ref (a 40), .ref (a 4), .int v0_5, .ref (a 5), .ref (a 14), .ref (a 15), .ref (a 16), .ref (a 17), .ref (a 18)])), (a 14, .inr (2, [.ref (a 40), .int (u.1 0), .int (u.1 1), .int (u.1 2), .ref (a 120), .ref (a 121), .int v14_6, .ref (a 122), .int v14_8, .int v14_9, .int v14_10, .int v14_11, .int v14_12])), (a 40, .inr (0, [.int v40_0, .int v40_1, .int v40_2, .int v40_3, .int v40_4, .int v40_5, .int v40_6, .int v40_7, .ref (a 41), .ref (a 42), .ref (a 43), .ref (a 44), .ref (a 45), .ref (a 46), .ref (a 47), .ref (a 48), .ref (a 49), .ref (a 50), .ref (a 54)])), (a 42, .inl (t 0, 9, .inl f42)), (a 43, .inl (t 0, 9, .inl f43)), (a 45, .inl (t 0, 9, .inl f45)), (a 46, .inl (t 0, 9, .inl f46)), (a 47, .inl (t 0, 9, .inl f47)), (a 49, .inl (t 0, 9, .inl f49)), (a 54, .inr (9, [.int v54_0, .int v54_1, .int v54_2, .ref (a 55), .ref (a 56), .ref (a 57), .ref (a 58)])), (a 120, .inl (t 0, 81, .inl (u.2.1 0)))]) u) t9.heap ∧ va_D (va_A [(a 0, .inr (11, [.ref (a 1), .ref (a 20), .ref (a 3), .ref (a 40), .ref (a 4), .int v0_5, .ref (a 5), .ref (a 14), .ref (a 15), .ref (a 16), .ref (a 17), .ref (a 18)])), (a 14, .inr (2, [.ref (a 40), .int v14_1, .int v14_2, .int v14_3, .ref (a 120), .ref (a 121), .int v14_6, .ref (a 122), .int v14_8, .int v14_9, .int v14_10, .int v14_11, .int v14_12])), (a 40, .inr (0, [.int v40_0, .int v40_1, .int v40_2, .int v40_3, .int v40_4, .int v40_5, .int v40_6, .int v40_7, .ref (a 41), .ref (a 42), .ref (a 43), .ref (a 44), .ref (a 45), .ref (a 46), .ref (a 47), .ref (a 48), .ref (a 49), .ref (a 50), .ref (a 54)])), (a 42, .inl (t 0, 9, .inl f42)), (a 43, .inl (t 0, 9, .inl f43)), (a 45, .inl (t 0, 9, .inl f45)), (a 46, .inl (t 0, 9, .inl f46)), (a 47, .inl (t 0, 9, .inl f47)), (a 49, .inl (t 0, 9, .inl f49)), (a 54, .inr (9, [.int v54_0, .int v54_1, .int v54_2, .ref (a 55), .ref (a 56), .ref (a 57), .ref (a 58)])), (a 120, .inl (t 0, 81, .inl f120))] sz) ((fun u : US => [(a 0, .inr (11, [.ref (a 1), .ref (a 20), .ref (a 3), .ref (a 40), .ref (a 4), .int v0_5, .ref (a 5), .ref (a 14), .ref (a 15), .ref (a 16), .ref (a 17), .ref (a 18)])), (a 14, .inr (2, [.ref (a 40), .int (u.1 0), .int (u.1 1), .int (u.1 2), .ref (a 120), .ref (a 121), .int v14_6, .ref (a 122), .int v14_8, .int v14_9, .int v14_10, .int v14_11, .int v14_12])), (a 40, .inr (0, [.int v40_0, .int v40_1, .int v40_2, .int v40_3, .int v40_4, .int v40_5, .int v40_6, .int v40_7, .ref (a 41), .ref (a 42), .ref (a 43), .ref (a 44), .ref (a 45), .ref (a 46), .ref (a 47), .ref (a 48), .ref (a 49), .ref (a 50), .ref (a 54)])), (a 42, .inl (t 0, 9, .inl f42)), (a 43, .inl (t 0, 9, .inl f43)), (a 45, .inl (t 0, 9, .inl f45)), (a 46, .inl (t 0, 9, .inl f46)), (a 47, .inl (t 0, 9, .inl f47)), (a 49, .inl (t 0, 9, .inl f49)), (a 54, .inr (9, [.int v54_0, .int v54_1, .int v54_2, .ref (a 55), .ref (a 56), .ref (a 57), .ref (a 58)])), (a 120, .inl (t 0, 81, .inl (u.2.1 0)))]) u)) (va_A [(a 0, .inr (11, [.ref (a 1), .ref (a 20), .ref (a 3), .ref (a 40), .ref (a 4), .int v0_5, .ref (a 5), .ref (a 14), .ref (a 15), .ref (a 16), .ref (a 17), .ref (a 18)])), (a 14, .inr (2, [.ref (a 40), .int v14_1, .int v14_2, .int v14_3, .ref (a 120), .ref (a 121), .int v14_6, .ref (a 122), .int v14_8, .int v14_9, .int v14_10, .int v14_11, .int v14_12])), (a 40, .inr (0, [.int v40_0, .int v40_1, .int v40_2, .int v40_3, .int v40_4, .int v40_5, .int v40_6, .int v40_7, .ref (a 41), .ref (a 42), .ref (a 43), .ref (a 44), .ref (a 45), .ref (a 46), .ref (a 47), .ref (a 48), .ref (a 49), .ref (a 50), .ref (a 54)])), (a 42, .inl (t 0, 9, .inl f42)), (a 43, .inl (t 0, 9, .inl f43)), (a 45, .inl (t 0, 9, .inl f45)), (a 46, .inl (t 0, 9, .inl f46)), (a 47, .inl (t 0, 9, .inl f47)), (a 49, .inl (t 0, 9, .inl f49)), (a 54, .inr (9, [.int v54_0, .int v54_1, .int v54_2, .ref (a 55), .ref (a 56), .ref (a 57), .ref (a 58)])), (a 120, .inl (t 0, 81, .inl f120))] sz)) 0 0 (va_A [(a 0, .inr (11, [.ref (a 1), .ref (a 20), .ref (a 3), .ref (a 40), .ref (a 4), .int v0_5, .ref (a 5), .ref (a 14), .ref (a 15), .ref (a 16), .ref (a 17), .ref (a 18)])), (a 14, .inr (2, [.ref (a 40), .int v14_1, .int v14_2, .int v14_3, .ref (a 120), .ref (a 121), .int v14_6, .ref (a 122), .int v14_8, .int v14_9, .int v14_10, .int v14_11, .int v14_12])), (a 40, .inr (0, [.int v40_0, .int v40_1, .int v40_2, .int v40_3, .int v40_4, .int v40_5, .int v40_6, .int v40_7, .ref (a 41), .ref (a 42), .ref (a 43), .ref (a 44), .ref (a 45), .ref (a 46), .ref (a 47), .ref (a 48), .ref (a 49), .ref (a 50), .ref (a 54)])), (a 42, .inl (t 0, 9, .inl f42)), (a 43, .inl (t 0, 9, .inl f43)), (a 45, .inl (t 0, 9, .inl f45)), (a 46, .inl (t 0, 9, .inl f46)), (a 47, .inl (t 0, 9, .inl f47)), (a 49, .inl (t 0, 9, .inl f49)), (a 54, .inr (9, [.int v54_0, .int v54_1, .int v54_2, .ref (a 55), .ref (a 56), .ref (a 57), .ref (a 58)])), (a 120, .inl (t 0, 81, .inl f120))] sz) := by
  refine Met.ofW (cc := cX11_order) (maxL := 3) (ret := (some .int)) (by decide) rfl ?_
  intro p e s m args below meth c s₁ B hml hv
  obtain ⟨rfl, hsz, hP, hK, hD0, hN⟩ := hv
  have hx := B.exec
  have hb := B.bytes
  have hr := B.returns
  have hts : ∀ w ∈ TB, w.before _ s = true := fun w h => atoms_spec (ws := wd yX11_order cX11_order 3 (some .int)) B.pre w (List.mem_cons_of_mem _ h)
  have hown : s.vm.findClass RX11 = some m.cls := findClass_of_methodNamed B.named
  have hlocks := B.notSynchronized
  have hF : CallFix p m c cX11_order 3 s _ TB RX11 := ⟨hx, hb, hml, hown, hts⟩
  have hl := lv_entry ([.ref (a 0), .int p0, .int p1]) (n := 3) (Nat.le_of_ble_eq_true rfl)
  rw [lg_entry_eq]
  generalize (lg_sl ([.ref (a 0), .int p0, .int p1]) ++ List.replicate (3 - (lg_sl ([.ref (a 0), .int p0, .int p1])).length) Slot.unset).toArray = ls at hl ⊢
  have hl : lv_has ls 3 [(0, .ref (a 0)), (1, .int p0), (2, .int p1)] := hl
  subst hsz
  have hD := hD0.self (sz := s.heap.size)
  generalize hAe : va_A [(a 0, .inr (11, [.ref (a 1), .ref (a 20), .ref (a 3), .ref (a 40), .ref (a 4), .int v0_5, .ref (a 5), .ref (a 14), .ref (a 15), .ref (a 16), .ref (a 17), .ref (a 18)])), (a 14, .inr (2, [.ref (a 40), .int v14_1, .int v14_2, .int v14_3, .ref (a 120), .ref (a 121), .int v14_6, .ref (a 122), .int v14_8, .int v14_9, .int v14_10, .int v14_11, .int v14_12])), (a 40, .inr (0, [.int v40_0, .int v40_1, .int v40_2, .int v40_3, .int v40_4, .int v40_5, .int v40_6, .int v40_7, .ref (a 41), .ref (a 42), .ref (a 43), .ref (a 44), .ref (a 45), .ref (a 46), .ref (a 47), .ref (a 48), .ref (a 49), .ref (a 50), .ref (a 54)])), (a 42, .inl (t 0, 9, .inl f42)), (a 43, .inl (t 0, 9, .inl f43)), (a 45, .inl (t 0, 9, .inl f45)), (a 46, .inl (t 0, 9, .inl f46)), (a 47, .inl (t 0, 9, .inl f47)), (a 49, .inl (t 0, 9, .inl f49)), (a 54, .inr (9, [.int v54_0, .int v54_1, .int v54_2, .ref (a 55), .ref (a 56), .ref (a 57), .ref (a 58)])), (a 120, .inl (t 0, 81, .inl f120))] s.heap.size = A at hD ⊢
  have hA : ∀ q : Nat, s.heap.size ≤ q → A q := fun q h => by rw [← hAe]; exact Or.inr h
  have hS : va_S A s.heap s.heap [] := va_S.rf
  have hP : va_P D classes [(a 0, .inr (11, [.ref (a 1), .ref (a 20), .ref (a 3), .ref (a 40), .ref (a 4), .int v0_5, .ref (a 5), .ref (a 14), .ref (a 15), .ref (a 16), .ref (a 17), .ref (a 18)])), (a 14, .inr (2, [.ref (a 40), .int v14_1, .int v14_2, .int v14_3, .ref (a 120), .ref (a 121), .int v14_6, .ref (a 122), .int v14_8, .int v14_9, .int v14_10, .int v14_11, .int v14_12])), (a 40, .inr (0, [.int v40_0, .int v40_1, .int v40_2, .int v40_3, .int v40_4, .int v40_5, .int v40_6, .int v40_7, .ref (a 41), .ref (a 42), .ref (a 43), .ref (a 44), .ref (a 45), .ref (a 46), .ref (a 47), .ref (a 48), .ref (a 49), .ref (a 50), .ref (a 54)])), (a 42, .inl (t 0, 9, .inl f42)), (a 43, .inl (t 0, 9, .inl f43)), (a 45, .inl (t 0, 9, .inl f45)), (a 46, .inl (t 0, 9, .inl f46)), (a 47, .inl (t 0, 9, .inl f47)), (a 49, .inl (t 0, 9, .inl f49)), (a 54, .inr (9, [.int v54_0, .int v54_1, .int v54_2, .ref (a 55), .ref (a 56), .ref (a 57), .ref (a 58)])), (a 120, .inl (t 0, 81, .inl f120))] s.heap := hP
  refine lv_aload_n hx hb dX11_order_0 rfl (lv_at hl 0 rfl) ?_
  refine va_get (D := D) (ci := 11) (v := .ref (a 40)) (C := RX11) (T := TX11) (N := 12) hx hb hts iX11 hown hK hP 0 rfl rfl 3 (by decide) (hts _ m_436) (fun _ h9 => h9) rfl dX11_order_1 ?_
  refine lv_iload_n hx hb dX11_order_4 rfl (lv_at hl 1 rfl) ?_
  refine y_pV hF (s_X0_hasSpeaker_40 l D t a v40_0 v40_1 v40_2 v40_3 v40_4 v40_5 v40_6 v40_7 p0 r40_1 r40_5 r40_6 r40_7) m_713 m_714 m_715 m_3 m_716 hd_X0_hasSpeaker ⟨Nat.le_of_ble_eq_true rfl, Nat.le_of_ble_eq_true rfl⟩ hK hN hP hS [2] rfl 0 (ci := 0) rfl rfl rfl hl.1 rfl (Nat.le_of_ble_eq_true rfl) dX11_order_5 ⟨Nat.zero_le _, Nat.zero_le _⟩ (fun r_1 H locs hr_1 hP hS => ?_)
  refine lv_if_ne (tgt := 14) hx hb dX11_order_8 (by decide) (fun c_2 => ?_) (fun c_2 => ?_)
  · skip
    have o_3 := Or.resolve_left hr_1.2 c_2
    refine lv_aload_n hx hb dX11_order_14 rfl (lv_at hl 0 rfl) ?_
    refine va_get (D := D) (ci := 11) (v := .ref (a 14)) (C := RX11) (T := TX11) (N := 12) hx hb hts iX11 hown hK hP 0 rfl rfl 7 (by decide) (hts _ m_440) (fun _ h9 => h9) rfl dX11_order_15 ?_
    refine lv_aload_n hx hb dX11_order_18 rfl (lv_at hl 0 rfl) ?_
    refine va_get (D := D) (ci := 11) (v := .ref (a 40)) (C := RX11) (T := TX11) (N := 12) hx hb hts iX11 hown hK hP 0 rfl rfl 3 (by decide) (hts _ m_436) (fun _ h9 => h9) rfl dX11_order_19 ?_
    refine va_getN (D := D) (ci := 0) (v := .ref (a 46)) (C := RX0) (T := TX0) (N := 19) (host := "WordSeats") hx hb hts iX0 hown hK hP 2 rfl rfl 13 (by decide) (va_Nw.use rfl (hN _ n_173)) (fun _ h9 => h9) rfl dX11_order_22 ?_
    refine lv_iload_n hx hb dX11_order_25 rfl (lv_at hl 1 rfl) ?_
    refine va_iald hx hb hK hP 6 0 rfl rfl (in_rg o_3 (by decide) (by decide)) dX11_order_26 ?_
    refine lv_topi (fun x_4 ex_4 => ?_)
    refine y_wV (wr := [(a 0, .inr (11, [.ref (a 1), .ref (a 20), .ref (a 3), .ref (a 40), .ref (a 4), .int v0_5, .ref (a 5), .ref (a 14), .ref (a 15), .ref (a 16), .ref (a 17), .ref (a 18)]))]) hF (s_X2_open l D t a v14_1 v14_2 v14_3 v14_6 v14_8 v14_9 v14_10 v14_11 v14_12 v40_0 v40_1 v40_2 v40_3 v40_4 v40_5 v40_6 v40_7 f42 f43 f45 f46 f47 f49 v54_0 v54_1 v54_2 f120 x_4 r14_8 r14_9 r40_1 r40_5 r40_6 r40_7 q43 r54_0 H.size) m_762 m_763 m_764 m_7 m_765 hd_X2_open ⟨Nat.le_of_ble_eq_true rfl, Nat.le_of_ble_eq_true rfl⟩ hK hN hP hD hS hA 0 (ci := 2) rfl rfl rfl [1, 2, 3, 4, 5, 6, 7, 8, 9, 10] [0] rfl rfl (by decide) (by decide) (by decide) hl.1 rfl (Nat.le_of_ble_eq_true rfl) dX11_order_27 ⟨Nat.zero_le _, Nat.zero_le _⟩ (fun u_5 H locs hu_5 hP hD hS => ?_)
    have ou_5 := hu_5
    have hP : va_P D classes [(a 0, .inr (11, [.ref (a 1), .ref (a 20), .ref (a 3), .ref (a 40), .ref (a 4), .int v0_5, .ref (a 5), .ref (a 14), .ref (a 15), .ref (a 16), .ref (a 17), .ref (a 18)])), (a 14, .inr (2, [.ref (a 40), .int (u_5.1 0), .int (u_5.1 1), .int (u_5.1 2), .ref (a 120), .ref (a 121), .int v14_6, .ref (a 122), .int v14_8, .int v14_9, .int v14_10, .int v14_11, .int v14_12])), (a 40, .inr (0, [.int v40_0, .int v40_1, .int v40_2, .int v40_3, .int v40_4, .int v40_5, .int v40_6, .int v40_7, .ref (a 41), .ref (a 42), .ref (a 43), .ref (a 44), .ref (a 45), .ref (a 46), .ref (a 47), .ref (a 48), .ref (a 49), .ref (a 50), .ref (a 54)])), (a 42, .inl (t 0, 9, .inl f42)), (a 43, .inl (t 0, 9, .inl f43)), (a 45, .inl (t 0, 9, .inl f45)), (a 46, .inl (t 0, 9, .inl f46)), (a 47, .inl (t 0, 9, .inl f47)), (a 49, .inl (t 0, 9, .inl f49)), (a 54, .inr (9, [.int v54_0, .int v54_1, .int v54_2, .ref (a 55), .ref (a 56), .ref (a 57), .ref (a 58)])), (a 120, .inl (t 0, 81, .inl (u_5.2.1 0)))] H := hP
    have hD : va_D A [(a 0, .inr (11, [.ref (a 1), .ref (a 20), .ref (a 3), .ref (a 40), .ref (a 4), .int v0_5, .ref (a 5), .ref (a 14), .ref (a 15), .ref (a 16), .ref (a 17), .ref (a 18)])), (a 14, .inr (2, [.ref (a 40), .int (u_5.1 0), .int (u_5.1 1), .int (u_5.1 2), .ref (a 120), .ref (a 121), .int v14_6, .ref (a 122), .int v14_8, .int v14_9, .int v14_10, .int v14_11, .int v14_12])), (a 40, .inr (0, [.int v40_0, .int v40_1, .int v40_2, .int v40_3, .int v40_4, .int v40_5, .int v40_6, .int v40_7, .ref (a 41), .ref (a 42), .ref (a 43), .ref (a 44), .ref (a 45), .ref (a 46), .ref (a 47), .ref (a 48), .ref (a 49), .ref (a 50), .ref (a 54)])), (a 42, .inl (t 0, 9, .inl f42)), (a 43, .inl (t 0, 9, .inl f43)), (a 45, .inl (t 0, 9, .inl f45)), (a 46, .inl (t 0, 9, .inl f46)), (a 47, .inl (t 0, 9, .inl f47)), (a 49, .inl (t 0, 9, .inl f49)), (a 54, .inr (9, [.int v54_0, .int v54_1, .int v54_2, .ref (a 55), .ref (a 56), .ref (a 57), .ref (a 58)])), (a 120, .inl (t 0, 81, .inl (u_5.2.1 0)))] := hD
    refine lv_aload_n hx hb dX11_order_30 rfl (lv_at hl 0 rfl) ?_
    refine va_get (D := D) (ci := 11) (v := .ref (a 14)) (C := RX11) (T := TX11) (N := 12) hx hb hts iX11 hown hK hP 0 rfl rfl 7 (by decide) (hts _ m_440) (fun _ h9 => h9) rfl dX11_order_31 ?_
    refine lv_iload_n hx hb dX11_order_34 rfl (lv_at hl 1 rfl) ?_
    refine lv_iload_n hx hb dX11_order_35 rfl (lv_at hl 2 rfl) ?_
    refine y_pV hF (s_X2_inOrder l D t a (u_5.1 0) (u_5.1 1) (u_5.1 2) v14_6 v14_8 v14_9 v14_10 v14_11 v14_12 v40_0 v40_1 v40_2 v40_3 v40_4 v40_5 v40_6 v40_7 (u_5.2.1 0) p0 p1 r14_8 r14_9 r40_1 r40_5 r40_6 r40_7 o_3) m_779 m_780 m_781 m_7 m_782 hd_X2_inOrder ⟨Nat.le_of_ble_eq_true rfl, Nat.le_of_ble_eq_true rfl⟩ hK hN hP hS [1, 2, 10] rfl 0 (ci := 2) rfl rfl rfl hl.1 rfl (Nat.le_of_ble_eq_true rfl) dX11_order_36 ⟨Nat.zero_le _, Nat.zero_le _⟩ (fun r_7 H locs hr_7 hP hS => ?_)
    have hP9 := hP.sub (ws' := [(a 0, .inr (11, [.ref (a 1), .ref (a 20), .ref (a 3), .ref (a 40), .ref (a 4), .int v0_5, .ref (a 5), .ref (a 14), .ref (a 15), .ref (a 16), .ref (a 17), .ref (a 18)])), (a 14, .inr (2, [.ref (a 40), .int (u_5.1 0), .int (u_5.1 1), .int (u_5.1 2), .ref (a 120), .ref (a 121), .int v14_6, .ref (a 122), .int v14_8, .int v14_9, .int v14_10, .int v14_11, .int v14_12])), (a 40, .inr (0, [.int v40_0, .int v40_1, .int v40_2, .int v40_3, .int v40_4, .int v40_5, .int v40_6, .int v40_7, .ref (a 41), .ref (a 42), .ref (a 43), .ref (a 44), .ref (a 45), .ref (a 46), .ref (a 47), .ref (a 48), .ref (a 49), .ref (a 50), .ref (a 54)])), (a 42, .inl (t 0, 9, .inl f42)), (a 43, .inl (t 0, 9, .inl f43)), (a 45, .inl (t 0, 9, .inl f45)), (a 46, .inl (t 0, 9, .inl f46)), (a 47, .inl (t 0, 9, .inl f47)), (a 49, .inl (t 0, 9, .inl f49)), (a 54, .inr (9, [.int v54_0, .int v54_1, .int v54_2, .ref (a 55), .ref (a 56), .ref (a 57), .ref (a 58)])), (a 120, .inl (t 0, 81, .inl (u_5.2.1 0)))]) [0, 1, 2, 3, 4, 5, 6, 7, 8, 9, 10] rfl
    have hD9 := hD.sub (ws' := [(a 0, .inr (11, [.ref (a 1), .ref (a 20), .ref (a 3), .ref (a 40), .ref (a 4), .int v0_5, .ref (a 5), .ref (a 14), .ref (a 15), .ref (a 16), .ref (a 17), .ref (a 18)])), (a 14, .inr (2, [.ref (a 40), .int (u_5.1 0), .int (u_5.1 1), .int (u_5.1 2), .ref (a 120), .ref (a 121), .int v14_6, .ref (a 122), .int v14_8, .int v14_9, .int v14_10, .int v14_11, .int v14_12])), (a 40, .inr (0, [.int v40_0, .int v40_1, .int v40_2, .int v40_3, .int v40_4, .int v40_5, .int v40_6, .int v40_7, .ref (a 41), .ref (a 42), .ref (a 43), .ref (a 44), .ref (a 45), .ref (a 46), .ref (a 47), .ref (a 48), .ref (a 49), .ref (a 50), .ref (a 54)])), (a 42, .inl (t 0, 9, .inl f42)), (a 43, .inl (t 0, 9, .inl f43)), (a 45, .inl (t 0, 9, .inl f45)), (a 46, .inl (t 0, 9, .inl f46)), (a 47, .inl (t 0, 9, .inl f47)), (a 49, .inl (t 0, 9, .inl f49)), (a 54, .inr (9, [.int v54_0, .int v54_1, .int v54_2, .ref (a 55), .ref (a 56), .ref (a 57), .ref (a 58)])), (a 120, .inl (t 0, 81, .inl (u_5.2.1 0)))]) [0, 1, 2, 3, 4, 5, 6, 7, 8, 9, 10] (by decide) rfl
    exact W.iret (v := r_7) hx hb hr (fun t9 ht hW => ⟨⟨r_7, (fun k => [(u_5.1 0), (u_5.1 1), (u_5.1 2)].getD k 0, fun k => [(u_5.2.1 0)].getD k (fun _ => 0), fun k => [].getD k (fun _ => 0), fun _ => 0), rfl, (rg_w (c := (-2)) (d := 8) hr_7 (by decide) (by decide)), by rw [ht]; exact hP9, hD9⟩, hS.F ht⟩) hS.2.2 dX11_order_39
  · skip
    refine lv_bipush (v := (-2)) hx hb dX11_order_11 (by decide) ?_
    have hP9 := hP.sub (ws' := [(a 0, .inr (11, [.ref (a 1), .ref (a 20), .ref (a 3), .ref (a 40), .ref (a 4), .int v0_5, .ref (a 5), .ref (a 14), .ref (a 15), .ref (a 16), .ref (a 17), .ref (a 18)])), (a 14, .inr (2, [.ref (a 40), .int v14_1, .int v14_2, .int v14_3, .ref (a 120), .ref (a 121), .int v14_6, .ref (a 122), .int v14_8, .int v14_9, .int v14_10, .int v14_11, .int v14_12])), (a 40, .inr (0, [.int v40_0, .int v40_1, .int v40_2, .int v40_3, .int v40_4, .int v40_5, .int v40_6, .int v40_7, .ref (a 41), .ref (a 42), .ref (a 43), .ref (a 44), .ref (a 45), .ref (a 46), .ref (a 47), .ref (a 48), .ref (a 49), .ref (a 50), .ref (a 54)])), (a 42, .inl (t 0, 9, .inl f42)), (a 43, .inl (t 0, 9, .inl f43)), (a 45, .inl (t 0, 9, .inl f45)), (a 46, .inl (t 0, 9, .inl f46)), (a 47, .inl (t 0, 9, .inl f47)), (a 49, .inl (t 0, 9, .inl f49)), (a 54, .inr (9, [.int v54_0, .int v54_1, .int v54_2, .ref (a 55), .ref (a 56), .ref (a 57), .ref (a 58)])), (a 120, .inl (t 0, 81, .inl f120))]) [0, 1, 2, 3, 4, 5, 6, 7, 8, 9, 10] rfl
    have hD9 := hD.sub (ws' := [(a 0, .inr (11, [.ref (a 1), .ref (a 20), .ref (a 3), .ref (a 40), .ref (a 4), .int v0_5, .ref (a 5), .ref (a 14), .ref (a 15), .ref (a 16), .ref (a 17), .ref (a 18)])), (a 14, .inr (2, [.ref (a 40), .int v14_1, .int v14_2, .int v14_3, .ref (a 120), .ref (a 121), .int v14_6, .ref (a 122), .int v14_8, .int v14_9, .int v14_10, .int v14_11, .int v14_12])), (a 40, .inr (0, [.int v40_0, .int v40_1, .int v40_2, .int v40_3, .int v40_4, .int v40_5, .int v40_6, .int v40_7, .ref (a 41), .ref (a 42), .ref (a 43), .ref (a 44), .ref (a 45), .ref (a 46), .ref (a 47), .ref (a 48), .ref (a 49), .ref (a 50), .ref (a 54)])), (a 42, .inl (t 0, 9, .inl f42)), (a 43, .inl (t 0, 9, .inl f43)), (a 45, .inl (t 0, 9, .inl f45)), (a 46, .inl (t 0, 9, .inl f46)), (a 47, .inl (t 0, 9, .inl f47)), (a 49, .inl (t 0, 9, .inl f49)), (a 54, .inr (9, [.int v54_0, .int v54_1, .int v54_2, .ref (a 55), .ref (a 56), .ref (a 57), .ref (a 58)])), (a 120, .inl (t 0, 81, .inl f120))]) [0, 1, 2, 3, 4, 5, 6, 7, 8, 9, 10] (by decide) rfl
    exact W.iret (v := (-2)) hx hb hr (fun t9 ht hW => ⟨⟨(-2), (fun k => [v14_1, v14_2, v14_3].getD k 0, fun k => [f120].getD k (fun _ => 0), fun k => [].getD k (fun _ => 0), fun _ => 0), rfl, (rg_w (c := (-2)) (d := 8) (rg_c (x := (-2)) (k := (-2)) (by decide)) (by decide) (by decide)), by rw [ht]; exact hP9, hD9⟩, hS.F ht⟩) hS.2.2 dX11_order_13

set_option maxHeartbeats 4000000 in
set_option maxRecDepth 100000 in
theorem s_X11_votes (l : Launch) (D : va_G) (t : Nat → ClassId) (a : Nat → Nat) (v0_5 : Int32) (v14_1 : Int32) (v14_2 : Int32) (v14_3 : Int32) (v14_6 : Int32) (v14_8 : Int32) (v14_9 : Int32) (v14_10 : Int32) (v14_11 : Int32) (v14_12 : Int32) (v40_0 : Int32) (v40_1 : Int32) (v40_2 : Int32) (v40_3 : Int32) (v40_4 : Int32) (v40_5 : Int32) (v40_6 : Int32) (v40_7 : Int32) (f42 : Nat → Int32) (f43 : Nat → Int32) (f45 : Nat → Int32) (f46 : Nat → Int32) (f47 : Nat → Int32) (f49 : Nat → Int32) (v54_0 : Int32) (v54_1 : Int32) (v54_2 : Int32) (f120 : Nat → Int32) (f121 : Nat → Int32) (p0 : Int32) (r14_8 : rg 0 9 v14_8) (r14_9 : rg (-1) 8 v14_9) (r40_1 : rg 0 8 v40_1) (r40_5 : rg 0 4 v40_5) (r40_6 : rg 0 9 v40_6) (r40_7 : rg 0 9 v40_7) (q43 : ∀ j, j < 9 → rg 0 3 (f43 j)) (r54_0 : rg 0 60 v54_0) (sz : Nat) : Met l yX11_votes (wd yX11_votes cX11_votes 2 (some .int)) (RM 4 0 0) (PreW D (TY t) [.ref (a 0), .int p0] [(a 0, .inr (11, [.ref (a 1), .ref (a 20), .ref (a 3), .ref (a 40), .ref (a 4), .int v0_5, .ref (a 5), .ref (a 14), .ref (a 15), .ref (a 16), .ref (a 17), .ref (a 18)])), (a 14, .inr (2, [.ref (a 40), .int v14_1, .int v14_2, .int v14_3, .ref (a 120), .ref (a 121), .int v14_6, .ref (a 122), .int v14_8, .int v14_9, .int v14_10, .int v14_11, .int v14_12])), (a 40, .inr (0, [.int v40_0, .int v40_1, .int v40_2, .int v40_3, .int v40_4, .int v40_5, .int v40_6, .int v40_7, .ref (a 41), .ref (a 42), .ref (a 43), .ref (a 44), .ref (a 45), .ref (a 46), .ref (a 47), .ref (a 48), .ref (a 49), .ref (a 50), .ref (a 54)])), (a 42, .inl (t 0, 9, .inl f42)), (a 43, .inl (t 0, 9, .inl f43)), (a 45, .inl (t 0, 9, .inl f45)), (a 46, .inl (t 0, 9, .inl f46)), (a 47, .inl (t 0, 9, .inl f47)), (a 49, .inl (t 0, 9, .inl f49)), (a 54, .inr (9, [.int v54_0, .int v54_1, .int v54_2, .ref (a 55), .ref (a 56), .ref (a 57), .ref (a 58)])), (a 120, .inl (t 0, 81, .inl f120)), (a 121, .inl (t 0, 9, .inl f121))] sz) (va_Qi (fun (_ : Int32) (_ : US) => True) (fun (u : US) t9 => va_P D classes ((fun u : US => [(a 0, .inr (11, [.ref (a 1), .ref (a 20), .ref (a 3), .ref (a 40), .ref (a 4), .int v0_5, .ref (a 5), .ref (a 14), .ref (a 15), .ref (a 16), .ref (a 17), .ref (a 18)])), (a 14, .inr (2, [.ref (a 40), .int (u.1 0), .int (u.1 1), .int (u.1 2), .ref (a 120), .ref (a 121), .int (u.1 3), .ref (a 122), .int v14_8, .int v14_9, .int v14_10, .int v14_11, .int v14_12])), (a 40, .inr (0, [.int v40_0, .int v40_1, .int v40_2, .int v40_3, .int v40_4, .int v40_5, .int v40_6, .int v40_7, .ref (a 41), .ref (a 42), .ref (a 43), .ref (a 44), .ref (a 45), .ref (a 46), .ref (a 47), .ref (a 48), .ref (a 49), .ref (a 50), .ref (a 54)])), (a 42, .inl (t 0, 9, .inl f42)), (a 43, .inl (t 0, 9, .inl f43)), (a 45, .inl (t 0, 9, .inl f45)), (a 46, .inl (t 0, 9, .inl f46)), (a 47, .inl (t 0, 9, .inl f47)), (a 49, .inl (t 0, 9, .inl f49)), (a 54, .inr (9, [.int v54_0, .int v54_1, .int v54_2, .ref (a 55), .ref (a 56), .ref (a 57), .ref (a 58)])), (a 120, .inl (t 0, 81, .inl (u.2.1 0))), (a 121, .inl (t 0, 9, .inl (u.2.1 1)))]) u) t9.heap ∧ va_D (va_A [(a 0, .inr (11, [.ref (a 1), .ref (a 20), .ref (a 3), .ref (a 40), .ref (a 4), .int v0_5, .ref (a 5), .ref (a 14), .ref (a 15), .ref (a 16), .ref (a 17), .ref (a 18)])), (a 14, .inr (2, [.ref (a 40), .int v14_1, .int v14_2, .int v14_3, .ref (a 120), .ref (a 121), .int v14_6, .ref (a 122), .int v14_8, .int v14_9, .int v14_10, .int v14_11, .int v14_12])), (a 40, .inr (0, [.int v40_0, .int v40_1, .int v40_2, .int v40_3, .int v40_4, .int v40_5, .int v40_6, .int v40_7, .ref (a 41), .ref (a 42), .ref (a 43), .ref (a 44), .ref (a 45), .ref (a 46), .ref (a 47), .ref (a 48), .ref (a 49), .ref (a 50), .ref (a 54)])), (a 42, .inl (t 0, 9, .inl f42)), (a 43, .inl (t 0, 9, .inl f43)), (a 45, .inl (t 0, 9, .inl f45)), (a 46, .inl (t 0, 9, .inl f46)), (a 47, .inl (t 0, 9, .inl f47)), (a 49, .inl (t 0, 9, .inl f49)), (a 54, .inr (9, [.int v54_0, .int v54_1, .int v54_2, .ref (a 55), .ref (a 56), .ref (a 57), .ref (a 58)])), (a 120, .inl (t 0, 81, .inl f120)), (a 121, .inl (t 0, 9, .inl f121))] sz) ((fun u : US => [(a 0, .inr (11, [.ref (a 1), .ref (a 20), .ref (a 3), .ref (a 40), .ref (a 4), .int v0_5, .ref (a 5), .ref (a 14), .ref (a 15), .ref (a 16), .ref (a 17), .ref (a 18)])), (a 14, .inr (2, [.ref (a 40), .int (u.1 0), .int (u.1 1), .int (u.1 2), .ref (a 120), .ref (a 121), .int (u.1 3), .ref (a 122), .int v14_8, .int v14_9, .int v14_10, .int v14_11, .int v14_12])), (a 40, .inr (0, [.int v40_0, .int v40_1, .int v40_2, .int v40_3, .int v40_4, .int v40_5, .int v40_6, .int v40_7, .ref (a 41), .ref (a 42), .ref (a 43), .ref (a 44), .ref (a 45), .ref (a 46), .ref (a 47), .ref (a 48), .ref (a 49), .ref (a 50), .ref (a 54)])), (a 42, .inl (t 0, 9, .inl f42)), (a 43, .inl (t 0, 9, .inl f43)), (a 45, .inl (t 0, 9, .inl f45)), (a 46, .inl (t 0, 9, .inl f46)), (a 47, .inl (t 0, 9, .inl f47)), (a 49, .inl (t 0, 9, .inl f49)), (a 54, .inr (9, [.int v54_0, .int v54_1, .int v54_2, .ref (a 55), .ref (a 56), .ref (a 57), .ref (a 58)])), (a 120, .inl (t 0, 81, .inl (u.2.1 0))), (a 121, .inl (t 0, 9, .inl (u.2.1 1)))]) u)) (va_A [(a 0, .inr (11, [.ref (a 1), .ref (a 20), .ref (a 3), .ref (a 40), .ref (a 4), .int v0_5, .ref (a 5), .ref (a 14), .ref (a 15), .ref (a 16), .ref (a 17), .ref (a 18)])), (a 14, .inr (2, [.ref (a 40), .int v14_1, .int v14_2, .int v14_3, .ref (a 120), .ref (a 121), .int v14_6, .ref (a 122), .int v14_8, .int v14_9, .int v14_10, .int v14_11, .int v14_12])), (a 40, .inr (0, [.int v40_0, .int v40_1, .int v40_2, .int v40_3, .int v40_4, .int v40_5, .int v40_6, .int v40_7, .ref (a 41), .ref (a 42), .ref (a 43), .ref (a 44), .ref (a 45), .ref (a 46), .ref (a 47), .ref (a 48), .ref (a 49), .ref (a 50), .ref (a 54)])), (a 42, .inl (t 0, 9, .inl f42)), (a 43, .inl (t 0, 9, .inl f43)), (a 45, .inl (t 0, 9, .inl f45)), (a 46, .inl (t 0, 9, .inl f46)), (a 47, .inl (t 0, 9, .inl f47)), (a 49, .inl (t 0, 9, .inl f49)), (a 54, .inr (9, [.int v54_0, .int v54_1, .int v54_2, .ref (a 55), .ref (a 56), .ref (a 57), .ref (a 58)])), (a 120, .inl (t 0, 81, .inl f120)), (a 121, .inl (t 0, 9, .inl f121))] sz)) 0 0 (va_A [(a 0, .inr (11, [.ref (a 1), .ref (a 20), .ref (a 3), .ref (a 40), .ref (a 4), .int v0_5, .ref (a 5), .ref (a 14), .ref (a 15), .ref (a 16), .ref (a 17), .ref (a 18)])), (a 14, .inr (2, [.ref (a 40), .int v14_1, .int v14_2, .int v14_3, .ref (a 120), .ref (a 121), .int v14_6, .ref (a 122), .int v14_8, .int v14_9, .int v14_10, .int v14_11, .int v14_12])), (a 40, .inr (0, [.int v40_0, .int v40_1, .int v40_2, .int v40_3, .int v40_4, .int v40_5, .int v40_6, .int v40_7, .ref (a 41), .ref (a 42), .ref (a 43), .ref (a 44), .ref (a 45), .ref (a 46), .ref (a 47), .ref (a 48), .ref (a 49), .ref (a 50), .ref (a 54)])), (a 42, .inl (t 0, 9, .inl f42)), (a 43, .inl (t 0, 9, .inl f43)), (a 45, .inl (t 0, 9, .inl f45)), (a 46, .inl (t 0, 9, .inl f46)), (a 47, .inl (t 0, 9, .inl f47)), (a 49, .inl (t 0, 9, .inl f49)), (a 54, .inr (9, [.int v54_0, .int v54_1, .int v54_2, .ref (a 55), .ref (a 56), .ref (a 57), .ref (a 58)])), (a 120, .inl (t 0, 81, .inl f120)), (a 121, .inl (t 0, 9, .inl f121))] sz) := by
  refine Met.ofW (cc := cX11_votes) (maxL := 2) (ret := (some .int)) (by decide) rfl ?_
  intro p e s m args below meth c s₁ B hml hv
  obtain ⟨rfl, hsz, hP, hK, hD0, hN⟩ := hv
  have hx := B.exec
  have hb := B.bytes
  have hr := B.returns
  have hts : ∀ w ∈ TB, w.before _ s = true := fun w h => atoms_spec (ws := wd yX11_votes cX11_votes 2 (some .int)) B.pre w (List.mem_cons_of_mem _ h)
  have hown : s.vm.findClass RX11 = some m.cls := findClass_of_methodNamed B.named
  have hlocks := B.notSynchronized
  have hF : CallFix p m c cX11_votes 2 s _ TB RX11 := ⟨hx, hb, hml, hown, hts⟩
  have hl := lv_entry ([.ref (a 0), .int p0]) (n := 2) (Nat.le_of_ble_eq_true rfl)
  rw [lg_entry_eq]
  generalize (lg_sl ([.ref (a 0), .int p0]) ++ List.replicate (2 - (lg_sl ([.ref (a 0), .int p0])).length) Slot.unset).toArray = ls at hl ⊢
  have hl : lv_has ls 2 [(0, .ref (a 0)), (1, .int p0)] := hl
  subst hsz
  have hD := hD0.self (sz := s.heap.size)
  generalize hAe : va_A [(a 0, .inr (11, [.ref (a 1), .ref (a 20), .ref (a 3), .ref (a 40), .ref (a 4), .int v0_5, .ref (a 5), .ref (a 14), .ref (a 15), .ref (a 16), .ref (a 17), .ref (a 18)])), (a 14, .inr (2, [.ref (a 40), .int v14_1, .int v14_2, .int v14_3, .ref (a 120), .ref (a 121), .int v14_6, .ref (a 122), .int v14_8, .int v14_9, .int v14_10, .int v14_11, .int v14_12])), (a 40, .inr (0, [.int v40_0, .int v40_1, .int v40_2, .int v40_3, .int v40_4, .int v40_5, .int v40_6, .int v40_7, .ref (a 41), .ref (a 42), .ref (a 43), .ref (a 44), .ref (a 45), .ref (a 46), .ref (a 47), .ref (a 48), .ref (a 49), .ref (a 50), .ref (a 54)])), (a 42, .inl (t 0, 9, .inl f42)), (a 43, .inl (t 0, 9, .inl f43)), (a 45, .inl (t 0, 9, .inl f45)), (a 46, .inl (t 0, 9, .inl f46)), (a 47, .inl (t 0, 9, .inl f47)), (a 49, .inl (t 0, 9, .inl f49)), (a 54, .inr (9, [.int v54_0, .int v54_1, .int v54_2, .ref (a 55), .ref (a 56), .ref (a 57), .ref (a 58)])), (a 120, .inl (t 0, 81, .inl f120)), (a 121, .inl (t 0, 9, .inl f121))] s.heap.size = A at hD ⊢
  have hA : ∀ q : Nat, s.heap.size ≤ q → A q := fun q h => by rw [← hAe]; exact Or.inr h
  have hS : va_S A s.heap s.heap [] := va_S.rf
  have hP : va_P D classes [(a 0, .inr (11, [.ref (a 1), .ref (a 20), .ref (a 3), .ref (a 40), .ref (a 4), .int v0_5, .ref (a 5), .ref (a 14), .ref (a 15), .ref (a 16), .ref (a 17), .ref (a 18)])), (a 14, .inr (2, [.ref (a 40), .int v14_1, .int v14_2, .int v14_3, .ref (a 120), .ref (a 121), .int v14_6, .ref (a 122), .int v14_8, .int v14_9, .int v14_10, .int v14_11, .int v14_12])), (a 40, .inr (0, [.int v40_0, .int v40_1, .int v40_2, .int v40_3, .int v40_4, .int v40_5, .int v40_6, .int v40_7, .ref (a 41), .ref (a 42), .ref (a 43), .ref (a 44), .ref (a 45), .ref (a 46), .ref (a 47), .ref (a 48), .ref (a 49), .ref (a 50), .ref (a 54)])), (a 42, .inl (t 0, 9, .inl f42)), (a 43, .inl (t 0, 9, .inl f43)), (a 45, .inl (t 0, 9, .inl f45)), (a 46, .inl (t 0, 9, .inl f46)), (a 47, .inl (t 0, 9, .inl f47)), (a 49, .inl (t 0, 9, .inl f49)), (a 54, .inr (9, [.int v54_0, .int v54_1, .int v54_2, .ref (a 55), .ref (a 56), .ref (a 57), .ref (a 58)])), (a 120, .inl (t 0, 81, .inl f120)), (a 121, .inl (t 0, 9, .inl f121))] s.heap := hP
  refine lv_aload_n hx hb dX11_votes_0 rfl (lv_at hl 0 rfl) ?_
  refine va_get (D := D) (ci := 11) (v := .ref (a 40)) (C := RX11) (T := TX11) (N := 12) hx hb hts iX11 hown hK hP 0 rfl rfl 3 (by decide) (hts _ m_436) (fun _ h9 => h9) rfl dX11_votes_1 ?_
  refine lv_iload_n hx hb dX11_votes_4 rfl (lv_at hl 1 rfl) ?_
  refine y_pV hF (s_X0_hasWord_40 l D t a v40_0 v40_1 v40_2 v40_3 v40_4 v40_5 v40_6 v40_7 p0 r40_1 r40_5 r40_6 r40_7) m_702 m_703 m_704 m_3 m_705 hd_X0_hasWord ⟨Nat.le_of_ble_eq_true rfl, Nat.le_of_ble_eq_true rfl⟩ hK hN hP hS [2] rfl 0 (ci := 0) rfl rfl rfl hl.1 rfl (Nat.le_of_ble_eq_true rfl) dX11_votes_5 ⟨Nat.zero_le _, Nat.zero_le _⟩ (fun r_1 H locs hr_1 hP hS => ?_)
  refine lv_if_ne (tgt := 14) hx hb dX11_votes_8 (by decide) (fun c_2 => ?_) (fun c_2 => ?_)
  · skip
    have o_3 := Or.resolve_left hr_1.2 c_2
    refine lv_aload_n hx hb dX11_votes_14 rfl (lv_at hl 0 rfl) ?_
    refine va_get (D := D) (ci := 11) (v := .ref (a 14)) (C := RX11) (T := TX11) (N := 12) hx hb hts iX11 hown hK hP 0 rfl rfl 7 (by decide) (hts _ m_440) (fun _ h9 => h9) rfl dX11_votes_15 ?_
    refine lv_aload_n hx hb dX11_votes_18 rfl (lv_at hl 0 rfl) ?_
    refine va_get (D := D) (ci := 11) (v := .ref (a 40)) (C := RX11) (T := TX11) (N := 12) hx hb hts iX11 hown hK hP 0 rfl rfl 3 (by decide) (hts _ m_436) (fun _ h9 => h9) rfl dX11_votes_19 ?_
    refine va_getN (D := D) (ci := 0) (v := .ref (a 43)) (C := RX0) (T := TX0) (N := 19) (host := "WordSeats") hx hb hts iX0 hown hK hP 2 rfl rfl 10 (by decide) (va_Nw.use rfl (hN _ n_162)) (fun _ h9 => h9) rfl dX11_votes_22 ?_
    refine lv_iload_n hx hb dX11_votes_25 rfl (lv_at hl 1 rfl) ?_
    refine va_iald hx hb hK hP 4 0 rfl rfl (in_rg o_3 (by decide) (by decide)) dX11_votes_26 ?_
    refine lv_topi (fun x_4 ex_4 => ?_)
    have hx_4 : rg 0 3 x_4 := by rw [ex_4]; exact q43 _ (cl_rg o_3 (by decide) (by decide))
    refine y_wV (wr := [(a 0, .inr (11, [.ref (a 1), .ref (a 20), .ref (a 3), .ref (a 40), .ref (a 4), .int v0_5, .ref (a 5), .ref (a 14), .ref (a 15), .ref (a 16), .ref (a 17), .ref (a 18)])), (a 121, .inl (t 0, 9, .inl f121))]) hF (s_X2_open l D t a v14_1 v14_2 v14_3 v14_6 v14_8 v14_9 v14_10 v14_11 v14_12 v40_0 v40_1 v40_2 v40_3 v40_4 v40_5 v40_6 v40_7 f42 f43 f45 f46 f47 f49 v54_0 v54_1 v54_2 f120 x_4 r14_8 r14_9 r40_1 r40_5 r40_6 r40_7 q43 r54_0 H.size) m_762 m_763 m_764 m_7 m_765 hd_X2_open ⟨Nat.le_of_ble_eq_true rfl, Nat.le_of_ble_eq_true rfl⟩ hK hN hP hD hS hA 0 (ci := 2) rfl rfl rfl [1, 2, 3, 4, 5, 6, 7, 8, 9, 10] [0, 11] rfl rfl (by decide) (by decide) (by decide) hl.1 rfl (Nat.le_of_ble_eq_true rfl) dX11_votes_27 ⟨Nat.zero_le _, Nat.zero_le _⟩ (fun u_5 H locs hu_5 hP hD hS => ?_)
    have ou_5 := hu_5
    have hP : va_P D classes [(a 0, .inr (11, [.ref (a 1), .ref (a 20), .ref (a 3), .ref (a 40), .ref (a 4), .int v0_5, .ref (a 5), .ref (a 14), .ref (a 15), .ref (a 16), .ref (a 17), .ref (a 18)])), (a 121, .inl (t 0, 9, .inl f121)), (a 14, .inr (2, [.ref (a 40), .int (u_5.1 0), .int (u_5.1 1), .int (u_5.1 2), .ref (a 120), .ref (a 121), .int v14_6, .ref (a 122), .int v14_8, .int v14_9, .int v14_10, .int v14_11, .int v14_12])), (a 40, .inr (0, [.int v40_0, .int v40_1, .int v40_2, .int v40_3, .int v40_4, .int v40_5, .int v40_6, .int v40_7, .ref (a 41), .ref (a 42), .ref (a 43), .ref (a 44), .ref (a 45), .ref (a 46), .ref (a 47), .ref (a 48), .ref (a 49), .ref (a 50), .ref (a 54)])), (a 42, .inl (t 0, 9, .inl f42)), (a 43, .inl (t 0, 9, .inl f43)), (a 45, .inl (t 0, 9, .inl f45)), (a 46, .inl (t 0, 9, .inl f46)), (a 47, .inl (t 0, 9, .inl f47)), (a 49, .inl (t 0, 9, .inl f49)), (a 54, .inr (9, [.int v54_0, .int v54_1, .int v54_2, .ref (a 55), .ref (a 56), .ref (a 57), .ref (a 58)])), (a 120, .inl (t 0, 81, .inl (u_5.2.1 0)))] H := hP
    have hD : va_D A [(a 0, .inr (11, [.ref (a 1), .ref (a 20), .ref (a 3), .ref (a 40), .ref (a 4), .int v0_5, .ref (a 5), .ref (a 14), .ref (a 15), .ref (a 16), .ref (a 17), .ref (a 18)])), (a 121, .inl (t 0, 9, .inl f121)), (a 14, .inr (2, [.ref (a 40), .int (u_5.1 0), .int (u_5.1 1), .int (u_5.1 2), .ref (a 120), .ref (a 121), .int v14_6, .ref (a 122), .int v14_8, .int v14_9, .int v14_10, .int v14_11, .int v14_12])), (a 40, .inr (0, [.int v40_0, .int v40_1, .int v40_2, .int v40_3, .int v40_4, .int v40_5, .int v40_6, .int v40_7, .ref (a 41), .ref (a 42), .ref (a 43), .ref (a 44), .ref (a 45), .ref (a 46), .ref (a 47), .ref (a 48), .ref (a 49), .ref (a 50), .ref (a 54)])), (a 42, .inl (t 0, 9, .inl f42)), (a 43, .inl (t 0, 9, .inl f43)), (a 45, .inl (t 0, 9, .inl f45)), (a 46, .inl (t 0, 9, .inl f46)), (a 47, .inl (t 0, 9, .inl f47)), (a 49, .inl (t 0, 9, .inl f49)), (a 54, .inr (9, [.int v54_0, .int v54_1, .int v54_2, .ref (a 55), .ref (a 56), .ref (a 57), .ref (a 58)])), (a 120, .inl (t 0, 81, .inl (u_5.2.1 0)))] := hD
    refine lv_aload_n hx hb dX11_votes_30 rfl (lv_at hl 0 rfl) ?_
    refine va_get (D := D) (ci := 11) (v := .ref (a 14)) (C := RX11) (T := TX11) (N := 12) hx hb hts iX11 hown hK hP 0 rfl rfl 7 (by decide) (hts _ m_440) (fun _ h9 => h9) rfl dX11_votes_31 ?_
    refine lv_aload_n hx hb dX11_votes_34 rfl (lv_at hl 0 rfl) ?_
    refine va_get (D := D) (ci := 11) (v := .ref (a 14)) (C := RX11) (T := TX11) (N := 12) hx hb hts iX11 hown hK hP 0 rfl rfl 7 (by decide) (hts _ m_440) (fun _ h9 => h9) rfl dX11_votes_35 ?_
    refine va_getN (D := D) (ci := 2) (v := .int (u_5.1 0)) (C := RX2) (T := TX2) (N := 13) (host := "WordSeats") hx hb hts iX2 hown hK hP 2 rfl rfl 1 (by decide) (va_Nw.use rfl (hN _ n_278)) (fun _ h9 => h9) rfl dX11_votes_38 ?_
    refine y_wV (wr := [(a 0, .inr (11, [.ref (a 1), .ref (a 20), .ref (a 3), .ref (a 40), .ref (a 4), .int v0_5, .ref (a 5), .ref (a 14), .ref (a 15), .ref (a 16), .ref (a 17), .ref (a 18)])), (a 42, .inl (t 0, 9, .inl f42)), (a 43, .inl (t 0, 9, .inl f43)), (a 45, .inl (t 0, 9, .inl f45)), (a 46, .inl (t 0, 9, .inl f46)), (a 49, .inl (t 0, 9, .inl f49)), (a 54, .inr (9, [.int v54_0, .int v54_1, .int v54_2, .ref (a 55), .ref (a 56), .ref (a 57), .ref (a 58)]))]) hF (s_X2_tallyFirst l D t a (u_5.1 0) (u_5.1 1) (u_5.1 2) v14_6 v14_8 v14_9 v14_10 v14_11 v14_12 v40_0 v40_1 v40_2 v40_3 v40_4 v40_5 v40_6 v40_7 f47 (u_5.2.1 0) f121 (u_5.1 0) r14_8 r14_9 r40_1 r40_5 r40_6 r40_7 H.size) m_795 m_796 m_797 m_7 m_798 hd_X2_tallyFirst ⟨Nat.le_of_ble_eq_true rfl, Nat.le_of_ble_eq_true rfl⟩ hK hN hP hD hS hA 0 (ci := 2) rfl rfl rfl [2, 3, 8, 11, 1] [0, 4, 5, 6, 7, 9, 10] rfl rfl (by decide) (by decide) (by decide) hl.1 rfl (Nat.le_of_ble_eq_true rfl) dX11_votes_41 ⟨Nat.zero_le _, Nat.zero_le _⟩ (fun u_7 H locs hu_7 hP hD hS => ?_)
    have hP : va_P D classes [(a 0, .inr (11, [.ref (a 1), .ref (a 20), .ref (a 3), .ref (a 40), .ref (a 4), .int v0_5, .ref (a 5), .ref (a 14), .ref (a 15), .ref (a 16), .ref (a 17), .ref (a 18)])), (a 42, .inl (t 0, 9, .inl f42)), (a 43, .inl (t 0, 9, .inl f43)), (a 45, .inl (t 0, 9, .inl f45)), (a 46, .inl (t 0, 9, .inl f46)), (a 49, .inl (t 0, 9, .inl f49)), (a 54, .inr (9, [.int v54_0, .int v54_1, .int v54_2, .ref (a 55), .ref (a 56), .ref (a 57), .ref (a 58)])), (a 14, .inr (2, [.ref (a 40), .int (u_5.1 0), .int (u_5.1 1), .int (u_5.1 2), .ref (a 120), .ref (a 121), .int (u_7.1 0), .ref (a 122), .int v14_8, .int v14_9, .int v14_10, .int v14_11, .int v14_12])), (a 40, .inr (0, [.int v40_0, .int v40_1, .int v40_2, .int v40_3, .int v40_4, .int v40_5, .int v40_6, .int v40_7, .ref (a 41), .ref (a 42), .ref (a 43), .ref (a 44), .ref (a 45), .ref (a 46), .ref (a 47), .ref (a 48), .ref (a 49), .ref (a 50), .ref (a 54)])), (a 47, .inl (t 0, 9, .inl f47)), (a 120, .inl (t 0, 81, .inl (u_5.2.1 0))), (a 121, .inl (t 0, 9, .inl (u_7.2.1 0)))] H := hP
    have hD : va_D A [(a 0, .inr (11, [.ref (a 1), .ref (a 20), .ref (a 3), .ref (a 40), .ref (a 4), .int v0_5, .ref (a 5), .ref (a 14), .ref (a 15), .ref (a 16), .ref (a 17), .ref (a 18)])), (a 42, .inl (t 0, 9, .inl f42)), (a 43, .inl (t 0, 9, .inl f43)), (a 45, .inl (t 0, 9, .inl f45)), (a 46, .inl (t 0, 9, .inl f46)), (a 49, .inl (t 0, 9, .inl f49)), (a 54, .inr (9, [.int v54_0, .int v54_1, .int v54_2, .ref (a 55), .ref (a 56), .ref (a 57), .ref (a 58)])), (a 14, .inr (2, [.ref (a 40), .int (u_5.1 0), .int (u_5.1 1), .int (u_5.1 2), .ref (a 120), .ref (a 121), .int (u_7.1 0), .ref (a 122), .int v14_8, .int v14_9, .int v14_10, .int v14_11, .int v14_12])), (a 40, .inr (0, [.int v40_0, .int v40_1, .int v40_2, .int v40_3, .int v40_4, .int v40_5, .int v40_6, .int v40_7, .ref (a 41), .ref (a 42), .ref (a 43), .ref (a 44), .ref (a 45), .ref (a 46), .ref (a 47), .ref (a 48), .ref (a 49), .ref (a 50), .ref (a 54)])), (a 47, .inl (t 0, 9, .inl f47)), (a 120, .inl (t 0, 81, .inl (u_5.2.1 0))), (a 121, .inl (t 0, 9, .inl (u_7.2.1 0)))] := hD
    refine lv_aload_n hx hb dX11_votes_44 rfl (lv_at hl 0 rfl) ?_
    refine va_get (D := D) (ci := 11) (v := .ref (a 14)) (C := RX11) (T := TX11) (N := 12) hx hb hts iX11 hown hK hP 0 rfl rfl 7 (by decide) (hts _ m_440) (fun _ h9 => h9) rfl dX11_votes_45 ?_
    refine va_getN (D := D) (ci := 2) (v := .ref (a 121)) (C := RX2) (T := TX2) (N := 13) (host := "WordSeats") hx hb hts iX2 hown hK hP 7 rfl rfl 5 (by decide) (va_Nw.use rfl (hN _ n_285)) (fun _ h9 => h9) rfl dX11_votes_48 ?_
    refine lv_iload_n hx hb dX11_votes_51 rfl (lv_at hl 1 rfl) ?_
    refine va_iald hx hb hK hP 11 0 rfl rfl (in_rg o_3 (by decide) (by decide)) dX11_votes_52 ?_
    refine lv_topi (fun x_9 ex_9 => ?_)
    have hP9 := hP.sub (ws' := [(a 0, .inr (11, [.ref (a 1), .ref (a 20), .ref (a 3), .ref (a 40), .ref (a 4), .int v0_5, .ref (a 5), .ref (a 14), .ref (a 15), .ref (a 16), .ref (a 17), .ref (a 18)])), (a 14, .inr (2, [.ref (a 40), .int (u_5.1 0), .int (u_5.1 1), .int (u_5.1 2), .ref (a 120), .ref (a 121), .int (u_7.1 0), .ref (a 122), .int v14_8, .int v14_9, .int v14_10, .int v14_11, .int v14_12])), (a 40, .inr (0, [.int v40_0, .int v40_1, .int v40_2, .int v40_3, .int v40_4, .int v40_5, .int v40_6, .int v40_7, .ref (a 41), .ref (a 42), .ref (a 43), .ref (a 44), .ref (a 45), .ref (a 46), .ref (a 47), .ref (a 48), .ref (a 49), .ref (a 50), .ref (a 54)])), (a 42, .inl (t 0, 9, .inl f42)), (a 43, .inl (t 0, 9, .inl f43)), (a 45, .inl (t 0, 9, .inl f45)), (a 46, .inl (t 0, 9, .inl f46)), (a 47, .inl (t 0, 9, .inl f47)), (a 49, .inl (t 0, 9, .inl f49)), (a 54, .inr (9, [.int v54_0, .int v54_1, .int v54_2, .ref (a 55), .ref (a 56), .ref (a 57), .ref (a 58)])), (a 120, .inl (t 0, 81, .inl (u_5.2.1 0))), (a 121, .inl (t 0, 9, .inl (u_7.2.1 0)))]) [0, 7, 8, 1, 2, 3, 4, 9, 5, 6, 10, 11] rfl
    have hD9 := hD.sub (ws' := [(a 0, .inr (11, [.ref (a 1), .ref (a 20), .ref (a 3), .ref (a 40), .ref (a 4), .int v0_5, .ref (a 5), .ref (a 14), .ref (a 15), .ref (a 16), .ref (a 17), .ref (a 18)])), (a 14, .inr (2, [.ref (a 40), .int (u_5.1 0), .int (u_5.1 1), .int (u_5.1 2), .ref (a 120), .ref (a 121), .int (u_7.1 0), .ref (a 122), .int v14_8, .int v14_9, .int v14_10, .int v14_11, .int v14_12])), (a 40, .inr (0, [.int v40_0, .int v40_1, .int v40_2, .int v40_3, .int v40_4, .int v40_5, .int v40_6, .int v40_7, .ref (a 41), .ref (a 42), .ref (a 43), .ref (a 44), .ref (a 45), .ref (a 46), .ref (a 47), .ref (a 48), .ref (a 49), .ref (a 50), .ref (a 54)])), (a 42, .inl (t 0, 9, .inl f42)), (a 43, .inl (t 0, 9, .inl f43)), (a 45, .inl (t 0, 9, .inl f45)), (a 46, .inl (t 0, 9, .inl f46)), (a 47, .inl (t 0, 9, .inl f47)), (a 49, .inl (t 0, 9, .inl f49)), (a 54, .inr (9, [.int v54_0, .int v54_1, .int v54_2, .ref (a 55), .ref (a 56), .ref (a 57), .ref (a 58)])), (a 120, .inl (t 0, 81, .inl (u_5.2.1 0))), (a 121, .inl (t 0, 9, .inl (u_7.2.1 0)))]) [0, 7, 8, 1, 2, 3, 4, 9, 5, 6, 10, 11] (by decide) rfl
    exact W.iret (v := x_9) hx hb hr (fun t9 ht hW => ⟨⟨x_9, (fun k => [(u_5.1 0), (u_5.1 1), (u_5.1 2), (u_7.1 0)].getD k 0, fun k => [(u_5.2.1 0), (u_7.2.1 0)].getD k (fun _ => 0), fun k => [].getD k (fun _ => 0), fun _ => 0), rfl, trivial, by rw [ht]; exact hP9, hD9⟩, hS.F ht⟩) hS.2.2 dX11_votes_53
  · skip
    refine lv_bipush (v := (-2)) hx hb dX11_votes_11 (by decide) ?_
    have hP9 := hP.sub (ws' := [(a 0, .inr (11, [.ref (a 1), .ref (a 20), .ref (a 3), .ref (a 40), .ref (a 4), .int v0_5, .ref (a 5), .ref (a 14), .ref (a 15), .ref (a 16), .ref (a 17), .ref (a 18)])), (a 14, .inr (2, [.ref (a 40), .int v14_1, .int v14_2, .int v14_3, .ref (a 120), .ref (a 121), .int v14_6, .ref (a 122), .int v14_8, .int v14_9, .int v14_10, .int v14_11, .int v14_12])), (a 40, .inr (0, [.int v40_0, .int v40_1, .int v40_2, .int v40_3, .int v40_4, .int v40_5, .int v40_6, .int v40_7, .ref (a 41), .ref (a 42), .ref (a 43), .ref (a 44), .ref (a 45), .ref (a 46), .ref (a 47), .ref (a 48), .ref (a 49), .ref (a 50), .ref (a 54)])), (a 42, .inl (t 0, 9, .inl f42)), (a 43, .inl (t 0, 9, .inl f43)), (a 45, .inl (t 0, 9, .inl f45)), (a 46, .inl (t 0, 9, .inl f46)), (a 47, .inl (t 0, 9, .inl f47)), (a 49, .inl (t 0, 9, .inl f49)), (a 54, .inr (9, [.int v54_0, .int v54_1, .int v54_2, .ref (a 55), .ref (a 56), .ref (a 57), .ref (a 58)])), (a 120, .inl (t 0, 81, .inl f120)), (a 121, .inl (t 0, 9, .inl f121))]) [0, 1, 2, 3, 4, 5, 6, 7, 8, 9, 10, 11] rfl
    have hD9 := hD.sub (ws' := [(a 0, .inr (11, [.ref (a 1), .ref (a 20), .ref (a 3), .ref (a 40), .ref (a 4), .int v0_5, .ref (a 5), .ref (a 14), .ref (a 15), .ref (a 16), .ref (a 17), .ref (a 18)])), (a 14, .inr (2, [.ref (a 40), .int v14_1, .int v14_2, .int v14_3, .ref (a 120), .ref (a 121), .int v14_6, .ref (a 122), .int v14_8, .int v14_9, .int v14_10, .int v14_11, .int v14_12])), (a 40, .inr (0, [.int v40_0, .int v40_1, .int v40_2, .int v40_3, .int v40_4, .int v40_5, .int v40_6, .int v40_7, .ref (a 41), .ref (a 42), .ref (a 43), .ref (a 44), .ref (a 45), .ref (a 46), .ref (a 47), .ref (a 48), .ref (a 49), .ref (a 50), .ref (a 54)])), (a 42, .inl (t 0, 9, .inl f42)), (a 43, .inl (t 0, 9, .inl f43)), (a 45, .inl (t 0, 9, .inl f45)), (a 46, .inl (t 0, 9, .inl f46)), (a 47, .inl (t 0, 9, .inl f47)), (a 49, .inl (t 0, 9, .inl f49)), (a 54, .inr (9, [.int v54_0, .int v54_1, .int v54_2, .ref (a 55), .ref (a 56), .ref (a 57), .ref (a 58)])), (a 120, .inl (t 0, 81, .inl f120)), (a 121, .inl (t 0, 9, .inl f121))]) [0, 1, 2, 3, 4, 5, 6, 7, 8, 9, 10, 11] (by decide) rfl
    exact W.iret (v := (-2)) hx hb hr (fun t9 ht hW => ⟨⟨(-2), (fun k => [v14_1, v14_2, v14_3, v14_6].getD k 0, fun k => [f120, f121].getD k (fun _ => 0), fun k => [].getD k (fun _ => 0), fun _ => 0), rfl, trivial, by rw [ht]; exact hP9, hD9⟩, hS.F ht⟩) hS.2.2 dX11_votes_13

