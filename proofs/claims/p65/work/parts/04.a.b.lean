set_option maxHeartbeats 4000000 in
set_option maxRecDepth 100000 in
theorem s_X11_holds (l : Launch) (D : va_G) (t : Nat → ClassId) (a : Nat → Nat) (p0 : Int32) (p1 : Int32) : Met l yX11_holds (wd yX11_holds cX11_holds 2 (some .boolean)) (RM 0 0 0) (PreP D (TY t) [.int p0, .int p1] []) (QP (fun r => rg 0 1 r)) 0 0 NoF := by
  refine Met.ofW (cc := cX11_holds) (maxL := 2) (ret := (some .boolean)) (by decide) rfl ?_
  intro p e s m args below meth c s₁ B hml hv
  obtain ⟨rfl, hP, hK, hN⟩ := hv
  have hx := B.exec
  have hb := B.bytes
  have hr := B.returns
  have hts : ∀ w ∈ TB, w.before _ s = true := fun w h => atoms_spec (ws := wd yX11_holds cX11_holds 2 (some .boolean)) B.pre w (List.mem_cons_of_mem _ h)
  have hown : s.vm.findClass RX11 = some m.cls := findClass_of_methodNamed B.named
  have hlocks := B.notSynchronized
  have hF : CallFix p m c cX11_holds 2 s _ TB RX11 := ⟨hx, hb, hml, hown, hts⟩
  have hl := lv_entry ([.int p0, .int p1]) (n := 2) (Nat.le_of_ble_eq_true rfl)
  rw [lg_entry_eq]
  generalize (lg_sl ([.int p0, .int p1]) ++ List.replicate (2 - (lg_sl ([.int p0, .int p1])).length) Slot.unset).toArray = ls at hl ⊢
  have hl : lv_has ls 2 [(0, .int p0), (1, .int p1)] := hl
  have hS : va_S NoF s.heap s.heap [] := va_S.rf
  have hP : va_P D classes [] s.heap := hP
  refine lv_iload_n hx hb dX11_holds_0 rfl (lv_at hl 0 rfl) ?_
  refine lv_iload_n hx hb dX11_holds_1 rfl (lv_at hl 1 rfl) ?_
  refine lv_ishr hx hb dX11_holds_2 ?_
  refine lv_topi (fun x_1 ex_1 => ?_)
  refine lv_iconst (v := 1) hx hb dX11_holds_3 (by decide) ?_
  refine lv_iand hx hb dX11_holds_4 ?_
  refine lv_topi (fun x_2 ex_2 => ?_)
  have hx_2 : rg 0 1 x_2 := by rw [ex_2]; exact rg_and (rg_w (c := 0) (d := 1) (rg_c (x := 1) (k := 1) (by decide)) (by decide) (by decide))
  refine lv_iconst (v := 1) hx hb dX11_holds_5 (by decide) ?_
  refine lv_icmp_ne (tgt := 13) hx hb dX11_holds_6 (by decide) (fun c_3 => ?_) (fun c_3 => ?_)
  · skip
    have h_4 : rg 0 0 x_2 := rg_w (rg_neR hx_2 c_3 (by decide)) (by decide) (by decide)
    refine lv_iconst (v := 0) hx hb dX11_holds_13 (by decide) ?_
    exact W.zret (v := 0) hx hb hr rfl (fun t9 ht hW => ⟨⟨0, (), rfl, (rg_w (c := 0) (d := 1) (rg_c (x := 0) (k := 0) (by decide)) (by decide) (by decide)), trivial⟩, hS.F ht⟩) hS.2.2 dX11_holds_14
  · skip
    have h_5 : rg 1 1 x_2 := rg_eq c_3 (rg_c (x := 1) (k := 1) (by decide))
    refine lv_iconst (v := 1) hx hb dX11_holds_9 (by decide) ?_
    refine lv_goto (tgt := 14) hx hb dX11_holds_10 (by decide) ?_
    exact W.zret (v := 1) hx hb hr rfl (fun t9 ht hW => ⟨⟨1, (), rfl, (rg_w (c := 0) (d := 1) (rg_c (x := 1) (k := 1) (by decide)) (by decide) (by decide)), trivial⟩, hS.F ht⟩) hS.2.2 dX11_holds_14

set_option maxHeartbeats 4000000 in
set_option maxRecDepth 100000 in
theorem s_J6_bitCount_0f7a4 (l : Launch) (D : va_G) (t : Nat → ClassId) (a : Nat → Nat) (p0 : Int32) : Met l yJ6_bitCount_0f7a4 (wd yJ6_bitCount_0f7a4 cJ6_bitCount_0f7a4 1 (some .int)) (RM 0 0 0) (PreP D (TY t) [.int p0] []) (QP (fun r => rg 0 63 r)) 0 0 NoF := by
  refine Met.ofW (cc := cJ6_bitCount_0f7a4) (maxL := 1) (ret := (some .int)) (by decide) rfl ?_
  intro p e s m args below meth c s₁ B hml hv
  obtain ⟨rfl, hP, hK, hN⟩ := hv
  have hx := B.exec
  have hb := B.bytes
  have hr := B.returns
  have hts : ∀ w ∈ TB, w.before _ s = true := fun w h => atoms_spec (ws := wd yJ6_bitCount_0f7a4 cJ6_bitCount_0f7a4 1 (some .int)) B.pre w (List.mem_cons_of_mem _ h)
  have hown : s.vm.findClass RJ6 = some m.cls := findClass_of_methodNamed B.named
  have hlocks := B.notSynchronized
  have hF : CallFix p m c cJ6_bitCount_0f7a4 1 s _ TB RJ6 := ⟨hx, hb, hml, hown, hts⟩
  have hl := lv_entry ([.int p0]) (n := 1) (Nat.le_of_ble_eq_true rfl)
  rw [lg_entry_eq]
  generalize (lg_sl ([.int p0]) ++ List.replicate (1 - (lg_sl ([.int p0])).length) Slot.unset).toArray = ls at hl ⊢
  have hl : lv_has ls 1 [(0, .int p0)] := hl
  have hS : va_S NoF s.heap s.heap [] := va_S.rf
  have hP : va_P D classes [] s.heap := hP
  refine lv_iload_n hx hb dJ6_bitCount_0f7a4_0 rfl (lv_at hl 0 rfl) ?_
  refine lv_iload_n hx hb dJ6_bitCount_0f7a4_1 rfl (lv_at hl 0 rfl) ?_
  refine lv_iconst (v := 1) hx hb dJ6_bitCount_0f7a4_2 (by decide) ?_
  refine lv_iushr hx hb dJ6_bitCount_0f7a4_3 rfl ?_
  refine lv_topi (fun x_1 ex_1 => ?_)
  refine lv_ldcw (v := 1431655765) hx hb hown (hts _ m_755) dJ6_bitCount_0f7a4_4 ?_
  refine lv_iand hx hb dJ6_bitCount_0f7a4_7 ?_
  refine lv_topi (fun x_2 ex_2 => ?_)
  have hx_2 : rg 0 1431655765 x_2 := by rw [ex_2]; exact rg_and (rg_w (c := 0) (d := 1431655765) (rg_c (x := 1431655765) (k := 1431655765) (by decide)) (by decide) (by decide))
  refine lv_isub hx hb dJ6_bitCount_0f7a4_8 ?_
  refine lv_topi (fun x_3 ex_3 => ?_)
  refine lv_istore_n (lv' := [(0, .int x_3)]) hx hb dJ6_bitCount_0f7a4_9 rfl hl (by decide) rfl (fun ls hl => ?_)
  refine lv_iload_n hx hb dJ6_bitCount_0f7a4_10 rfl (lv_at hl 0 rfl) ?_
  refine lv_ldcw (v := 858993459) hx hb hown (hts _ m_756) dJ6_bitCount_0f7a4_11 ?_
  refine lv_iand hx hb dJ6_bitCount_0f7a4_14 ?_
  refine lv_topi (fun x_4 ex_4 => ?_)
  have hx_4 : rg 0 858993459 x_4 := by rw [ex_4]; exact rg_and (rg_w (c := 0) (d := 858993459) (rg_c (x := 858993459) (k := 858993459) (by decide)) (by decide) (by decide))
  refine lv_iload_n hx hb dJ6_bitCount_0f7a4_15 rfl (lv_at hl 0 rfl) ?_
  refine lv_iconst (v := 2) hx hb dJ6_bitCount_0f7a4_16 (by decide) ?_
  refine lv_iushr hx hb dJ6_bitCount_0f7a4_17 rfl ?_
  refine lv_topi (fun x_5 ex_5 => ?_)
  refine lv_ldcw (v := 858993459) hx hb hown (hts _ m_756) dJ6_bitCount_0f7a4_18 ?_
  refine lv_iand hx hb dJ6_bitCount_0f7a4_21 ?_
  refine lv_topi (fun x_6 ex_6 => ?_)
  have hx_6 : rg 0 858993459 x_6 := by rw [ex_6]; exact rg_and (rg_w (c := 0) (d := 858993459) (rg_c (x := 858993459) (k := 858993459) (by decide)) (by decide) (by decide))
  refine lv_iadd hx hb dJ6_bitCount_0f7a4_22 ?_
  refine lv_topi (fun x_7 ex_7 => ?_)
  have hx_7 : rg 0 1717986918 x_7 := by rw [ex_7]; exact rg_add hx_4 hx_6 (by decide) (by decide) (by decide) (by decide)
  refine lv_istore_n (lv' := [(0, .int x_7)]) hx hb dJ6_bitCount_0f7a4_23 rfl hl (by decide) rfl (fun ls hl => ?_)
  refine lv_iload_n hx hb dJ6_bitCount_0f7a4_24 rfl (lv_at hl 0 rfl) ?_
  refine lv_iload_n hx hb dJ6_bitCount_0f7a4_25 rfl (lv_at hl 0 rfl) ?_
  refine lv_iconst (v := 4) hx hb dJ6_bitCount_0f7a4_26 (by decide) ?_
  refine lv_iushr hx hb dJ6_bitCount_0f7a4_27 rfl ?_
  refine lv_topi (fun x_8 ex_8 => ?_)
  refine lv_iadd hx hb dJ6_bitCount_0f7a4_28 ?_
  refine lv_topi (fun x_9 ex_9 => ?_)
  refine lv_ldcw (v := 252645135) hx hb hown (hts _ m_757) dJ6_bitCount_0f7a4_29 ?_
  refine lv_iand hx hb dJ6_bitCount_0f7a4_32 ?_
  refine lv_topi (fun x_10 ex_10 => ?_)
  have hx_10 : rg 0 252645135 x_10 := by rw [ex_10]; exact rg_and (rg_w (c := 0) (d := 252645135) (rg_c (x := 252645135) (k := 252645135) (by decide)) (by decide) (by decide))
  refine lv_istore_n (lv' := [(0, .int x_10)]) hx hb dJ6_bitCount_0f7a4_33 rfl hl (by decide) rfl (fun ls hl => ?_)
  refine lv_iload_n hx hb dJ6_bitCount_0f7a4_34 rfl (lv_at hl 0 rfl) ?_
  refine lv_iload_n hx hb dJ6_bitCount_0f7a4_35 rfl (lv_at hl 0 rfl) ?_
  refine lv_bipush (v := 8) hx hb dJ6_bitCount_0f7a4_36 (by decide) ?_
  refine lv_iushr hx hb dJ6_bitCount_0f7a4_38 rfl ?_
  refine lv_topi (fun x_11 ex_11 => ?_)
  refine lv_iadd hx hb dJ6_bitCount_0f7a4_39 ?_
  refine lv_topi (fun x_12 ex_12 => ?_)
  refine lv_istore_n (lv' := [(0, .int x_12)]) hx hb dJ6_bitCount_0f7a4_40 rfl hl (by decide) rfl (fun ls hl => ?_)
  refine lv_iload_n hx hb dJ6_bitCount_0f7a4_41 rfl (lv_at hl 0 rfl) ?_
  refine lv_iload_n hx hb dJ6_bitCount_0f7a4_42 rfl (lv_at hl 0 rfl) ?_
  refine lv_bipush (v := 16) hx hb dJ6_bitCount_0f7a4_43 (by decide) ?_
  refine lv_iushr hx hb dJ6_bitCount_0f7a4_45 rfl ?_
  refine lv_topi (fun x_13 ex_13 => ?_)
  refine lv_iadd hx hb dJ6_bitCount_0f7a4_46 ?_
  refine lv_topi (fun x_14 ex_14 => ?_)
  refine lv_istore_n (lv' := [(0, .int x_14)]) hx hb dJ6_bitCount_0f7a4_47 rfl hl (by decide) rfl (fun ls hl => ?_)
  refine lv_iload_n hx hb dJ6_bitCount_0f7a4_48 rfl (lv_at hl 0 rfl) ?_
  refine lv_bipush (v := 63) hx hb dJ6_bitCount_0f7a4_49 (by decide) ?_
  refine lv_iand hx hb dJ6_bitCount_0f7a4_51 ?_
  refine lv_topi (fun x_15 ex_15 => ?_)
  have hx_15 : rg 0 63 x_15 := by rw [ex_15]; exact rg_and (rg_w (c := 0) (d := 63) (rg_c (x := 63) (k := 63) (by decide)) (by decide) (by decide))
  exact W.iret (v := x_15) hx hb hr (fun t9 ht hW => ⟨⟨x_15, (), rfl, hx_15, trivial⟩, hS.F ht⟩) hS.2.2 dJ6_bitCount_0f7a4_52

set_option maxHeartbeats 4000000 in
set_option maxRecDepth 100000 in
theorem s_X0_hasMeaning_40 (l : Launch) (D : va_G) (t : Nat → ClassId) (a : Nat → Nat) (v40_0 : Int32) (v40_1 : Int32) (v40_2 : Int32) (v40_3 : Int32) (v40_4 : Int32) (v40_5 : Int32) (v40_6 : Int32) (v40_7 : Int32) (p0 : Int32) (r40_1 : rg 0 8 v40_1) (r40_5 : rg 0 4 v40_5) (r40_6 : rg 0 9 v40_6) (r40_7 : rg 0 9 v40_7) : Met l yX0_hasMeaning (wd yX0_hasMeaning cX0_hasMeaning 2 (some .boolean)) (RM 0 0 0) (PreP D (TY t) [.ref (a 40), .int p0] [(a 40, .inr (0, [.int v40_0, .int v40_1, .int v40_2, .int v40_3, .int v40_4, .int v40_5, .int v40_6, .int v40_7, .ref (a 41), .ref (a 42), .ref (a 43), .ref (a 44), .ref (a 45), .ref (a 46), .ref (a 47), .ref (a 48), .ref (a 49), .ref (a 50), .ref (a 54)]))]) (QP (fun r => rg 0 1 r ∧ (r = 0 ∨ (rg 0 7 p0)))) 0 0 NoF := by
  refine Met.ofW (cc := cX0_hasMeaning) (maxL := 2) (ret := (some .boolean)) (by decide) rfl ?_
  intro p e s m args below meth c s₁ B hml hv
  obtain ⟨rfl, hP, hK, hN⟩ := hv
  have hx := B.exec
  have hb := B.bytes
  have hr := B.returns
  have hts : ∀ w ∈ TB, w.before _ s = true := fun w h => atoms_spec (ws := wd yX0_hasMeaning cX0_hasMeaning 2 (some .boolean)) B.pre w (List.mem_cons_of_mem _ h)
  have hown : s.vm.findClass RX0 = some m.cls := findClass_of_methodNamed B.named
  have hlocks := B.notSynchronized
  have hF : CallFix p m c cX0_hasMeaning 2 s _ TB RX0 := ⟨hx, hb, hml, hown, hts⟩
  have hl := lv_entry ([.ref (a 40), .int p0]) (n := 2) (Nat.le_of_ble_eq_true rfl)
  rw [lg_entry_eq]
  generalize (lg_sl ([.ref (a 40), .int p0]) ++ List.replicate (2 - (lg_sl ([.ref (a 40), .int p0])).length) Slot.unset).toArray = ls at hl ⊢
  have hl : lv_has ls 2 [(0, .ref (a 40)), (1, .int p0)] := hl
  have hS : va_S NoF s.heap s.heap [] := va_S.rf
  have hP : va_P D classes [(a 40, .inr (0, [.int v40_0, .int v40_1, .int v40_2, .int v40_3, .int v40_4, .int v40_5, .int v40_6, .int v40_7, .ref (a 41), .ref (a 42), .ref (a 43), .ref (a 44), .ref (a 45), .ref (a 46), .ref (a 47), .ref (a 48), .ref (a 49), .ref (a 50), .ref (a 54)]))] s.heap := hP
  refine lv_iload_n hx hb dX0_hasMeaning_0 rfl (lv_at hl 1 rfl) ?_
  refine lv_if_lt (tgt := 16) hx hb dX0_hasMeaning_1 (by decide) (fun c_1 => ?_) (fun c_1 => ?_)
  · skip
    have h_2 : rg (-2147483648) (-1) p0 := ⟨((rg_any p0)).1, Int.le_trans (c_lt c_1 (rg_c (x := 0) (k := 0) (by decide))) (by decide)⟩
    refine lv_iconst (v := 0) hx hb dX0_hasMeaning_16 (by decide) ?_
    exact W.zret (v := 0) hx hb hr rfl (fun t9 ht hW => ⟨⟨0, (), rfl, ⟨⟨by decide, by decide⟩, Or.inl rfl⟩, trivial⟩, hS.F ht⟩) hS.2.2 dX0_hasMeaning_17
  · skip
    have h_3 : rg 0 2147483647 p0 := ⟨Int.le_trans (by decide) (c_nlt c_1 (rg_c (x := 0) (k := 0) (by decide))), ((rg_any p0)).2⟩
    refine lv_iload_n hx hb dX0_hasMeaning_4 rfl (lv_at hl 1 rfl) ?_
    refine lv_aload_n hx hb dX0_hasMeaning_5 rfl (lv_at hl 0 rfl) ?_
    refine va_get (D := D) (ci := 0) (v := .int v40_1) (C := RX0) (T := TX0) (N := 19) hx hb hts iX0 hown hK hP 0 rfl rfl 1 (by decide) (hts _ m_121) (fun _ h9 => h9) rfl dX0_hasMeaning_6 ?_
    refine lv_icmp_ge (tgt := 16) hx hb dX0_hasMeaning_9 (by decide) (fun c_4 => ?_) (fun c_4 => ?_)
    · skip
      refine lv_iconst (v := 0) hx hb dX0_hasMeaning_16 (by decide) ?_
      exact W.zret (v := 0) hx hb hr rfl (fun t9 ht hW => ⟨⟨0, (), rfl, ⟨⟨by decide, by decide⟩, Or.inl rfl⟩, trivial⟩, hS.F ht⟩) hS.2.2 dX0_hasMeaning_17
    · skip
      have h_5 : rg 0 7 p0 := ⟨(h_3).1, Int.le_trans (c_nleR c_4 r40_1) (by decide)⟩
      have h_6 : rg 1 8 v40_1 := ⟨Int.le_trans (by decide) (c_nle c_4 h_3), (r40_1).2⟩
      refine lv_iconst (v := 1) hx hb dX0_hasMeaning_12 (by decide) ?_
      refine lv_goto (tgt := 17) hx hb dX0_hasMeaning_13 (by decide) ?_
      exact W.zret (v := 1) hx hb hr rfl (fun t9 ht hW => ⟨⟨1, (), rfl, ⟨⟨by decide, by decide⟩, Or.inr h_5⟩, trivial⟩, hS.F ht⟩) hS.2.2 dX0_hasMeaning_17

set_option maxHeartbeats 4000000 in
set_option maxRecDepth 100000 in
theorem s_X0_hasDistrict_40 (l : Launch) (D : va_G) (t : Nat → ClassId) (a : Nat → Nat) (v40_0 : Int32) (v40_1 : Int32) (v40_2 : Int32) (v40_3 : Int32) (v40_4 : Int32) (v40_5 : Int32) (v40_6 : Int32) (v40_7 : Int32) (p0 : Int32) (r40_1 : rg 0 8 v40_1) (r40_5 : rg 0 4 v40_5) (r40_6 : rg 0 9 v40_6) (r40_7 : rg 0 9 v40_7) : Met l yX0_hasDistrict (wd yX0_hasDistrict cX0_hasDistrict 2 (some .boolean)) (RM 0 0 0) (PreP D (TY t) [.ref (a 40), .int p0] [(a 40, .inr (0, [.int v40_0, .int v40_1, .int v40_2, .int v40_3, .int v40_4, .int v40_5, .int v40_6, .int v40_7, .ref (a 41), .ref (a 42), .ref (a 43), .ref (a 44), .ref (a 45), .ref (a 46), .ref (a 47), .ref (a 48), .ref (a 49), .ref (a 50), .ref (a 54)]))]) (QP (fun r => rg 0 1 r ∧ (r = 0 ∨ (rg 0 3 p0)))) 0 0 NoF := by
  refine Met.ofW (cc := cX0_hasDistrict) (maxL := 2) (ret := (some .boolean)) (by decide) rfl ?_
  intro p e s m args below meth c s₁ B hml hv
  obtain ⟨rfl, hP, hK, hN⟩ := hv
  have hx := B.exec
  have hb := B.bytes
  have hr := B.returns
  have hts : ∀ w ∈ TB, w.before _ s = true := fun w h => atoms_spec (ws := wd yX0_hasDistrict cX0_hasDistrict 2 (some .boolean)) B.pre w (List.mem_cons_of_mem _ h)
  have hown : s.vm.findClass RX0 = some m.cls := findClass_of_methodNamed B.named
  have hlocks := B.notSynchronized
  have hF : CallFix p m c cX0_hasDistrict 2 s _ TB RX0 := ⟨hx, hb, hml, hown, hts⟩
  have hl := lv_entry ([.ref (a 40), .int p0]) (n := 2) (Nat.le_of_ble_eq_true rfl)
  rw [lg_entry_eq]
  generalize (lg_sl ([.ref (a 40), .int p0]) ++ List.replicate (2 - (lg_sl ([.ref (a 40), .int p0])).length) Slot.unset).toArray = ls at hl ⊢
  have hl : lv_has ls 2 [(0, .ref (a 40)), (1, .int p0)] := hl
  have hS : va_S NoF s.heap s.heap [] := va_S.rf
  have hP : va_P D classes [(a 40, .inr (0, [.int v40_0, .int v40_1, .int v40_2, .int v40_3, .int v40_4, .int v40_5, .int v40_6, .int v40_7, .ref (a 41), .ref (a 42), .ref (a 43), .ref (a 44), .ref (a 45), .ref (a 46), .ref (a 47), .ref (a 48), .ref (a 49), .ref (a 50), .ref (a 54)]))] s.heap := hP
  refine lv_iload_n hx hb dX0_hasDistrict_0 rfl (lv_at hl 1 rfl) ?_
  refine lv_if_lt (tgt := 16) hx hb dX0_hasDistrict_1 (by decide) (fun c_1 => ?_) (fun c_1 => ?_)
  · skip
    have h_2 : rg (-2147483648) (-1) p0 := ⟨((rg_any p0)).1, Int.le_trans (c_lt c_1 (rg_c (x := 0) (k := 0) (by decide))) (by decide)⟩
    refine lv_iconst (v := 0) hx hb dX0_hasDistrict_16 (by decide) ?_
    exact W.zret (v := 0) hx hb hr rfl (fun t9 ht hW => ⟨⟨0, (), rfl, ⟨⟨by decide, by decide⟩, Or.inl rfl⟩, trivial⟩, hS.F ht⟩) hS.2.2 dX0_hasDistrict_17
  · skip
    have h_3 : rg 0 2147483647 p0 := ⟨Int.le_trans (by decide) (c_nlt c_1 (rg_c (x := 0) (k := 0) (by decide))), ((rg_any p0)).2⟩
    refine lv_iload_n hx hb dX0_hasDistrict_4 rfl (lv_at hl 1 rfl) ?_
    refine lv_aload_n hx hb dX0_hasDistrict_5 rfl (lv_at hl 0 rfl) ?_
    refine va_get (D := D) (ci := 0) (v := .int v40_5) (C := RX0) (T := TX0) (N := 19) hx hb hts iX0 hown hK hP 0 rfl rfl 5 (by decide) (hts _ m_135) (fun _ h9 => h9) rfl dX0_hasDistrict_6 ?_
    refine lv_icmp_ge (tgt := 16) hx hb dX0_hasDistrict_9 (by decide) (fun c_4 => ?_) (fun c_4 => ?_)
    · skip
      refine lv_iconst (v := 0) hx hb dX0_hasDistrict_16 (by decide) ?_
      exact W.zret (v := 0) hx hb hr rfl (fun t9 ht hW => ⟨⟨0, (), rfl, ⟨⟨by decide, by decide⟩, Or.inl rfl⟩, trivial⟩, hS.F ht⟩) hS.2.2 dX0_hasDistrict_17
    · skip
      have h_5 : rg 0 3 p0 := ⟨(h_3).1, Int.le_trans (c_nleR c_4 r40_5) (by decide)⟩
      have h_6 : rg 1 4 v40_5 := ⟨Int.le_trans (by decide) (c_nle c_4 h_3), (r40_5).2⟩
      refine lv_iconst (v := 1) hx hb dX0_hasDistrict_12 (by decide) ?_
      refine lv_goto (tgt := 17) hx hb dX0_hasDistrict_13 (by decide) ?_
      exact W.zret (v := 1) hx hb hr rfl (fun t9 ht hW => ⟨⟨1, (), rfl, ⟨⟨by decide, by decide⟩, Or.inr h_5⟩, trivial⟩, hS.F ht⟩) hS.2.2 dX0_hasDistrict_17

set_option maxHeartbeats 4000000 in
set_option maxRecDepth 100000 in
theorem s_X0_hasWord_40 (l : Launch) (D : va_G) (t : Nat → ClassId) (a : Nat → Nat) (v40_0 : Int32) (v40_1 : Int32) (v40_2 : Int32) (v40_3 : Int32) (v40_4 : Int32) (v40_5 : Int32) (v40_6 : Int32) (v40_7 : Int32) (p0 : Int32) (r40_1 : rg 0 8 v40_1) (r40_5 : rg 0 4 v40_5) (r40_6 : rg 0 9 v40_6) (r40_7 : rg 0 9 v40_7) : Met l yX0_hasWord (wd yX0_hasWord cX0_hasWord 2 (some .boolean)) (RM 0 0 0) (PreP D (TY t) [.ref (a 40), .int p0] [(a 40, .inr (0, [.int v40_0, .int v40_1, .int v40_2, .int v40_3, .int v40_4, .int v40_5, .int v40_6, .int v40_7, .ref (a 41), .ref (a 42), .ref (a 43), .ref (a 44), .ref (a 45), .ref (a 46), .ref (a 47), .ref (a 48), .ref (a 49), .ref (a 50), .ref (a 54)]))]) (QP (fun r => rg 0 1 r ∧ (r = 0 ∨ (rg 0 8 p0)))) 0 0 NoF := by
  refine Met.ofW (cc := cX0_hasWord) (maxL := 2) (ret := (some .boolean)) (by decide) rfl ?_
  intro p e s m args below meth c s₁ B hml hv
  obtain ⟨rfl, hP, hK, hN⟩ := hv
  have hx := B.exec
  have hb := B.bytes
  have hr := B.returns
  have hts : ∀ w ∈ TB, w.before _ s = true := fun w h => atoms_spec (ws := wd yX0_hasWord cX0_hasWord 2 (some .boolean)) B.pre w (List.mem_cons_of_mem _ h)
  have hown : s.vm.findClass RX0 = some m.cls := findClass_of_methodNamed B.named
  have hlocks := B.notSynchronized
  have hF : CallFix p m c cX0_hasWord 2 s _ TB RX0 := ⟨hx, hb, hml, hown, hts⟩
  have hl := lv_entry ([.ref (a 40), .int p0]) (n := 2) (Nat.le_of_ble_eq_true rfl)
  rw [lg_entry_eq]
  generalize (lg_sl ([.ref (a 40), .int p0]) ++ List.replicate (2 - (lg_sl ([.ref (a 40), .int p0])).length) Slot.unset).toArray = ls at hl ⊢
  have hl : lv_has ls 2 [(0, .ref (a 40)), (1, .int p0)] := hl
  have hS : va_S NoF s.heap s.heap [] := va_S.rf
  have hP : va_P D classes [(a 40, .inr (0, [.int v40_0, .int v40_1, .int v40_2, .int v40_3, .int v40_4, .int v40_5, .int v40_6, .int v40_7, .ref (a 41), .ref (a 42), .ref (a 43), .ref (a 44), .ref (a 45), .ref (a 46), .ref (a 47), .ref (a 48), .ref (a 49), .ref (a 50), .ref (a 54)]))] s.heap := hP
  refine lv_iload_n hx hb dX0_hasWord_0 rfl (lv_at hl 1 rfl) ?_
  refine lv_if_lt (tgt := 16) hx hb dX0_hasWord_1 (by decide) (fun c_1 => ?_) (fun c_1 => ?_)
  · skip
    have h_2 : rg (-2147483648) (-1) p0 := ⟨((rg_any p0)).1, Int.le_trans (c_lt c_1 (rg_c (x := 0) (k := 0) (by decide))) (by decide)⟩
    refine lv_iconst (v := 0) hx hb dX0_hasWord_16 (by decide) ?_
    exact W.zret (v := 0) hx hb hr rfl (fun t9 ht hW => ⟨⟨0, (), rfl, ⟨⟨by decide, by decide⟩, Or.inl rfl⟩, trivial⟩, hS.F ht⟩) hS.2.2 dX0_hasWord_17
  · skip
    have h_3 : rg 0 2147483647 p0 := ⟨Int.le_trans (by decide) (c_nlt c_1 (rg_c (x := 0) (k := 0) (by decide))), ((rg_any p0)).2⟩
    refine lv_iload_n hx hb dX0_hasWord_4 rfl (lv_at hl 1 rfl) ?_
    refine lv_aload_n hx hb dX0_hasWord_5 rfl (lv_at hl 0 rfl) ?_
    refine va_get (D := D) (ci := 0) (v := .int v40_6) (C := RX0) (T := TX0) (N := 19) hx hb hts iX0 hown hK hP 0 rfl rfl 6 (by decide) (hts _ m_142) (fun _ h9 => h9) rfl dX0_hasWord_6 ?_
    refine lv_icmp_ge (tgt := 16) hx hb dX0_hasWord_9 (by decide) (fun c_4 => ?_) (fun c_4 => ?_)
    · skip
      refine lv_iconst (v := 0) hx hb dX0_hasWord_16 (by decide) ?_
      exact W.zret (v := 0) hx hb hr rfl (fun t9 ht hW => ⟨⟨0, (), rfl, ⟨⟨by decide, by decide⟩, Or.inl rfl⟩, trivial⟩, hS.F ht⟩) hS.2.2 dX0_hasWord_17
    · skip
      have h_5 : rg 0 8 p0 := ⟨(h_3).1, Int.le_trans (c_nleR c_4 r40_6) (by decide)⟩
      have h_6 : rg 1 9 v40_6 := ⟨Int.le_trans (by decide) (c_nle c_4 h_3), (r40_6).2⟩
      refine lv_iconst (v := 1) hx hb dX0_hasWord_12 (by decide) ?_
      refine lv_goto (tgt := 17) hx hb dX0_hasWord_13 (by decide) ?_
      exact W.zret (v := 1) hx hb hr rfl (fun t9 ht hW => ⟨⟨1, (), rfl, ⟨⟨by decide, by decide⟩, Or.inr h_5⟩, trivial⟩, hS.F ht⟩) hS.2.2 dX0_hasWord_17

set_option maxHeartbeats 4000000 in
set_option maxRecDepth 100000 in
theorem s_X0_hasSpeaker_40 (l : Launch) (D : va_G) (t : Nat → ClassId) (a : Nat → Nat) (v40_0 : Int32) (v40_1 : Int32) (v40_2 : Int32) (v40_3 : Int32) (v40_4 : Int32) (v40_5 : Int32) (v40_6 : Int32) (v40_7 : Int32) (p0 : Int32) (r40_1 : rg 0 8 v40_1) (r40_5 : rg 0 4 v40_5) (r40_6 : rg 0 9 v40_6) (r40_7 : rg 0 9 v40_7) : Met l yX0_hasSpeaker (wd yX0_hasSpeaker cX0_hasSpeaker 2 (some .boolean)) (RM 0 0 0) (PreP D (TY t) [.ref (a 40), .int p0] [(a 40, .inr (0, [.int v40_0, .int v40_1, .int v40_2, .int v40_3, .int v40_4, .int v40_5, .int v40_6, .int v40_7, .ref (a 41), .ref (a 42), .ref (a 43), .ref (a 44), .ref (a 45), .ref (a 46), .ref (a 47), .ref (a 48), .ref (a 49), .ref (a 50), .ref (a 54)]))]) (QP (fun r => rg 0 1 r ∧ (r = 0 ∨ (rg 0 8 p0)))) 0 0 NoF := by
  refine Met.ofW (cc := cX0_hasSpeaker) (maxL := 2) (ret := (some .boolean)) (by decide) rfl ?_
  intro p e s m args below meth c s₁ B hml hv
  obtain ⟨rfl, hP, hK, hN⟩ := hv
  have hx := B.exec
  have hb := B.bytes
  have hr := B.returns
  have hts : ∀ w ∈ TB, w.before _ s = true := fun w h => atoms_spec (ws := wd yX0_hasSpeaker cX0_hasSpeaker 2 (some .boolean)) B.pre w (List.mem_cons_of_mem _ h)
  have hown : s.vm.findClass RX0 = some m.cls := findClass_of_methodNamed B.named
  have hlocks := B.notSynchronized
  have hF : CallFix p m c cX0_hasSpeaker 2 s _ TB RX0 := ⟨hx, hb, hml, hown, hts⟩
  have hl := lv_entry ([.ref (a 40), .int p0]) (n := 2) (Nat.le_of_ble_eq_true rfl)
  rw [lg_entry_eq]
  generalize (lg_sl ([.ref (a 40), .int p0]) ++ List.replicate (2 - (lg_sl ([.ref (a 40), .int p0])).length) Slot.unset).toArray = ls at hl ⊢
  have hl : lv_has ls 2 [(0, .ref (a 40)), (1, .int p0)] := hl
  have hS : va_S NoF s.heap s.heap [] := va_S.rf
  have hP : va_P D classes [(a 40, .inr (0, [.int v40_0, .int v40_1, .int v40_2, .int v40_3, .int v40_4, .int v40_5, .int v40_6, .int v40_7, .ref (a 41), .ref (a 42), .ref (a 43), .ref (a 44), .ref (a 45), .ref (a 46), .ref (a 47), .ref (a 48), .ref (a 49), .ref (a 50), .ref (a 54)]))] s.heap := hP
  refine lv_iload_n hx hb dX0_hasSpeaker_0 rfl (lv_at hl 1 rfl) ?_
  refine lv_if_lt (tgt := 16) hx hb dX0_hasSpeaker_1 (by decide) (fun c_1 => ?_) (fun c_1 => ?_)
  · skip
    have h_2 : rg (-2147483648) (-1) p0 := ⟨((rg_any p0)).1, Int.le_trans (c_lt c_1 (rg_c (x := 0) (k := 0) (by decide))) (by decide)⟩
    refine lv_iconst (v := 0) hx hb dX0_hasSpeaker_16 (by decide) ?_
    exact W.zret (v := 0) hx hb hr rfl (fun t9 ht hW => ⟨⟨0, (), rfl, ⟨⟨by decide, by decide⟩, Or.inl rfl⟩, trivial⟩, hS.F ht⟩) hS.2.2 dX0_hasSpeaker_17
  · skip
    have h_3 : rg 0 2147483647 p0 := ⟨Int.le_trans (by decide) (c_nlt c_1 (rg_c (x := 0) (k := 0) (by decide))), ((rg_any p0)).2⟩
    refine lv_iload_n hx hb dX0_hasSpeaker_4 rfl (lv_at hl 1 rfl) ?_
    refine lv_aload_n hx hb dX0_hasSpeaker_5 rfl (lv_at hl 0 rfl) ?_
    refine va_get (D := D) (ci := 0) (v := .int v40_7) (C := RX0) (T := TX0) (N := 19) hx hb hts iX0 hown hK hP 0 rfl rfl 7 (by decide) (hts _ m_149) (fun _ h9 => h9) rfl dX0_hasSpeaker_6 ?_
    refine lv_icmp_ge (tgt := 16) hx hb dX0_hasSpeaker_9 (by decide) (fun c_4 => ?_) (fun c_4 => ?_)
    · skip
      refine lv_iconst (v := 0) hx hb dX0_hasSpeaker_16 (by decide) ?_
      exact W.zret (v := 0) hx hb hr rfl (fun t9 ht hW => ⟨⟨0, (), rfl, ⟨⟨by decide, by decide⟩, Or.inl rfl⟩, trivial⟩, hS.F ht⟩) hS.2.2 dX0_hasSpeaker_17
    · skip
      have h_5 : rg 0 8 p0 := ⟨(h_3).1, Int.le_trans (c_nleR c_4 r40_7) (by decide)⟩
      have h_6 : rg 1 9 v40_7 := ⟨Int.le_trans (by decide) (c_nle c_4 h_3), (r40_7).2⟩
      refine lv_iconst (v := 1) hx hb dX0_hasSpeaker_12 (by decide) ?_
      refine lv_goto (tgt := 17) hx hb dX0_hasSpeaker_13 (by decide) ?_
      exact W.zret (v := 1) hx hb hr rfl (fun t9 ht hW => ⟨⟨1, (), rfl, ⟨⟨by decide, by decide⟩, Or.inr h_5⟩, trivial⟩, hS.F ht⟩) hS.2.2 dX0_hasSpeaker_17

set_option maxHeartbeats 4000000 in
set_option maxRecDepth 100000 in
theorem s_X0_isNone_40 (l : Launch) (D : va_G) (t : Nat → ClassId) (a : Nat → Nat) (v40_0 : Int32) (v40_1 : Int32) (v40_2 : Int32) (v40_3 : Int32) (v40_4 : Int32) (v40_5 : Int32) (v40_6 : Int32) (v40_7 : Int32) (r40_1 : rg 0 8 v40_1) (r40_5 : rg 0 4 v40_5) (r40_6 : rg 0 9 v40_6) (r40_7 : rg 0 9 v40_7) : Met l yX0_isNone (wd yX0_isNone cX0_isNone 1 (some .boolean)) (RM 0 0 0) (PreP D (TY t) [.ref (a 40)] [(a 40, .inr (0, [.int v40_0, .int v40_1, .int v40_2, .int v40_3, .int v40_4, .int v40_5, .int v40_6, .int v40_7, .ref (a 41), .ref (a 42), .ref (a 43), .ref (a 44), .ref (a 45), .ref (a 46), .ref (a 47), .ref (a 48), .ref (a 49), .ref (a 50), .ref (a 54)]))]) (QP (fun r => rg 0 1 r)) 0 0 NoF := by
  refine Met.ofW (cc := cX0_isNone) (maxL := 1) (ret := (some .boolean)) (by decide) rfl ?_
  intro p e s m args below meth c s₁ B hml hv
  obtain ⟨rfl, hP, hK, hN⟩ := hv
  have hx := B.exec
  have hb := B.bytes
  have hr := B.returns
  have hts : ∀ w ∈ TB, w.before _ s = true := fun w h => atoms_spec (ws := wd yX0_isNone cX0_isNone 1 (some .boolean)) B.pre w (List.mem_cons_of_mem _ h)
  have hown : s.vm.findClass RX0 = some m.cls := findClass_of_methodNamed B.named
  have hlocks := B.notSynchronized
  have hF : CallFix p m c cX0_isNone 1 s _ TB RX0 := ⟨hx, hb, hml, hown, hts⟩
  have hl := lv_entry ([.ref (a 40)]) (n := 1) (Nat.le_of_ble_eq_true rfl)
  rw [lg_entry_eq]
  generalize (lg_sl ([.ref (a 40)]) ++ List.replicate (1 - (lg_sl ([.ref (a 40)])).length) Slot.unset).toArray = ls at hl ⊢
  have hl : lv_has ls 1 [(0, .ref (a 40))] := hl
  have hS : va_S NoF s.heap s.heap [] := va_S.rf
  have hP : va_P D classes [(a 40, .inr (0, [.int v40_0, .int v40_1, .int v40_2, .int v40_3, .int v40_4, .int v40_5, .int v40_6, .int v40_7, .ref (a 41), .ref (a 42), .ref (a 43), .ref (a 44), .ref (a 45), .ref (a 46), .ref (a 47), .ref (a 48), .ref (a 49), .ref (a 50), .ref (a 54)]))] s.heap := hP
  refine lv_aload_n hx hb dX0_isNone_0 rfl (lv_at hl 0 rfl) ?_
  refine va_get (D := D) (ci := 0) (v := .int v40_0) (C := RX0) (T := TX0) (N := 19) hx hb hts iX0 hown hK hP 0 rfl rfl 0 (by decide) (hts _ m_117) (fun _ h9 => h9) rfl dX0_isNone_1 ?_
  refine lv_if_ne (tgt := 11) hx hb dX0_isNone_4 (by decide) (fun c_1 => ?_) (fun c_1 => ?_)
  · skip
    refine lv_iconst (v := 0) hx hb dX0_isNone_11 (by decide) ?_
    exact W.zret (v := 0) hx hb hr rfl (fun t9 ht hW => ⟨⟨0, (), rfl, (rg_w (c := 0) (d := 1) (rg_c (x := 0) (k := 0) (by decide)) (by decide) (by decide)), trivial⟩, hS.F ht⟩) hS.2.2 dX0_isNone_12
  · skip
    have h_2 : rg 0 0 v40_0 := rg_eq c_1 (rg_c (x := 0) (k := 0) (by decide))
    refine lv_iconst (v := 1) hx hb dX0_isNone_7 (by decide) ?_
    refine lv_goto (tgt := 12) hx hb dX0_isNone_8 (by decide) ?_
    exact W.zret (v := 1) hx hb hr rfl (fun t9 ht hW => ⟨⟨1, (), rfl, (rg_w (c := 0) (d := 1) (rg_c (x := 1) (k := 1) (by decide)) (by decide) (by decide)), trivial⟩, hS.F ht⟩) hS.2.2 dX0_isNone_12

set_option maxHeartbeats 4000000 in
set_option maxRecDepth 100000 in
theorem s_X0_wordsIn_40 (l : Launch) (D : va_G) (t : Nat → ClassId) (a : Nat → Nat) (v40_0 : Int32) (v40_1 : Int32) (v40_2 : Int32) (v40_3 : Int32) (v40_4 : Int32) (v40_5 : Int32) (v40_6 : Int32) (v40_7 : Int32) (f43 : Nat → Int32) (p0 : Int32) (r40_1 : rg 0 8 v40_1) (r40_5 : rg 0 4 v40_5) (r40_6 : rg 0 9 v40_6) (r40_7 : rg 0 9 v40_7) (q43 : ∀ j, j < 9 → rg 0 3 (f43 j)) : Met l yX0_wordsIn (wd yX0_wordsIn cX0_wordsIn 4 (some .int)) (RM 0 0 0) (PreP D (TY t) [.ref (a 40), .int p0] [(a 40, .inr (0, [.int v40_0, .int v40_1, .int v40_2, .int v40_3, .int v40_4, .int v40_5, .int v40_6, .int v40_7, .ref (a 41), .ref (a 42), .ref (a 43), .ref (a 44), .ref (a 45), .ref (a 46), .ref (a 47), .ref (a 48), .ref (a 49), .ref (a 50), .ref (a 54)])), (a 43, .inl (t 0, 9, .inl f43))]) (QP (fun r => rg 0 511 r)) 0 0 NoF := by
  refine Met.ofW (cc := cX0_wordsIn) (maxL := 4) (ret := (some .int)) (by decide) rfl ?_
  intro p e s m args below meth c s₁ B hml hv
  obtain ⟨rfl, hP, hK, hN⟩ := hv
  have hx := B.exec
  have hb := B.bytes
  have hr := B.returns
  have hts : ∀ w ∈ TB, w.before _ s = true := fun w h => atoms_spec (ws := wd yX0_wordsIn cX0_wordsIn 4 (some .int)) B.pre w (List.mem_cons_of_mem _ h)
  have hown : s.vm.findClass RX0 = some m.cls := findClass_of_methodNamed B.named
  have hlocks := B.notSynchronized
  have hF : CallFix p m c cX0_wordsIn 4 s _ TB RX0 := ⟨hx, hb, hml, hown, hts⟩
  have hl := lv_entry ([.ref (a 40), .int p0]) (n := 4) (Nat.le_of_ble_eq_true rfl)
  rw [lg_entry_eq]
  generalize (lg_sl ([.ref (a 40), .int p0]) ++ List.replicate (4 - (lg_sl ([.ref (a 40), .int p0])).length) Slot.unset).toArray = ls at hl ⊢
  have hl : lv_has ls 4 [(0, .ref (a 40)), (1, .int p0)] := hl
  have hS : va_S NoF s.heap s.heap [] := va_S.rf
  have hP : va_P D classes [(a 40, .inr (0, [.int v40_0, .int v40_1, .int v40_2, .int v40_3, .int v40_4, .int v40_5, .int v40_6, .int v40_7, .ref (a 41), .ref (a 42), .ref (a 43), .ref (a 44), .ref (a 45), .ref (a 46), .ref (a 47), .ref (a 48), .ref (a 49), .ref (a 50), .ref (a 54)])), (a 43, .inl (t 0, 9, .inl f43))] s.heap := hP
  refine lv_iconst (v := 0) hx hb dX0_wordsIn_0 (by decide) ?_
  refine lv_istore_n (lv' := [(2, .int 0), (0, .ref (a 40)), (1, .int p0)]) hx hb dX0_wordsIn_1 rfl hl (by decide) rfl (fun ls hl => ?_)
  refine lv_iconst (v := 0) hx hb dX0_wordsIn_2 (by decide) ?_
  refine lv_istore_n (lv' := [(3, .int 0), (2, .int 0), (0, .ref (a 40)), (1, .int p0)]) hx hb dX0_wordsIn_3 rfl hl (by decide) rfl (fun ls hl => ?_)
  refine loopW (α := US) (fun n y_1 H locs ls => 9 < (y_1.1 0).toInt + (n : Int) ∧ rg 0 9 (y_1.1 0) ∧ rg 0 511 (y_1.1 1) ∧ va_P D classes [(a 40, .inr (0, [.int v40_0, .int v40_1, .int v40_2, .int v40_3, .int v40_4, .int v40_5, .int v40_6, .int v40_7, .ref (a 41), .ref (a 42), .ref (a 43), .ref (a 44), .ref (a 45), .ref (a 46), .ref (a 47), .ref (a 48), .ref (a 49), .ref (a 50), .ref (a 54)])), (a 43, .inl (t 0, 9, .inl f43))] H ∧ va_S NoF s.heap H locs ∧ lv_has ls 4 [(3, .int (y_1.1 0)), (2, .int (y_1.1 1)), (0, .ref (a 40)), (1, .int p0)]) 4 (fun y_1 => []) (fun _ _ _ _ h9 => m_0 h9.1 h9.2.1) (fun n ih_4 y_1 H locs ls hI => ?_) 10 (fun k => [0, 0].getD k 0, fun k => [].getD k (fun _ => 0), fun k => [].getD k (fun _ => 0), fun k => [].getD k 0) ⟨(m_i (rg_c (x := 0) (k := 0) (by decide)) (by decide)), (rg_w (c := 0) (d := 9) (rg_c (x := 0) (k := 0) (by decide)) (by decide) (by decide)), (rg_w (c := 0) (d := 511) (rg_c (x := 0) (k := 0) (by decide)) (by decide) (by decide)), hP, hS, (lv_sub hl [0, 1, 2, 3] rfl)⟩
  obtain ⟨me_5, h_2, h_3, hP, hS, hl⟩ := hI
  refine lv_iload_n hx hb dX0_wordsIn_4 rfl (lv_at hl 0 rfl) ?_
  refine lv_aload_n hx hb dX0_wordsIn_5 rfl (lv_at hl 2 rfl) ?_
  refine va_get (D := D) (ci := 0) (v := .int v40_6) (C := RX0) (T := TX0) (N := 19) hx hb hts iX0 hown hK hP 0 rfl rfl 6 (by decide) (hts _ m_142) (fun _ h9 => h9) rfl dX0_wordsIn_6 ?_
  refine lv_icmp_ge (tgt := 34) hx hb dX0_wordsIn_9 (by decide) (fun c_6 => ?_) (fun c_6 => ?_)
  · skip
    refine lv_iload_n hx hb dX0_wordsIn_34 rfl (lv_at hl 1 rfl) ?_
    exact W.iret (v := (y_1.1 1)) hx hb hr (fun t9 ht hW => ⟨⟨(y_1.1 1), (), rfl, h_3, trivial⟩, hS.F ht⟩) hS.2.2 dX0_wordsIn_35
  · skip
    have h_7 : rg 0 8 (y_1.1 0) := ⟨(h_2).1, Int.le_trans (c_nleR c_6 r40_6) (by decide)⟩
    have h_8 : rg 1 9 v40_6 := ⟨Int.le_trans (by decide) (c_nle c_6 h_2), (r40_6).2⟩
    refine lv_aload_n hx hb dX0_wordsIn_12 rfl (lv_at hl 2 rfl) ?_
    refine va_get (D := D) (ci := 0) (v := .ref (a 43)) (C := RX0) (T := TX0) (N := 19) hx hb hts iX0 hown hK hP 0 rfl rfl 10 (by decide) (hts _ m_160) (fun _ h9 => h9) rfl dX0_wordsIn_13 ?_
    refine lv_iload_n hx hb dX0_wordsIn_16 rfl (lv_at hl 0 rfl) ?_
    refine va_iald hx hb hK hP 1 0 rfl rfl (in_rg h_7 (by decide) (by decide)) dX0_wordsIn_17 ?_
    refine lv_topi (fun x_9 ex_9 => ?_)
    have hx_9 : rg 0 3 x_9 := by rw [ex_9]; exact q43 _ (cl_rg h_7 (by decide) (by decide))
    refine lv_iload_n hx hb dX0_wordsIn_18 rfl (lv_at hl 3 rfl) ?_
    refine lv_icmp_ne (tgt := 28) hx hb dX0_wordsIn_19 (by decide) (fun c_10 => ?_) (fun c_10 => ?_)
    · skip
      obtain ⟨x_11, ex_11⟩ : ∃ y9 : Int32, y9 = (y_1.1 0) + 1 := ⟨_, rfl⟩
      have hx_11 : rg 1 9 x_11 := by rw [ex_11]; exact rg_add h_7 (rg_c (x := 1) (k := 1) (by decide)) (by decide) (by decide) (by decide) (by decide)
      have tx_11 : x_11.toInt = (y_1.1 0).toInt + 1 := by rw [ex_11]; exact inc_tk h_7 (by decide) (by decide) (by decide)
      refine lv_iinc (v := x_11) (lv' := [(3, .int x_11), (2, .int (y_1.1 1)), (0, .ref (a 40)), (1, .int p0)]) hx hb dX0_wordsIn_28 hl (k := 0) rfl (by rw [ex_11]; rfl) (by decide) rfl (fun ls hl => ?_)
      refine lv_goto (tgt := 4) hx hb dX0_wordsIn_31 (by decide) ?_
      exact ih_4 (fun k => [x_11, (y_1.1 1)].getD k 0, fun k => [].getD k (fun _ => 0), fun k => [].getD k (fun _ => 0), fun k => [].getD k 0) _ _ ls ⟨(m_upk me_5 tx_11 (by decide)), (rg_w (c := 0) (d := 9) hx_11 (by decide) (by decide)), h_3, hP, hS, (lv_sub hl [0, 1, 2, 3] rfl)⟩
    · skip
      refine lv_iload_n hx hb dX0_wordsIn_22 rfl (lv_at hl 1 rfl) ?_
      refine lv_iconst (v := 1) hx hb dX0_wordsIn_23 (by decide) ?_
      refine lv_iload_n hx hb dX0_wordsIn_24 rfl (lv_at hl 0 rfl) ?_
      refine lv_ishl hx hb dX0_wordsIn_25 ?_
      refine lv_topi (fun x_12 ex_12 => ?_)
      have hx_12 : rg 1 256 x_12 := by rw [ex_12]; exact rg_shl1 (b := 8) h_7 (by decide) (by decide)
      refine lv_ior hx hb dX0_wordsIn_26 ?_
      refine lv_topi (fun x_13 ex_13 => ?_)
      have hx_13 : rg 0 511 x_13 := by rw [ex_13]; exact rg_or (m := 9) h_3 (rg_w (c := 0) (d := 511) hx_12 (by decide) (by decide)) (by decide) (by decide)
      refine lv_istore_n (lv' := [(2, .int x_13), (3, .int (y_1.1 0)), (0, .ref (a 40)), (1, .int p0)]) hx hb dX0_wordsIn_27 rfl hl (by decide) rfl (fun ls hl => ?_)
      obtain ⟨x_14, ex_14⟩ : ∃ y9 : Int32, y9 = (y_1.1 0) + 1 := ⟨_, rfl⟩
      have hx_14 : rg 1 9 x_14 := by rw [ex_14]; exact rg_add h_7 (rg_c (x := 1) (k := 1) (by decide)) (by decide) (by decide) (by decide) (by decide)
      have tx_14 : x_14.toInt = (y_1.1 0).toInt + 1 := by rw [ex_14]; exact inc_tk h_7 (by decide) (by decide) (by decide)
      refine lv_iinc (v := x_14) (lv' := [(3, .int x_14), (2, .int x_13), (0, .ref (a 40)), (1, .int p0)]) hx hb dX0_wordsIn_28 hl (k := 1) rfl (by rw [ex_14]; rfl) (by decide) rfl (fun ls hl => ?_)
      refine lv_goto (tgt := 4) hx hb dX0_wordsIn_31 (by decide) ?_
      exact ih_4 (fun k => [x_14, x_13].getD k 0, fun k => [].getD k (fun _ => 0), fun k => [].getD k (fun _ => 0), fun k => [].getD k 0) _ _ ls ⟨(m_upk me_5 tx_14 (by decide)), (rg_w (c := 0) (d := 9) hx_14 (by decide) (by decide)), hx_13, hP, hS, (lv_sub hl [0, 1, 2, 3] rfl)⟩

set_option maxHeartbeats 4000000 in
set_option maxRecDepth 100000 in
theorem s_X0_standingIn_40 (l : Launch) (D : va_G) (t : Nat → ClassId) (a : Nat → Nat) (v40_0 : Int32) (v40_1 : Int32) (v40_2 : Int32) (v40_3 : Int32) (v40_4 : Int32) (v40_5 : Int32) (v40_6 : Int32) (v40_7 : Int32) (f43 : Nat → Int32) (v54_0 : Int32) (v54_1 : Int32) (v54_2 : Int32) (p0 : Int32) (r40_1 : rg 0 8 v40_1) (r40_5 : rg 0 4 v40_5) (r40_6 : rg 0 9 v40_6) (r40_7 : rg 0 9 v40_7) (q43 : ∀ j, j < 9 → rg 0 3 (f43 j)) (r54_0 : rg 0 60 v54_0) : Met l yX0_standingIn (wd yX0_standingIn cX0_standingIn 2 (some .int)) (RM 1 0 0) (PreP D (TY t) [.ref (a 40), .int p0] [(a 40, .inr (0, [.int v40_0, .int v40_1, .int v40_2, .int v40_3, .int v40_4, .int v40_5, .int v40_6, .int v40_7, .ref (a 41), .ref (a 42), .ref (a 43), .ref (a 44), .ref (a 45), .ref (a 46), .ref (a 47), .ref (a 48), .ref (a 49), .ref (a 50), .ref (a 54)])), (a 43, .inl (t 0, 9, .inl f43)), (a 54, .inr (9, [.int v54_0, .int v54_1, .int v54_2, .ref (a 55), .ref (a 56), .ref (a 57), .ref (a 58)]))]) (QP (fun r => rg 0 511 r)) 0 0 NoF := by
  refine Met.ofW (cc := cX0_standingIn) (maxL := 2) (ret := (some .int)) (by decide) rfl ?_
  intro p e s m args below meth c s₁ B hml hv
  obtain ⟨rfl, hP, hK, hN⟩ := hv
  have hx := B.exec
  have hb := B.bytes
  have hr := B.returns
  have hts : ∀ w ∈ TB, w.before _ s = true := fun w h => atoms_spec (ws := wd yX0_standingIn cX0_standingIn 2 (some .int)) B.pre w (List.mem_cons_of_mem _ h)
  have hown : s.vm.findClass RX0 = some m.cls := findClass_of_methodNamed B.named
  have hlocks := B.notSynchronized
  have hF : CallFix p m c cX0_standingIn 2 s _ TB RX0 := ⟨hx, hb, hml, hown, hts⟩
  have hl := lv_entry ([.ref (a 40), .int p0]) (n := 2) (Nat.le_of_ble_eq_true rfl)
  rw [lg_entry_eq]
  generalize (lg_sl ([.ref (a 40), .int p0]) ++ List.replicate (2 - (lg_sl ([.ref (a 40), .int p0])).length) Slot.unset).toArray = ls at hl ⊢
  have hl : lv_has ls 2 [(0, .ref (a 40)), (1, .int p0)] := hl
  have hS : va_S NoF s.heap s.heap [] := va_S.rf
  have hP : va_P D classes [(a 40, .inr (0, [.int v40_0, .int v40_1, .int v40_2, .int v40_3, .int v40_4, .int v40_5, .int v40_6, .int v40_7, .ref (a 41), .ref (a 42), .ref (a 43), .ref (a 44), .ref (a 45), .ref (a 46), .ref (a 47), .ref (a 48), .ref (a 49), .ref (a 50), .ref (a 54)])), (a 43, .inl (t 0, 9, .inl f43)), (a 54, .inr (9, [.int v54_0, .int v54_1, .int v54_2, .ref (a 55), .ref (a 56), .ref (a 57), .ref (a 58)]))] s.heap := hP
  refine lv_aload_n hx hb dX0_standingIn_0 rfl (lv_at hl 0 rfl) ?_
  refine lv_iload_n hx hb dX0_standingIn_1 rfl (lv_at hl 1 rfl) ?_
  refine y_pV hF (s_X0_wordsIn_40 l D t a v40_0 v40_1 v40_2 v40_3 v40_4 v40_5 v40_6 v40_7 f43 p0 r40_1 r40_5 r40_6 r40_7 q43) m_729 m_730 m_731 m_3 m_732 hd_X0_wordsIn ⟨Nat.le_of_ble_eq_true rfl, Nat.le_of_ble_eq_true rfl⟩ hK hN hP hS [0, 1] rfl 0 (ci := 0) rfl rfl rfl hl.1 rfl (Nat.le_of_ble_eq_true rfl) dX0_standingIn_2 ⟨Nat.zero_le _, Nat.zero_le _⟩ (fun r_1 H locs hr_1 hP hS => ?_)
  refine lv_aload_n hx hb dX0_standingIn_5 rfl (lv_at hl 0 rfl) ?_
  refine va_get (D := D) (ci := 0) (v := .ref (a 54)) (C := RX0) (T := TX0) (N := 19) hx hb hts iX0 hown hK hP 0 rfl rfl 18 (by decide) (hts _ m_189) (fun _ h9 => h9) rfl dX0_standingIn_6 ?_
  refine va_getN (D := D) (ci := 9) (v := .int v54_2) (C := RX9) (T := TX9) (N := 7) (host := "WordSeats") hx hb hts iX9 hown hK hP 2 rfl rfl 2 (by decide) (va_Nw.use rfl (hN _ n_94)) (fun _ h9 => h9) rfl dX0_standingIn_9 ?_
  refine lv_iconst (v := (-1)) hx hb dX0_standingIn_12 (by decide) ?_
  refine lv_ixor hx hb dX0_standingIn_13 ?_
  refine lv_topi (fun x_2 ex_2 => ?_)
  refine lv_iand hx hb dX0_standingIn_14 ?_
  refine lv_topi (fun x_3 ex_3 => ?_)
  have hx_3 : rg 0 511 x_3 := by rw [ex_3]; exact rg_andL hr_1
  exact W.iret (v := x_3) hx hb hr (fun t9 ht hW => ⟨⟨x_3, (), rfl, hx_3, trivial⟩, hS.F ht⟩) hS.2.2 dX0_standingIn_15

set_option maxHeartbeats 4000000 in
set_option maxRecDepth 100000 in
theorem s_X0_speakersIn_40 (l : Launch) (D : va_G) (t : Nat → ClassId) (a : Nat → Nat) (v40_0 : Int32) (v40_1 : Int32) (v40_2 : Int32) (v40_3 : Int32) (v40_4 : Int32) (v40_5 : Int32) (v40_6 : Int32) (v40_7 : Int32) (f46 : Nat → Int32) (p0 : Int32) (r40_1 : rg 0 8 v40_1) (r40_5 : rg 0 4 v40_5) (r40_6 : rg 0 9 v40_6) (r40_7 : rg 0 9 v40_7) : Met l yX0_speakersIn (wd yX0_speakersIn cX0_speakersIn 4 (some .int)) (RM 0 0 0) (PreP D (TY t) [.ref (a 40), .int p0] [(a 40, .inr (0, [.int v40_0, .int v40_1, .int v40_2, .int v40_3, .int v40_4, .int v40_5, .int v40_6, .int v40_7, .ref (a 41), .ref (a 42), .ref (a 43), .ref (a 44), .ref (a 45), .ref (a 46), .ref (a 47), .ref (a 48), .ref (a 49), .ref (a 50), .ref (a 54)])), (a 46, .inl (t 0, 9, .inl f46))]) (QP (fun r => rg 0 511 r)) 0 0 NoF := by
  refine Met.ofW (cc := cX0_speakersIn) (maxL := 4) (ret := (some .int)) (by decide) rfl ?_
  intro p e s m args below meth c s₁ B hml hv
  obtain ⟨rfl, hP, hK, hN⟩ := hv
  have hx := B.exec
  have hb := B.bytes
  have hr := B.returns
  have hts : ∀ w ∈ TB, w.before _ s = true := fun w h => atoms_spec (ws := wd yX0_speakersIn cX0_speakersIn 4 (some .int)) B.pre w (List.mem_cons_of_mem _ h)
  have hown : s.vm.findClass RX0 = some m.cls := findClass_of_methodNamed B.named
  have hlocks := B.notSynchronized
  have hF : CallFix p m c cX0_speakersIn 4 s _ TB RX0 := ⟨hx, hb, hml, hown, hts⟩
  have hl := lv_entry ([.ref (a 40), .int p0]) (n := 4) (Nat.le_of_ble_eq_true rfl)
  rw [lg_entry_eq]
  generalize (lg_sl ([.ref (a 40), .int p0]) ++ List.replicate (4 - (lg_sl ([.ref (a 40), .int p0])).length) Slot.unset).toArray = ls at hl ⊢
  have hl : lv_has ls 4 [(0, .ref (a 40)), (1, .int p0)] := hl
  have hS : va_S NoF s.heap s.heap [] := va_S.rf
  have hP : va_P D classes [(a 40, .inr (0, [.int v40_0, .int v40_1, .int v40_2, .int v40_3, .int v40_4, .int v40_5, .int v40_6, .int v40_7, .ref (a 41), .ref (a 42), .ref (a 43), .ref (a 44), .ref (a 45), .ref (a 46), .ref (a 47), .ref (a 48), .ref (a 49), .ref (a 50), .ref (a 54)])), (a 46, .inl (t 0, 9, .inl f46))] s.heap := hP
  refine lv_iconst (v := 0) hx hb dX0_speakersIn_0 (by decide) ?_
  refine lv_istore_n (lv' := [(2, .int 0), (0, .ref (a 40)), (1, .int p0)]) hx hb dX0_speakersIn_1 rfl hl (by decide) rfl (fun ls hl => ?_)
  refine lv_iconst (v := 0) hx hb dX0_speakersIn_2 (by decide) ?_
  refine lv_istore_n (lv' := [(3, .int 0), (2, .int 0), (0, .ref (a 40)), (1, .int p0)]) hx hb dX0_speakersIn_3 rfl hl (by decide) rfl (fun ls hl => ?_)
  refine loopW (α := US) (fun n y_1 H locs ls => 9 < (y_1.1 0).toInt + (n : Int) ∧ rg 0 9 (y_1.1 0) ∧ rg 0 511 (y_1.1 1) ∧ va_P D classes [(a 40, .inr (0, [.int v40_0, .int v40_1, .int v40_2, .int v40_3, .int v40_4, .int v40_5, .int v40_6, .int v40_7, .ref (a 41), .ref (a 42), .ref (a 43), .ref (a 44), .ref (a 45), .ref (a 46), .ref (a 47), .ref (a 48), .ref (a 49), .ref (a 50), .ref (a 54)])), (a 46, .inl (t 0, 9, .inl f46))] H ∧ va_S NoF s.heap H locs ∧ lv_has ls 4 [(3, .int (y_1.1 0)), (2, .int (y_1.1 1)), (0, .ref (a 40)), (1, .int p0)]) 4 (fun y_1 => []) (fun _ _ _ _ h9 => m_0 h9.1 h9.2.1) (fun n ih_4 y_1 H locs ls hI => ?_) 10 (fun k => [0, 0].getD k 0, fun k => [].getD k (fun _ => 0), fun k => [].getD k (fun _ => 0), fun k => [].getD k 0) ⟨(m_i (rg_c (x := 0) (k := 0) (by decide)) (by decide)), (rg_w (c := 0) (d := 9) (rg_c (x := 0) (k := 0) (by decide)) (by decide) (by decide)), (rg_w (c := 0) (d := 511) (rg_c (x := 0) (k := 0) (by decide)) (by decide) (by decide)), hP, hS, (lv_sub hl [0, 1, 2, 3] rfl)⟩
  obtain ⟨me_5, h_2, h_3, hP, hS, hl⟩ := hI
  refine lv_iload_n hx hb dX0_speakersIn_4 rfl (lv_at hl 0 rfl) ?_
  refine lv_aload_n hx hb dX0_speakersIn_5 rfl (lv_at hl 2 rfl) ?_
  refine va_get (D := D) (ci := 0) (v := .int v40_7) (C := RX0) (T := TX0) (N := 19) hx hb hts iX0 hown hK hP 0 rfl rfl 7 (by decide) (hts _ m_149) (fun _ h9 => h9) rfl dX0_speakersIn_6 ?_
  refine lv_icmp_ge (tgt := 34) hx hb dX0_speakersIn_9 (by decide) (fun c_6 => ?_) (fun c_6 => ?_)
  · skip
    refine lv_iload_n hx hb dX0_speakersIn_34 rfl (lv_at hl 1 rfl) ?_
    exact W.iret (v := (y_1.1 1)) hx hb hr (fun t9 ht hW => ⟨⟨(y_1.1 1), (), rfl, h_3, trivial⟩, hS.F ht⟩) hS.2.2 dX0_speakersIn_35
  · skip
    have h_7 : rg 0 8 (y_1.1 0) := ⟨(h_2).1, Int.le_trans (c_nleR c_6 r40_7) (by decide)⟩
    have h_8 : rg 1 9 v40_7 := ⟨Int.le_trans (by decide) (c_nle c_6 h_2), (r40_7).2⟩
    refine lv_aload_n hx hb dX0_speakersIn_12 rfl (lv_at hl 2 rfl) ?_
    refine va_get (D := D) (ci := 0) (v := .ref (a 46)) (C := RX0) (T := TX0) (N := 19) hx hb hts iX0 hown hK hP 0 rfl rfl 13 (by decide) (hts _ m_172) (fun _ h9 => h9) rfl dX0_speakersIn_13 ?_
    refine lv_iload_n hx hb dX0_speakersIn_16 rfl (lv_at hl 0 rfl) ?_
    refine va_iald hx hb hK hP 1 0 rfl rfl (in_rg h_7 (by decide) (by decide)) dX0_speakersIn_17 ?_
    refine lv_topi (fun x_9 ex_9 => ?_)
    refine lv_iload_n hx hb dX0_speakersIn_18 rfl (lv_at hl 3 rfl) ?_
    refine lv_icmp_ne (tgt := 28) hx hb dX0_speakersIn_19 (by decide) (fun c_10 => ?_) (fun c_10 => ?_)
    · skip
      obtain ⟨x_11, ex_11⟩ : ∃ y9 : Int32, y9 = (y_1.1 0) + 1 := ⟨_, rfl⟩
      have hx_11 : rg 1 9 x_11 := by rw [ex_11]; exact rg_add h_7 (rg_c (x := 1) (k := 1) (by decide)) (by decide) (by decide) (by decide) (by decide)
      have tx_11 : x_11.toInt = (y_1.1 0).toInt + 1 := by rw [ex_11]; exact inc_tk h_7 (by decide) (by decide) (by decide)
      refine lv_iinc (v := x_11) (lv' := [(3, .int x_11), (2, .int (y_1.1 1)), (0, .ref (a 40)), (1, .int p0)]) hx hb dX0_speakersIn_28 hl (k := 0) rfl (by rw [ex_11]; rfl) (by decide) rfl (fun ls hl => ?_)
      refine lv_goto (tgt := 4) hx hb dX0_speakersIn_31 (by decide) ?_
      exact ih_4 (fun k => [x_11, (y_1.1 1)].getD k 0, fun k => [].getD k (fun _ => 0), fun k => [].getD k (fun _ => 0), fun k => [].getD k 0) _ _ ls ⟨(m_upk me_5 tx_11 (by decide)), (rg_w (c := 0) (d := 9) hx_11 (by decide) (by decide)), h_3, hP, hS, (lv_sub hl [0, 1, 2, 3] rfl)⟩
    · skip
      refine lv_iload_n hx hb dX0_speakersIn_22 rfl (lv_at hl 1 rfl) ?_
      refine lv_iconst (v := 1) hx hb dX0_speakersIn_23 (by decide) ?_
      refine lv_iload_n hx hb dX0_speakersIn_24 rfl (lv_at hl 0 rfl) ?_
      refine lv_ishl hx hb dX0_speakersIn_25 ?_
      refine lv_topi (fun x_12 ex_12 => ?_)
      have hx_12 : rg 1 256 x_12 := by rw [ex_12]; exact rg_shl1 (b := 8) h_7 (by decide) (by decide)
      refine lv_ior hx hb dX0_speakersIn_26 ?_
      refine lv_topi (fun x_13 ex_13 => ?_)
      have hx_13 : rg 0 511 x_13 := by rw [ex_13]; exact rg_or (m := 9) h_3 (rg_w (c := 0) (d := 511) hx_12 (by decide) (by decide)) (by decide) (by decide)
      refine lv_istore_n (lv' := [(2, .int x_13), (3, .int (y_1.1 0)), (0, .ref (a 40)), (1, .int p0)]) hx hb dX0_speakersIn_27 rfl hl (by decide) rfl (fun ls hl => ?_)
      obtain ⟨x_14, ex_14⟩ : ∃ y9 : Int32, y9 = (y_1.1 0) + 1 := ⟨_, rfl⟩
      have hx_14 : rg 1 9 x_14 := by rw [ex_14]; exact rg_add h_7 (rg_c (x := 1) (k := 1) (by decide)) (by decide) (by decide) (by decide) (by decide)
      have tx_14 : x_14.toInt = (y_1.1 0).toInt + 1 := by rw [ex_14]; exact inc_tk h_7 (by decide) (by decide) (by decide)
      refine lv_iinc (v := x_14) (lv' := [(3, .int x_14), (2, .int x_13), (0, .ref (a 40)), (1, .int p0)]) hx hb dX0_speakersIn_28 hl (k := 1) rfl (by rw [ex_14]; rfl) (by decide) rfl (fun ls hl => ?_)
      refine lv_goto (tgt := 4) hx hb dX0_speakersIn_31 (by decide) ?_
      exact ih_4 (fun k => [x_14, x_13].getD k 0, fun k => [].getD k (fun _ => 0), fun k => [].getD k (fun _ => 0), fun k => [].getD k 0) _ _ ls ⟨(m_upk me_5 tx_14 (by decide)), (rg_w (c := 0) (d := 9) hx_14 (by decide) (by decide)), hx_13, hP, hS, (lv_sub hl [0, 1, 2, 3] rfl)⟩

set_option maxHeartbeats 4000000 in
set_option maxRecDepth 100000 in
theorem s_X0_weightOf_40 (l : Launch) (D : va_G) (t : Nat → ClassId) (a : Nat → Nat) (v40_0 : Int32) (v40_1 : Int32) (v40_2 : Int32) (v40_3 : Int32) (v40_4 : Int32) (v40_5 : Int32) (v40_6 : Int32) (v40_7 : Int32) (f47 : Nat → Int32) (p0 : Int32) (r40_1 : rg 0 8 v40_1) (r40_5 : rg 0 4 v40_5) (r40_6 : rg 0 9 v40_6) (r40_7 : rg 0 9 v40_7) : Met l yX0_weightOf (wd yX0_weightOf cX0_weightOf 4 (some .int)) (RM 1 0 0) (PreP D (TY t) [.ref (a 40), .int p0] [(a 40, .inr (0, [.int v40_0, .int v40_1, .int v40_2, .int v40_3, .int v40_4, .int v40_5, .int v40_6, .int v40_7, .ref (a 41), .ref (a 42), .ref (a 43), .ref (a 44), .ref (a 45), .ref (a 46), .ref (a 47), .ref (a 48), .ref (a 49), .ref (a 50), .ref (a 54)])), (a 47, .inl (t 0, 9, .inl f47))]) (QP (fun _ => True)) 0 0 NoF := by
  refine Met.ofW (cc := cX0_weightOf) (maxL := 4) (ret := (some .int)) (by decide) rfl ?_
  intro p e s m args below meth c s₁ B hml hv
  obtain ⟨rfl, hP, hK, hN⟩ := hv
  have hx := B.exec
  have hb := B.bytes
  have hr := B.returns
  have hts : ∀ w ∈ TB, w.before _ s = true := fun w h => atoms_spec (ws := wd yX0_weightOf cX0_weightOf 4 (some .int)) B.pre w (List.mem_cons_of_mem _ h)
  have hown : s.vm.findClass RX0 = some m.cls := findClass_of_methodNamed B.named
  have hlocks := B.notSynchronized
  have hF : CallFix p m c cX0_weightOf 4 s _ TB RX0 := ⟨hx, hb, hml, hown, hts⟩
  have hl := lv_entry ([.ref (a 40), .int p0]) (n := 4) (Nat.le_of_ble_eq_true rfl)
  rw [lg_entry_eq]
  generalize (lg_sl ([.ref (a 40), .int p0]) ++ List.replicate (4 - (lg_sl ([.ref (a 40), .int p0])).length) Slot.unset).toArray = ls at hl ⊢
  have hl : lv_has ls 4 [(0, .ref (a 40)), (1, .int p0)] := hl
  have hS : va_S NoF s.heap s.heap [] := va_S.rf
  have hP : va_P D classes [(a 40, .inr (0, [.int v40_0, .int v40_1, .int v40_2, .int v40_3, .int v40_4, .int v40_5, .int v40_6, .int v40_7, .ref (a 41), .ref (a 42), .ref (a 43), .ref (a 44), .ref (a 45), .ref (a 46), .ref (a 47), .ref (a 48), .ref (a 49), .ref (a 50), .ref (a 54)])), (a 47, .inl (t 0, 9, .inl f47))] s.heap := hP
  refine lv_iconst (v := 0) hx hb dX0_weightOf_0 (by decide) ?_
  refine lv_istore_n (lv' := [(2, .int 0), (0, .ref (a 40)), (1, .int p0)]) hx hb dX0_weightOf_1 rfl hl (by decide) rfl (fun ls hl => ?_)
  refine lv_iconst (v := 0) hx hb dX0_weightOf_2 (by decide) ?_
  refine lv_istore_n (lv' := [(3, .int 0), (2, .int 0), (0, .ref (a 40)), (1, .int p0)]) hx hb dX0_weightOf_3 rfl hl (by decide) rfl (fun ls hl => ?_)
  refine loopW (α := US) (fun n y_1 H locs ls => 9 < (y_1.1 0).toInt + (n : Int) ∧ rg 0 9 (y_1.1 0) ∧ va_P D classes [(a 40, .inr (0, [.int v40_0, .int v40_1, .int v40_2, .int v40_3, .int v40_4, .int v40_5, .int v40_6, .int v40_7, .ref (a 41), .ref (a 42), .ref (a 43), .ref (a 44), .ref (a 45), .ref (a 46), .ref (a 47), .ref (a 48), .ref (a 49), .ref (a 50), .ref (a 54)])), (a 47, .inl (t 0, 9, .inl f47))] H ∧ va_S NoF s.heap H locs ∧ lv_has ls 4 [(3, .int (y_1.1 0)), (2, .int (y_1.1 1)), (0, .ref (a 40)), (1, .int p0)]) 4 (fun y_1 => []) (fun _ _ _ _ h9 => m_0 h9.1 h9.2.1) (fun n ih_3 y_1 H locs ls hI => ?_) 10 (fun k => [0, 0].getD k 0, fun k => [].getD k (fun _ => 0), fun k => [].getD k (fun _ => 0), fun k => [].getD k 0) ⟨(m_i (rg_c (x := 0) (k := 0) (by decide)) (by decide)), (rg_w (c := 0) (d := 9) (rg_c (x := 0) (k := 0) (by decide)) (by decide) (by decide)), hP, hS, (lv_sub hl [0, 1, 2, 3] rfl)⟩
  obtain ⟨me_4, h_2, hP, hS, hl⟩ := hI
  refine lv_iload_n hx hb dX0_weightOf_4 rfl (lv_at hl 0 rfl) ?_
  refine lv_aload_n hx hb dX0_weightOf_5 rfl (lv_at hl 2 rfl) ?_
  refine va_get (D := D) (ci := 0) (v := .int v40_7) (C := RX0) (T := TX0) (N := 19) hx hb hts iX0 hown hK hP 0 rfl rfl 7 (by decide) (hts _ m_149) (fun _ h9 => h9) rfl dX0_weightOf_6 ?_
  refine lv_icmp_ge (tgt := 35) hx hb dX0_weightOf_9 (by decide) (fun c_5 => ?_) (fun c_5 => ?_)
  · skip
    refine lv_iload_n hx hb dX0_weightOf_35 rfl (lv_at hl 1 rfl) ?_
    exact W.iret (v := (y_1.1 1)) hx hb hr (fun t9 ht hW => ⟨⟨(y_1.1 1), (), rfl, trivial, trivial⟩, hS.F ht⟩) hS.2.2 dX0_weightOf_36
  · skip
    have h_6 : rg 0 8 (y_1.1 0) := ⟨(h_2).1, Int.le_trans (c_nleR c_5 r40_7) (by decide)⟩
    have h_7 : rg 1 9 v40_7 := ⟨Int.le_trans (by decide) (c_nle c_5 h_2), (r40_7).2⟩
    refine lv_iload_n hx hb dX0_weightOf_12 rfl (lv_at hl 3 rfl) ?_
    refine lv_iload_n hx hb dX0_weightOf_13 rfl (lv_at hl 0 rfl) ?_
    refine y_pSN hF (s_X11_holds l D t a p0 (y_1.1 0)) n_741 m_707 m_1 m_708 hd_X11_holds ⟨Nat.le_of_ble_eq_true rfl, Nat.le_of_ble_eq_true rfl⟩ hK hN hP hS [] rfl hl.1 rfl (Nat.le_of_ble_eq_true rfl) dX0_weightOf_14 ⟨Nat.zero_le _, Nat.zero_le _⟩ (fun r_8 H locs hr_8 hP hS => ?_)
    refine lv_if_eq (tgt := 29) hx hb dX0_weightOf_17 (by decide) (fun c_9 => ?_) (fun c_9 => ?_)
    · skip
      have h_10 : rg 0 0 r_8 := rg_eq c_9 (rg_c (x := 0) (k := 0) (by decide))
      obtain ⟨x_11, ex_11⟩ : ∃ y9 : Int32, y9 = (y_1.1 0) + 1 := ⟨_, rfl⟩
      have hx_11 : rg 1 9 x_11 := by rw [ex_11]; exact rg_add h_6 (rg_c (x := 1) (k := 1) (by decide)) (by decide) (by decide) (by decide) (by decide)
      have tx_11 : x_11.toInt = (y_1.1 0).toInt + 1 := by rw [ex_11]; exact inc_tk h_6 (by decide) (by decide) (by decide)
      refine lv_iinc (v := x_11) (lv' := [(3, .int x_11), (2, .int (y_1.1 1)), (0, .ref (a 40)), (1, .int p0)]) hx hb dX0_weightOf_29 hl (k := 0) rfl (by rw [ex_11]; rfl) (by decide) rfl (fun ls hl => ?_)
      refine lv_goto (tgt := 4) hx hb dX0_weightOf_32 (by decide) ?_
      exact ih_3 (fun k => [x_11, (y_1.1 1)].getD k 0, fun k => [].getD k (fun _ => 0), fun k => [].getD k (fun _ => 0), fun k => [].getD k 0) _ _ ls ⟨(m_upk me_4 tx_11 (by decide)), (rg_w (c := 0) (d := 9) hx_11 (by decide) (by decide)), hP, hS, (lv_sub hl [0, 1, 2, 3] rfl)⟩
    · skip
      have h_12 : rg 1 1 r_8 := rg_w (rg_neL hr_8 c_9 (by decide)) (by decide) (by decide)
      refine lv_iload_n hx hb dX0_weightOf_20 rfl (lv_at hl 1 rfl) ?_
      refine lv_aload_n hx hb dX0_weightOf_21 rfl (lv_at hl 2 rfl) ?_
      refine va_get (D := D) (ci := 0) (v := .ref (a 47)) (C := RX0) (T := TX0) (N := 19) hx hb hts iX0 hown hK hP 0 rfl rfl 14 (by decide) (hts _ m_175) (fun _ h9 => h9) rfl dX0_weightOf_22 ?_
      refine lv_iload_n hx hb dX0_weightOf_25 rfl (lv_at hl 0 rfl) ?_
      refine va_iald hx hb hK hP 1 0 rfl rfl (in_rg h_6 (by decide) (by decide)) dX0_weightOf_26 ?_
      refine lv_topi (fun x_13 ex_13 => ?_)
      refine lv_iadd hx hb dX0_weightOf_27 ?_
      refine lv_topi (fun x_14 ex_14 => ?_)
      refine lv_istore_n (lv' := [(2, .int x_14), (3, .int (y_1.1 0)), (0, .ref (a 40)), (1, .int p0)]) hx hb dX0_weightOf_28 rfl hl (by decide) rfl (fun ls hl => ?_)
      obtain ⟨x_15, ex_15⟩ : ∃ y9 : Int32, y9 = (y_1.1 0) + 1 := ⟨_, rfl⟩
      have hx_15 : rg 1 9 x_15 := by rw [ex_15]; exact rg_add h_6 (rg_c (x := 1) (k := 1) (by decide)) (by decide) (by decide) (by decide) (by decide)
      have tx_15 : x_15.toInt = (y_1.1 0).toInt + 1 := by rw [ex_15]; exact inc_tk h_6 (by decide) (by decide) (by decide)
      refine lv_iinc (v := x_15) (lv' := [(3, .int x_15), (2, .int x_14), (0, .ref (a 40)), (1, .int p0)]) hx hb dX0_weightOf_29 hl (k := 1) rfl (by rw [ex_15]; rfl) (by decide) rfl (fun ls hl => ?_)
      refine lv_goto (tgt := 4) hx hb dX0_weightOf_32 (by decide) ?_
      exact ih_3 (fun k => [x_15, x_14].getD k 0, fun k => [].getD k (fun _ => 0), fun k => [].getD k (fun _ => 0), fun k => [].getD k 0) _ _ ls ⟨(m_upk me_4 tx_15 (by decide)), (rg_w (c := 0) (d := 9) hx_15 (by decide) (by decide)), hP, hS, (lv_sub hl [0, 1, 2, 3] rfl)⟩

set_option maxHeartbeats 4000000 in
set_option maxRecDepth 100000 in
theorem s_X0_liking_40 (l : Launch) (D : va_G) (t : Nat → ClassId) (a : Nat → Nat) (v40_0 : Int32) (v40_1 : Int32) (v40_2 : Int32) (v40_3 : Int32) (v40_4 : Int32) (v40_5 : Int32) (v40_6 : Int32) (v40_7 : Int32) (f45 : Nat → Int32) (f49 : Nat → Int32) (p0 : Int32) (p1 : Int32) (r40_1 : rg 0 8 v40_1) (r40_5 : rg 0 4 v40_5) (r40_6 : rg 0 9 v40_6) (r40_7 : rg 0 9 v40_7) : Met l yX0_liking (wd yX0_liking cX0_liking 3 (some .int)) (RM 1 0 0) (PreP D (TY t) [.ref (a 40), .int p0, .int p1] [(a 40, .inr (0, [.int v40_0, .int v40_1, .int v40_2, .int v40_3, .int v40_4, .int v40_5, .int v40_6, .int v40_7, .ref (a 41), .ref (a 42), .ref (a 43), .ref (a 44), .ref (a 45), .ref (a 46), .ref (a 47), .ref (a 48), .ref (a 49), .ref (a 50), .ref (a 54)])), (a 45, .inl (t 0, 9, .inl f45)), (a 49, .inl (t 0, 9, .inl f49))]) (QP (fun r => rg 0 63 r)) 0 0 NoF := by
  refine Met.ofW (cc := cX0_liking) (maxL := 3) (ret := (some .int)) (by decide) rfl ?_
  intro p e s m args below meth c s₁ B hml hv
  obtain ⟨rfl, hP, hK, hN⟩ := hv
  have hx := B.exec
  have hb := B.bytes
  have hr := B.returns
  have hts : ∀ w ∈ TB, w.before _ s = true := fun w h => atoms_spec (ws := wd yX0_liking cX0_liking 3 (some .int)) B.pre w (List.mem_cons_of_mem _ h)
  have hown : s.vm.findClass RX0 = some m.cls := findClass_of_methodNamed B.named
  have hlocks := B.notSynchronized
  have hF : CallFix p m c cX0_liking 3 s _ TB RX0 := ⟨hx, hb, hml, hown, hts⟩
  have hl := lv_entry ([.ref (a 40), .int p0, .int p1]) (n := 3) (Nat.le_of_ble_eq_true rfl)
  rw [lg_entry_eq]
  generalize (lg_sl ([.ref (a 40), .int p0, .int p1]) ++ List.replicate (3 - (lg_sl ([.ref (a 40), .int p0, .int p1])).length) Slot.unset).toArray = ls at hl ⊢
  have hl : lv_has ls 3 [(0, .ref (a 40)), (1, .int p0), (2, .int p1)] := hl
  have hS : va_S NoF s.heap s.heap [] := va_S.rf
  have hP : va_P D classes [(a 40, .inr (0, [.int v40_0, .int v40_1, .int v40_2, .int v40_3, .int v40_4, .int v40_5, .int v40_6, .int v40_7, .ref (a 41), .ref (a 42), .ref (a 43), .ref (a 44), .ref (a 45), .ref (a 46), .ref (a 47), .ref (a 48), .ref (a 49), .ref (a 50), .ref (a 54)])), (a 45, .inl (t 0, 9, .inl f45)), (a 49, .inl (t 0, 9, .inl f49))] s.heap := hP
  refine lv_aload_n hx hb dX0_liking_0 rfl (lv_at hl 0 rfl) ?_
  refine lv_iload_n hx hb dX0_liking_1 rfl (lv_at hl 1 rfl) ?_
  refine y_pV hF (s_X0_hasSpeaker_40 l D t a v40_0 v40_1 v40_2 v40_3 v40_4 v40_5 v40_6 v40_7 p0 r40_1 r40_5 r40_6 r40_7) m_750 m_714 m_715 m_3 m_716 hd_X0_hasSpeaker ⟨Nat.le_of_ble_eq_true rfl, Nat.le_of_ble_eq_true rfl⟩ hK hN hP hS [0] rfl 0 (ci := 0) rfl rfl rfl hl.1 rfl (Nat.le_of_ble_eq_true rfl) dX0_liking_2 ⟨Nat.zero_le _, Nat.zero_le _⟩ (fun r_1 H locs hr_1 hP hS => ?_)
  refine lv_if_eq (tgt := 16) hx hb dX0_liking_5 (by decide) (fun c_2 => ?_) (fun c_2 => ?_)
  · skip
    refine lv_iconst (v := 0) hx hb dX0_liking_16 (by decide) ?_
    exact W.iret (v := 0) hx hb hr (fun t9 ht hW => ⟨⟨0, (), rfl, (rg_w (c := 0) (d := 63) (rg_c (x := 0) (k := 0) (by decide)) (by decide) (by decide)), trivial⟩, hS.F ht⟩) hS.2.2 dX0_liking_17
  · skip
    have o_3 := Or.resolve_left hr_1.2 c_2
    refine lv_aload_n hx hb dX0_liking_8 rfl (lv_at hl 0 rfl) ?_
    refine lv_iload_n hx hb dX0_liking_9 rfl (lv_at hl 2 rfl) ?_
    refine y_pV hF (s_X0_hasWord_40 l D t a v40_0 v40_1 v40_2 v40_3 v40_4 v40_5 v40_6 v40_7 p1 r40_1 r40_5 r40_6 r40_7) m_751 m_703 m_704 m_3 m_705 hd_X0_hasWord ⟨Nat.le_of_ble_eq_true rfl, Nat.le_of_ble_eq_true rfl⟩ hK hN hP hS [0] rfl 0 (ci := 0) rfl rfl rfl hl.1 rfl (Nat.le_of_ble_eq_true rfl) dX0_liking_10 ⟨Nat.zero_le _, Nat.zero_le _⟩ (fun r_4 H locs hr_4 hP hS => ?_)
    refine lv_if_ne (tgt := 18) hx hb dX0_liking_13 (by decide) (fun c_5 => ?_) (fun c_5 => ?_)
    · skip
      have o_6 := Or.resolve_left hr_4.2 c_5
      refine lv_aload_n hx hb dX0_liking_18 rfl (lv_at hl 0 rfl) ?_
      refine va_get (D := D) (ci := 0) (v := .ref (a 49)) (C := RX0) (T := TX0) (N := 19) hx hb hts iX0 hown hK hP 0 rfl rfl 16 (by decide) (hts _ m_182) (fun _ h9 => h9) rfl dX0_liking_19 ?_
      refine lv_iload_n hx hb dX0_liking_22 rfl (lv_at hl 1 rfl) ?_
      refine va_iald hx hb hK hP 2 0 rfl rfl (in_rg o_3 (by decide) (by decide)) dX0_liking_23 ?_
      refine lv_topi (fun x_7 ex_7 => ?_)
      refine lv_aload_n hx hb dX0_liking_24 rfl (lv_at hl 0 rfl) ?_
      refine va_get (D := D) (ci := 0) (v := .ref (a 45)) (C := RX0) (T := TX0) (N := 19) hx hb hts iX0 hown hK hP 0 rfl rfl 12 (by decide) (hts _ m_168) (fun _ h9 => h9) rfl dX0_liking_25 ?_
      refine lv_iload_n hx hb dX0_liking_28 rfl (lv_at hl 2 rfl) ?_
      refine va_iald hx hb hK hP 1 0 rfl rfl (in_rg o_6 (by decide) (by decide)) dX0_liking_29 ?_
      refine lv_topi (fun x_8 ex_8 => ?_)
      refine lv_iand hx hb dX0_liking_30 ?_
      refine lv_topi (fun x_9 ex_9 => ?_)
      refine y_pS hF (s_J6_bitCount_0f7a4 l D t a x_9) m_752 m_753 m_21 m_754 hd_J6_bitCount_0f7a4 ⟨Nat.le_of_ble_eq_true rfl, Nat.le_of_ble_eq_true rfl⟩ hK hN hP hS [] rfl hl.1 rfl (Nat.le_of_ble_eq_true rfl) dX0_liking_31 ⟨Nat.zero_le _, Nat.zero_le _⟩ (fun r_10 H locs hr_10 hP hS => ?_)
      exact W.iret (v := r_10) hx hb hr (fun t9 ht hW => ⟨⟨r_10, (), rfl, hr_10, trivial⟩, hS.F ht⟩) hS.2.2 dX0_liking_34
    · skip
      refine lv_iconst (v := 0) hx hb dX0_liking_16 (by decide) ?_
      exact W.iret (v := 0) hx hb hr (fun t9 ht hW => ⟨⟨0, (), rfl, (rg_w (c := 0) (d := 63) (rg_c (x := 0) (k := 0) (by decide)) (by decide) (by decide)), trivial⟩, hS.F ht⟩) hS.2.2 dX0_liking_17

set_option maxHeartbeats 4000000 in
set_option maxRecDepth 100000 in
theorem s_X0_canSit_40 (l : Launch) (D : va_G) (t : Nat → ClassId) (a : Nat → Nat) (v40_0 : Int32) (v40_1 : Int32) (v40_2 : Int32) (v40_3 : Int32) (v40_4 : Int32) (v40_5 : Int32) (v40_6 : Int32) (v40_7 : Int32) (f43 : Nat → Int32) (v54_0 : Int32) (v54_1 : Int32) (v54_2 : Int32) (p0 : Int32) (r40_1 : rg 0 8 v40_1) (r40_5 : rg 0 4 v40_5) (r40_6 : rg 0 9 v40_6) (r40_7 : rg 0 9 v40_7) (q43 : ∀ j, j < 9 → rg 0 3 (f43 j)) (r54_0 : rg 0 60 v54_0) : Met l yX0_canSit (wd yX0_canSit cX0_canSit 4 (some .boolean)) (RM 1 0 0) (PreP D (TY t) [.ref (a 40), .int p0] [(a 40, .inr (0, [.int v40_0, .int v40_1, .int v40_2, .int v40_3, .int v40_4, .int v40_5, .int v40_6, .int v40_7, .ref (a 41), .ref (a 42), .ref (a 43), .ref (a 44), .ref (a 45), .ref (a 46), .ref (a 47), .ref (a 48), .ref (a 49), .ref (a 50), .ref (a 54)])), (a 43, .inl (t 0, 9, .inl f43)), (a 54, .inr (9, [.int v54_0, .int v54_1, .int v54_2, .ref (a 55), .ref (a 56), .ref (a 57), .ref (a 58)]))]) (QP (fun r => rg 0 1 r)) 0 0 NoF := by
  refine Met.ofW (cc := cX0_canSit) (maxL := 4) (ret := (some .boolean)) (by decide) rfl ?_
  intro p e s m args below meth c s₁ B hml hv
  obtain ⟨rfl, hP, hK, hN⟩ := hv
  have hx := B.exec
  have hb := B.bytes
  have hr := B.returns
  have hts : ∀ w ∈ TB, w.before _ s = true := fun w h => atoms_spec (ws := wd yX0_canSit cX0_canSit 4 (some .boolean)) B.pre w (List.mem_cons_of_mem _ h)
  have hown : s.vm.findClass RX0 = some m.cls := findClass_of_methodNamed B.named
  have hlocks := B.notSynchronized
  have hF : CallFix p m c cX0_canSit 4 s _ TB RX0 := ⟨hx, hb, hml, hown, hts⟩
  have hl := lv_entry ([.ref (a 40), .int p0]) (n := 4) (Nat.le_of_ble_eq_true rfl)
  rw [lg_entry_eq]
  generalize (lg_sl ([.ref (a 40), .int p0]) ++ List.replicate (4 - (lg_sl ([.ref (a 40), .int p0])).length) Slot.unset).toArray = ls at hl ⊢
  have hl : lv_has ls 4 [(0, .ref (a 40)), (1, .int p0)] := hl
  have hS : va_S NoF s.heap s.heap [] := va_S.rf
  have hP : va_P D classes [(a 40, .inr (0, [.int v40_0, .int v40_1, .int v40_2, .int v40_3, .int v40_4, .int v40_5, .int v40_6, .int v40_7, .ref (a 41), .ref (a 42), .ref (a 43), .ref (a 44), .ref (a 45), .ref (a 46), .ref (a 47), .ref (a 48), .ref (a 49), .ref (a 50), .ref (a 54)])), (a 43, .inl (t 0, 9, .inl f43)), (a 54, .inr (9, [.int v54_0, .int v54_1, .int v54_2, .ref (a 55), .ref (a 56), .ref (a 57), .ref (a 58)]))] s.heap := hP
  refine lv_iload_n hx hb dX0_canSit_0 rfl (lv_at hl 1 rfl) ?_
  refine lv_aload_n hx hb dX0_canSit_1 rfl (lv_at hl 0 rfl) ?_
  refine va_get (D := D) (ci := 0) (v := .ref (a 54)) (C := RX0) (T := TX0) (N := 19) hx hb hts iX0 hown hK hP 0 rfl rfl 18 (by decide) (hts _ m_189) (fun _ h9 => h9) rfl dX0_canSit_2 ?_
  refine va_getN (D := D) (ci := 9) (v := .int v54_2) (C := RX9) (T := TX9) (N := 7) (host := "WordSeats") hx hb hts iX9 hown hK hP 2 rfl rfl 2 (by decide) (va_Nw.use rfl (hN _ n_94)) (fun _ h9 => h9) rfl dX0_canSit_5 ?_
  refine lv_iand hx hb dX0_canSit_8 ?_
  refine lv_topi (fun x_1 ex_1 => ?_)
  refine lv_if_eq (tgt := 14) hx hb dX0_canSit_9 (by decide) (fun c_2 => ?_) (fun c_2 => ?_)
  · skip
    have h_3 : rg 0 0 x_1 := rg_eq c_2 (rg_c (x := 0) (k := 0) (by decide))
    refine lv_iconst (v := 0) hx hb dX0_canSit_14 (by decide) ?_
    refine lv_istore_n (lv' := [(2, .int 0), (0, .ref (a 40)), (1, .int p0)]) hx hb dX0_canSit_15 rfl hl (by decide) rfl (fun ls hl => ?_)
    refine lv_iconst (v := 0) hx hb dX0_canSit_16 (by decide) ?_
    refine lv_istore_n (lv' := [(3, .int 0), (2, .int 0), (0, .ref (a 40)), (1, .int p0)]) hx hb dX0_canSit_17 rfl hl (by decide) rfl (fun ls hl => ?_)
    refine loopW (α := US) (fun n y_4 H locs ls => 9 < (y_4.1 0).toInt + (n : Int) ∧ rg 0 9 (y_4.1 0) ∧ rg 0 15 (y_4.1 1) ∧ va_P D classes [(a 40, .inr (0, [.int v40_0, .int v40_1, .int v40_2, .int v40_3, .int v40_4, .int v40_5, .int v40_6, .int v40_7, .ref (a 41), .ref (a 42), .ref (a 43), .ref (a 44), .ref (a 45), .ref (a 46), .ref (a 47), .ref (a 48), .ref (a 49), .ref (a 50), .ref (a 54)])), (a 43, .inl (t 0, 9, .inl f43)), (a 54, .inr (9, [.int v54_0, .int v54_1, .int v54_2, .ref (a 55), .ref (a 56), .ref (a 57), .ref (a 58)]))] H ∧ va_S NoF s.heap H locs ∧ lv_has ls 4 [(3, .int (y_4.1 0)), (2, .int (y_4.1 1)), (0, .ref (a 40)), (1, .int p0)]) 18 (fun y_4 => []) (fun _ _ _ _ h9 => m_0 h9.1 h9.2.1) (fun n ih_7 y_4 H locs ls hI => ?_) 10 (fun k => [0, 0].getD k 0, fun k => [].getD k (fun _ => 0), fun k => [].getD k (fun _ => 0), fun k => [].getD k 0) ⟨(m_i (rg_c (x := 0) (k := 0) (by decide)) (by decide)), (rg_w (c := 0) (d := 9) (rg_c (x := 0) (k := 0) (by decide)) (by decide) (by decide)), (rg_w (c := 0) (d := 15) (rg_c (x := 0) (k := 0) (by decide)) (by decide) (by decide)), hP, hS, (lv_sub hl [0, 1, 2, 3] rfl)⟩
    obtain ⟨me_8, h_5, h_6, hP, hS, hl⟩ := hI
    refine lv_iload_n hx hb dX0_canSit_18 rfl (lv_at hl 0 rfl) ?_
    refine lv_aload_n hx hb dX0_canSit_19 rfl (lv_at hl 2 rfl) ?_
    refine va_get (D := D) (ci := 0) (v := .int v40_6) (C := RX0) (T := TX0) (N := 19) hx hb hts iX0 hown hK hP 0 rfl rfl 6 (by decide) (hts _ m_142) (fun _ h9 => h9) rfl dX0_canSit_20 ?_
    refine lv_icmp_ge (tgt := 66) hx hb dX0_canSit_23 (by decide) (fun c_9 => ?_) (fun c_9 => ?_)
    · skip
      refine lv_iconst (v := 1) hx hb dX0_canSit_66 (by decide) ?_
      exact W.zret (v := 1) hx hb hr rfl (fun t9 ht hW => ⟨⟨1, (), rfl, (rg_w (c := 0) (d := 1) (rg_c (x := 1) (k := 1) (by decide)) (by decide) (by decide)), trivial⟩, hS.F ht⟩) hS.2.2 dX0_canSit_67
    · skip
      have h_10 : rg 0 8 (y_4.1 0) := ⟨(h_5).1, Int.le_trans (c_nleR c_9 r40_6) (by decide)⟩
      have h_11 : rg 1 9 v40_6 := ⟨Int.le_trans (by decide) (c_nle c_9 h_5), (r40_6).2⟩
      refine lv_iload_n hx hb dX0_canSit_26 rfl (lv_at hl 3 rfl) ?_
      refine lv_iload_n hx hb dX0_canSit_27 rfl (lv_at hl 0 rfl) ?_
      refine y_pSN hF (s_X11_holds l D t a p0 (y_4.1 0)) n_741 m_707 m_1 m_708 hd_X11_holds ⟨Nat.le_of_ble_eq_true rfl, Nat.le_of_ble_eq_true rfl⟩ hK hN hP hS [] rfl hl.1 rfl (Nat.le_of_ble_eq_true rfl) dX0_canSit_28 ⟨Nat.zero_le _, Nat.zero_le _⟩ (fun r_12 H locs hr_12 hP hS => ?_)
      refine lv_if_eq (tgt := 60) hx hb dX0_canSit_31 (by decide) (fun c_13 => ?_) (fun c_13 => ?_)
      · skip
        have h_14 : rg 0 0 r_12 := rg_eq c_13 (rg_c (x := 0) (k := 0) (by decide))
        obtain ⟨x_15, ex_15⟩ : ∃ y9 : Int32, y9 = (y_4.1 0) + 1 := ⟨_, rfl⟩
        have hx_15 : rg 1 9 x_15 := by rw [ex_15]; exact rg_add h_10 (rg_c (x := 1) (k := 1) (by decide)) (by decide) (by decide) (by decide) (by decide)
        have tx_15 : x_15.toInt = (y_4.1 0).toInt + 1 := by rw [ex_15]; exact inc_tk h_10 (by decide) (by decide) (by decide)
        refine lv_iinc (v := x_15) (lv' := [(3, .int x_15), (2, .int (y_4.1 1)), (0, .ref (a 40)), (1, .int p0)]) hx hb dX0_canSit_60 hl (k := 0) rfl (by rw [ex_15]; rfl) (by decide) rfl (fun ls hl => ?_)
        refine lv_goto (tgt := 18) hx hb dX0_canSit_63 (by decide) ?_
        exact ih_7 (fun k => [x_15, (y_4.1 1)].getD k 0, fun k => [].getD k (fun _ => 0), fun k => [].getD k (fun _ => 0), fun k => [].getD k 0) _ _ ls ⟨(m_upk me_8 tx_15 (by decide)), (rg_w (c := 0) (d := 9) hx_15 (by decide) (by decide)), h_6, hP, hS, (lv_sub hl [0, 1, 2, 3] rfl)⟩
      · skip
        have h_16 : rg 1 1 r_12 := rg_w (rg_neL hr_12 c_13 (by decide)) (by decide) (by decide)
        refine lv_iload_n hx hb dX0_canSit_34 rfl (lv_at hl 1 rfl) ?_
        refine lv_aload_n hx hb dX0_canSit_35 rfl (lv_at hl 2 rfl) ?_
        refine va_get (D := D) (ci := 0) (v := .ref (a 43)) (C := RX0) (T := TX0) (N := 19) hx hb hts iX0 hown hK hP 0 rfl rfl 10 (by decide) (hts _ m_160) (fun _ h9 => h9) rfl dX0_canSit_36 ?_
        refine lv_iload_n hx hb dX0_canSit_39 rfl (lv_at hl 0 rfl) ?_
        refine va_iald hx hb hK hP 1 0 rfl rfl (in_rg h_10 (by decide) (by decide)) dX0_canSit_40 ?_
        refine lv_topi (fun x_17 ex_17 => ?_)
        have hx_17 : rg 0 3 x_17 := by rw [ex_17]; exact q43 _ (cl_rg h_10 (by decide) (by decide))
        refine y_pSN hF (s_X11_holds l D t a (y_4.1 1) x_17) n_741 m_707 m_1 m_708 hd_X11_holds ⟨Nat.le_of_ble_eq_true rfl, Nat.le_of_ble_eq_true rfl⟩ hK hN hP hS [] rfl hl.1 rfl (Nat.le_of_ble_eq_true rfl) dX0_canSit_41 ⟨Nat.zero_le _, Nat.zero_le _⟩ (fun r_18 H locs hr_18 hP hS => ?_)
        refine lv_if_eq (tgt := 49) hx hb dX0_canSit_44 (by decide) (fun c_19 => ?_) (fun c_19 => ?_)
        · skip
          have h_20 : rg 0 0 r_18 := rg_eq c_19 (rg_c (x := 0) (k := 0) (by decide))
          refine lv_iload_n hx hb dX0_canSit_49 rfl (lv_at hl 1 rfl) ?_
          refine lv_iconst (v := 1) hx hb dX0_canSit_50 (by decide) ?_
          refine lv_aload_n hx hb dX0_canSit_51 rfl (lv_at hl 2 rfl) ?_
          refine va_get (D := D) (ci := 0) (v := .ref (a 43)) (C := RX0) (T := TX0) (N := 19) hx hb hts iX0 hown hK hP 0 rfl rfl 10 (by decide) (hts _ m_160) (fun _ h9 => h9) rfl dX0_canSit_52 ?_
          refine lv_iload_n hx hb dX0_canSit_55 rfl (lv_at hl 0 rfl) ?_
          refine va_iald hx hb hK hP 1 0 rfl rfl (in_rg h_10 (by decide) (by decide)) dX0_canSit_56 ?_
          refine lv_topi (fun x_21 ex_21 => ?_)
          have hx_21 : rg 0 3 x_21 := by rw [ex_21]; exact q43 _ (cl_rg h_10 (by decide) (by decide))
          refine lv_ishl hx hb dX0_canSit_57 ?_
          refine lv_topi (fun x_22 ex_22 => ?_)
          have hx_22 : rg 1 8 x_22 := by rw [ex_22]; exact rg_shl1 (b := 3) hx_21 (by decide) (by decide)
          refine lv_ior hx hb dX0_canSit_58 ?_
          refine lv_topi (fun x_23 ex_23 => ?_)
          have hx_23 : rg 0 15 x_23 := by rw [ex_23]; exact rg_or (m := 4) h_6 (rg_w (c := 0) (d := 15) hx_22 (by decide) (by decide)) (by decide) (by decide)
          refine lv_istore_n (lv' := [(2, .int x_23), (3, .int (y_4.1 0)), (0, .ref (a 40)), (1, .int p0)]) hx hb dX0_canSit_59 rfl hl (by decide) rfl (fun ls hl => ?_)
          obtain ⟨x_24, ex_24⟩ : ∃ y9 : Int32, y9 = (y_4.1 0) + 1 := ⟨_, rfl⟩
          have hx_24 : rg 1 9 x_24 := by rw [ex_24]; exact rg_add h_10 (rg_c (x := 1) (k := 1) (by decide)) (by decide) (by decide) (by decide) (by decide)
          have tx_24 : x_24.toInt = (y_4.1 0).toInt + 1 := by rw [ex_24]; exact inc_tk h_10 (by decide) (by decide) (by decide)
          refine lv_iinc (v := x_24) (lv' := [(3, .int x_24), (2, .int x_23), (0, .ref (a 40)), (1, .int p0)]) hx hb dX0_canSit_60 hl (k := 1) rfl (by rw [ex_24]; rfl) (by decide) rfl (fun ls hl => ?_)
          refine lv_goto (tgt := 18) hx hb dX0_canSit_63 (by decide) ?_
          exact ih_7 (fun k => [x_24, x_23].getD k 0, fun k => [].getD k (fun _ => 0), fun k => [].getD k (fun _ => 0), fun k => [].getD k 0) _ _ ls ⟨(m_upk me_8 tx_24 (by decide)), (rg_w (c := 0) (d := 9) hx_24 (by decide) (by decide)), hx_23, hP, hS, (lv_sub hl [0, 1, 2, 3] rfl)⟩
        · skip
          have h_25 : rg 1 1 r_18 := rg_w (rg_neL hr_18 c_19 (by decide)) (by decide) (by decide)
          refine lv_iconst (v := 0) hx hb dX0_canSit_47 (by decide) ?_
          exact W.zret (v := 0) hx hb hr rfl (fun t9 ht hW => ⟨⟨0, (), rfl, (rg_w (c := 0) (d := 1) (rg_c (x := 0) (k := 0) (by decide)) (by decide) (by decide)), trivial⟩, hS.F ht⟩) hS.2.2 dX0_canSit_48
  · skip
    refine lv_iconst (v := 0) hx hb dX0_canSit_12 (by decide) ?_
    exact W.zret (v := 0) hx hb hr rfl (fun t9 ht hW => ⟨⟨0, (), rfl, (rg_w (c := 0) (d := 1) (rg_c (x := 0) (k := 0) (by decide)) (by decide) (by decide)), trivial⟩, hS.F ht⟩) hS.2.2 dX0_canSit_13

